section
/-! 21a -/
def beB (v n : Int) : List Int := (List.range n.toNat).map (fun k : Nat => u8 (v / p2 (56 - 8 * (k : Int))))
theorem beB_s {v n m : Int} (h : 0 ≤ n) (e : m = n + 1) : beB v m = beB v n ++ [u8 (v / p2 (56 - 8 * n))] := by
  subst e
  unfold beB
  rw [show (n + 1).toNat = n.toNat + 1 by omega, List.range_succ, List.map_append]
  show _ ++ [u8 (v / p2 (56 - 8 * ((n.toNat : Nat) : Int)))] = _
  rw [Int.toNat_of_nonneg h]
theorem beB_len {v n : Int} : (beB v n).length = n.toNat := by
  unfold beB
  rw [List.length_map, List.length_range]
def fdK (a b c d k : Int) : Int := u8 ((if k < 4 then a else if k < 8 then b else if k < 12 then c else d) / p2 (24 - 8 * (k % 4)))
def fdL (a b c d n : Int) : List Int := (List.range n.toNat).map (fun k : Nat => fdK a b c d (k : Int))
theorem fdL_s {a b c d n m : Int} (h : 0 ≤ n) (e : m = n + 1) : fdL a b c d m = fdL a b c d n ++ [fdK a b c d n] := by
  subst e
  unfold fdL
  rw [show (n + 1).toNat = n.toNat + 1 by omega, List.range_succ, List.map_append]
  show _ ++ [fdK a b c d ((n.toNat : Nat) : Int)] = _
  rw [Int.toNat_of_nonneg h]
theorem fd_hi {a b k : Int} (h : 0 ≤ k ∧ k < 4) : u8 ((a * 4294967296 + b % 4294967296) / p2 (56 - 8 * k)) = u8 (a / p2 (24 - 8 * k)) := by
  unfold u8
  rcases (show k = 0 ∨ k = 1 ∨ k = 2 ∨ k = 3 by omega) with e | e | e | e <;> subst e
  · rw [show p2 (56 - 8 * 0) = 72057594037927936 by decide, show p2 (24 - 8 * 0) = 16777216 by decide]; omega
  · rw [show p2 (56 - 8 * 1) = 281474976710656 by decide, show p2 (24 - 8 * 1) = 65536 by decide]; omega
  · rw [show p2 (56 - 8 * 2) = 1099511627776 by decide, show p2 (24 - 8 * 2) = 256 by decide]; omega
  · rw [show p2 (56 - 8 * 3) = 4294967296 by decide, show p2 (24 - 8 * 3) = 1 by decide]; omega
theorem fd_lo {a b k j : Int} (h : 0 ≤ k ∧ k < 4) (e : j = 4 + k) : u8 ((a * 4294967296 + b % 4294967296) / p2 (56 - 8 * j)) = u8 (b / p2 (24 - 8 * k)) := by
  subst e
  unfold u8
  rcases (show k = 0 ∨ k = 1 ∨ k = 2 ∨ k = 3 by omega) with e | e | e | e <;> subst e
  · rw [show p2 (56 - 8 * (4 + 0)) = 16777216 by decide, show p2 (24 - 8 * 0) = 16777216 by decide]; omega
  · rw [show p2 (56 - 8 * (4 + 1)) = 65536 by decide, show p2 (24 - 8 * 1) = 65536 by decide]; omega
  · rw [show p2 (56 - 8 * (4 + 2)) = 256 by decide, show p2 (24 - 8 * 2) = 256 by decide]; omega
  · rw [show p2 (56 - 8 * (4 + 3)) = 1 by decide, show p2 (24 - 8 * 3) = 1 by decide]; omega
theorem fd_be8 {a b c d : Int} {k : Nat} (h : k < 8) : u8 ((a * 4294967296 + b % 4294967296) / p2 (56 - 8 * (k : Int))) = fdK a b c d (k : Int) := by
  unfold fdK
  by_cases q : (k : Int) < 4
  · rw [if_pos q, show (k : Int) % 4 = (k : Int) by omega]
    exact fd_hi (by omega)
  · rw [if_neg q, if_pos (by omega)]
    exact fd_lo (by omega) (by omega)
theorem fd_be16 {a b c d : Int} {k : Nat} (h : k < 8) : u8 ((c * 4294967296 + d % 4294967296) / p2 (56 - 8 * (k : Int))) = fdK a b c d ((8 + k : Nat) : Int) := by
  unfold fdK
  rw [if_neg (by omega), if_neg (by omega)]
  by_cases q : (k : Int) < 4
  · rw [if_pos (by omega), show ((8 + k : Nat) : Int) % 4 = (k : Int) by omega]
    exact fd_hi (by omega)
  · rw [if_neg (by omega)]
    exact fd_lo (by omega) (by omega)
theorem fd_be {a b c d : Int} : beB (a * 4294967296 + b % 4294967296) 8 ++ beB (c * 4294967296 + d % 4294967296) 8 = fdL a b c d 16 := by
  unfold beB fdL
  rw [show (16 : Int).toNat = 8 + 8 from rfl, show (8 : Int).toNat = 8 from rfl, List.range_add, List.map_append, List.map_map]
  congr 1
  · exact List.map_congr_left (fun k hk => fd_be8 (List.mem_range.mp hk))
  · exact List.map_congr_left (fun k hk => fd_be16 (List.mem_range.mp hk))

noncomputable def rwR (ro si : Int → Int) (r : Int) : List Int := sc (sh ro (65536 * r)) 0 (si r)
def RWC (ro si ro2 si2 : Int → Int) (r : Int) (L : List Int) : Prop := rwR ro2 si2 r = L ∧ ∀ q, 0 ≤ q → q ≤ 3 → q ≠ r → rwR ro2 si2 q = rwR ro si q
def APQ (ro si ro2 si2 : Int → Int) (r v ret : Int) : Prop := ret = 0 ∧ si r = 65536 ∧ ro2 = ro ∧ si2 = si ∨ ret = 1 ∧ si r ≠ 65536 ∧ ro2 = upd1 ro (65536 * r + si r) (u8 v) ∧ si2 = upd1 si r (si r + 1)
section RWx
variable {ro si ro2 si2 ro3 si3 : Int → Int} {r v ret : Int} {L M : List Int}
theorem rwR_len (h : 0 ≤ si r) : ((rwR ro si r).length : Int) = si r := by
  unfold rwR
  rw [sc_lenI h]
  omega
theorem RWC_0 : RWC ro si ro si r (rwR ro si r) := ⟨rfl, fun _ _ _ _ => rfl⟩
theorem RWC_t (h : RWC ro si ro2 si2 r L) (k : RWC ro2 si2 ro3 si3 r M) : RWC ro si ro3 si3 r M := ⟨k.1, fun q a b c => (k.2 q a b c).trans (h.2 q a b c)⟩
theorem APQ_1 (h : APQ ro si ro2 si2 r v ret) (hs : ∀ i, 0 ≤ si i ∧ si i ≤ 65536) (hr : 0 ≤ r ∧ r ≤ 3) (hl : si r < 65536) : ret = 1 ∧ RWC ro si ro2 si2 r (rwR ro si r ++ [u8 v]) ∧ si2 r = si r + 1 := by
  rcases h with ⟨_, a, _⟩ | ⟨a, _, b, c⟩
  · omega
  · subst b c
    refine ⟨a, ⟨?_, fun q x y z => ?_⟩, upd1_s⟩
    · unfold rwR
      rw [upd1_s, sc_snoc (hs r).1 rfl]
      congr 1
      · refine sc_same (fun k p q => ?_)
        unfold sh
        exact upd1_o (by omega)
      · unfold sh
        rw [upd1_s, u8_id (u8_rng v)]
    · unfold rwR
      rw [upd1_o z]
      refine sc_same (fun k p w => ?_)
      unfold sh
      have := hs q
      have := hs r
      exact upd1_o (by omega)
theorem RWC_a (h : RWC ro si ro2 si2 r L) (k : RWC ro2 si2 ro3 si3 r (rwR ro2 si2 r ++ M)) : RWC ro si ro3 si3 r (L ++ M) := by
  have t := RWC_t h k
  rw [h.1] at t
  exact t
theorem RWC_e (h : RWC ro si ro2 si2 r L) (e : L = M) : RWC ro si ro2 si2 r M := e ▸ h
theorem rwR_g {k : Int} (h0 : 0 ≤ k) (h1 : k < si r) (hr : ∀ i, 0 ≤ ro i ∧ ro i ≤ 255) : ap (rwR ro si r) k = ro (65536 * r + k) := by
  unfold rwR
  rw [ap_sc h0 h1]
  unfold sh
  exact u8_id (hr _)
end RWx

def DFF (L M : List Int) (r : Int) : Prop := (r = -1 ∧ L = M) ∨ (0 ≤ r ∧ r ≤ (L.length : Int) ∧ r ≤ (M.length : Int) ∧ (∀ k, 0 ≤ k → k < r → ap L k = ap M k) ∧ (r < (L.length : Int) ∧ r < (M.length : Int) ∧ ap L r ≠ ap M r ∨ (L.length : Int) ≠ (M.length : Int) ∧ (r = (L.length : Int) ∨ r = (M.length : Int))))
theorem DFF_det {L M : List Int} {r s : Int} (h : DFF L M r) (k : DFF L M s) : r = s := by
  rcases h with ⟨a, b⟩ | ⟨a, b, c, d, e⟩ <;> rcases k with ⟨a2, b2⟩ | ⟨a2, b2, c2, d2, e2⟩
  · omega
  · subst b
    rcases e2 with ⟨x, y, z⟩ | ⟨x, y⟩
    · exact absurd rfl z
    · exact absurd rfl x
  · subst b2
    rcases e with ⟨x, y, z⟩ | ⟨x, y⟩
    · exact absurd rfl z
    · exact absurd rfl x
  · refine Int.le_antisymm ?_ ?_
    · refine Int.not_lt.mp (fun q => ?_)
      rcases e2 with ⟨x, y, z⟩ | ⟨x, y⟩
      · exact z (d s a2 q)
      · omega
    · refine Int.not_lt.mp (fun q => ?_)
      rcases e with ⟨x, y, z⟩ | ⟨x, y⟩
      · exact z (d2 r a q)
      · omega

def CHQ (ok : Prop) (L N : List Int) (ret : Int) (L2 : List Int) : Prop := (ok ∧ ret = 1 ∧ L2 = N) ∨ (¬ ok ∧ ret = 0 ∧ L2 = L)
noncomputable def prL (L : List Int) (a b : Int) : List Int := if 0 ≤ a ∧ a ≤ b ∧ b ≤ (L.length : Int) then sc (ap L) a b else []
theorem prL_y {L : List Int} {a b : Int} (h : 0 ≤ a ∧ a ≤ b ∧ b ≤ (L.length : Int)) : prL L a b = sc (ap L) a b := if_pos h
theorem prL_n {L : List Int} {a b : Int} (h : ¬ (0 ≤ a ∧ a ≤ b ∧ b ≤ (L.length : Int))) : prL L a b = [] := if_neg h
theorem u8_w32 (x : Int) : u8 (w32 x) = u8 x := by
  have := w32_m x
  unfold u8
  omega
theorem cpb_sp {W : List Int} {d n m v : Int} (h : 0 ≤ n) (e : m = n + 1) (hv : ap (cpb W d n.toNat) (((cpb W d n.toNat).length : Int) - d) = v) (hd : 0 ≤ d ∧ d ≤ ((cpb W d n.toNat).length : Int)) : cpb W d m.toNat = cpb W d n.toNat ++ [v] := by
  subst e
  rw [show (n + 1).toNat = n.toNat + 1 by omega]
  show cpb W d n.toNat ++ [(cpb W d n.toNat).getD ((cpb W d n.toNat).length - d.toNat) 0] = _
  rw [← hv]
  unfold ap
  rw [show (((cpb W d n.toNat).length : Int) - d).toNat = (cpb W d n.toNat).length - d.toNat by omega]
noncomputable def WDX0 (L : List Int) (s : Int) : Int := WDS (ap L) 0 (L.length : Int) s
theorem WDX_x : ∃ g : List Int → Int → Int, g = WDX0 := ⟨_, rfl⟩
noncomputable def WDX : List Int → Int → Int := Classical.choose WDX_x
theorem WDX_e : WDX = WDX0 := Classical.choose_spec WDX_x
theorem WDS_X {f : Int → Int} {a n s b : Int} (hn : 0 ≤ n) (hb : b = a + n) : WDS f a n s = WDX (sc f a b) s := by
  subst hb
  rw [WDX_e]; unfold WDX0
  rw [sc_lenI (by omega), show a + n - a = n by omega]
  refine WDS_congr hn (fun i x y => ?_)
  unfold ap
  have g := sc_get (f := f) (a := a) (b := a + n) (k := i) x (by omega)
  rw [List.getD_eq_getElem?_getD, show (0 + i).toNat = i.toNat by omega, g]
  show u8 (f (a + i)) = u8 (u8 (f (a + i)))
  rw [u8_id (u8_rng _)]

theorem pr_sc {f : Int → Int} {n a b : Int} {L : List Int} (hL : sc f 0 n = L) (h : 0 ≤ a ∧ a ≤ b ∧ b ≤ n) : prL L a b = sc f a b := by
  have l : (L.length : Int) = n := by rw [← hL, sc_lenI (by omega)]; omega
  rw [prL_y (by omega), ← hL]
  exact sc_ap h.1 h.2.2
theorem pr_nil {f : Int → Int} {n a b : Int} {L : List Int} (hL : sc f 0 n = L) (h0 : 0 ≤ n) (h : ¬ (0 ≤ a ∧ a ≤ b ∧ b ≤ n)) : prL L a b = [] := by
  have l : (L.length : Int) = n := by rw [← hL, sc_lenI (by omega)]; omega
  exact prL_n (by omega)
noncomputable def plY (L : List Int) (m : Int) : Int := if m = 0 then PLS L else adI (rtI (PLS L) 17) (-1568478504)
theorem DFF_eq {L M : List Int} (h : (L.length : Int) = (M.length : Int)) (k : ∀ i, 0 ≤ i → i < (L.length : Int) → ap L i = ap M i) : L = M := by
  refine List.ext_getElem (by omega) (fun i a b => ?_)
  have w := k (i : Int) (by omega) (by omega)
  unfold ap at w
  rw [show ((i : Int)).toNat = i by omega, List.getD_eq_getElem?_getD, List.getD_eq_getElem?_getD, List.getElem?_eq_getElem a, List.getElem?_eq_getElem b] at w
  exact w
theorem APQ_k {ro si ro2 si2 : Int → Int} {r v ret a k : Int} (h : APQ ro si ro2 si2 r v ret) (hs : ∀ i, 0 ≤ si i ∧ si i ≤ 65536) (hr : 0 ≤ r ∧ r ≤ 3) (ha : 0 ≤ a ∧ a ≤ 3) (hl : si r < 65536) (h0 : 0 ≤ k) (hk : k < 65536) (q : r = a → k < si r) : ro2 (65536 * a + k) = ro (65536 * a + k) := by
  rcases h with ⟨_, _, b, _⟩ | ⟨_, _, b, _⟩
  · rw [b]
  · rw [b]
    refine upd1_o ?_
    have := hs r
    omega
theorem or32n {a b : Int} (ha : inr a) (hb : 0 ≤ b ∧ b < 4294967296) : orJ (a * 4294967296) b = a * 4294967296 + b := by
  by_cases q : 0 ≤ a
  · have h := orJ_al (y := b) (c := a) (m := 32) (by omega) ⟨hb.1, by rw [show p2 32 = 4294967296 by decide]; exact hb.2⟩ q (by rw [show p2 32 = 4294967296 by decide]; omega)
    rw [show p2 32 = 4294967296 by decide] at h
    rw [h]
    omega
  · have e1 : (Int64.ofInt (a * 4294967296)).toBitVec.toNat = (a + 4294967296).toNat * 2 ^ 32 := by
      show (BitVec.ofInt 64 (a * 4294967296)).toNat = _
      rw [BitVec.toNat_ofInt]
      have : ((2 ^ 64 : Nat) : Int) = 18446744073709551616 := by decide
      rw [this]
      omega
    have e : ((Int64.ofInt (a * 4294967296)).toBitVec ||| (Int64.ofInt b).toBitVec).toNat = b.toNat + (a + 4294967296).toNat * 2 ^ 32 := by
      rw [BitVec.toNat_or, e1, nn64 (a := b) (by omega), Nat.or_comm, or_add (k := 32) (by omega)]
    unfold orJ
    show ((Int64.ofInt (a * 4294967296)).toBitVec ||| (Int64.ofInt b).toBitVec).toInt = _
    rw [BitVec.toInt_eq_toNat_cond, e, if_neg (by omega)]
    omega
theorem fd_v {a b : Int} (ha : inr a) (hb : inr b) : orJ (shlJ a 32) (anJ b 4294967295) = a * 4294967296 + b % 4294967296 := by
  rw [shlJ_v (by omega) (by rw [show p2 32 = 4294967296 by decide]; omega), anM, show p2 32 = 4294967296 by decide]
  exact or32n ha (by omega)
theorem RWC_st {ro si ro2 si2 out : Int → Int} {r n : Int} (hs : ∀ i, 0 ≤ si i ∧ si i ≤ 65536) (hr : 0 ≤ r ∧ r ≤ 3) (hn : 0 ≤ n ∧ n ≤ 65536) (h1 : ∀ k, 0 ≤ k → k < n → ro2 (65536 * r + k) = out k) (h2 : ∀ i, i < 65536 * r ∨ 65536 * r + n ≤ i → ro2 i = ro i) (e : si2 = upd1 si r n) : RWC ro si ro2 si2 r (sc out 0 n) := by
  subst e
  refine ⟨?_, fun q x y z => ?_⟩
  · unfold rwR
    rw [upd1_s]
    exact sc_same (fun k a b => h1 k a b)
  · unfold rwR
    rw [upd1_o z]
    refine sc_same (fun k a b => ?_)
    unfold sh
    have := hs q
    exact h2 _ (by omega)
theorem rwR_in {ro si inn : Int → Int} {r n : Int} (hn : n = si r) (h : ∀ k, 0 ≤ k → k < n → inn k = ro (65536 * r + k)) : sc inn 0 n = rwR ro si r := by
  subst hn
  unfold rwR
  exact sc_same (fun k a b => h k a b)
theorem shf_sh {f : Int → Int} {b : Int} : shf f b = sh f b := rfl


end
section
/-! 22a -/
def AGI (I J : Int → Int) (n : Int) : Prop := (∀ k, 0 ≤ k → k < n → I k = J k) ∧ ∀ k, 0 ≤ I k ∧ I k ≤ 255
theorem IT_ag {S R : Type} {st st2 : S → S → Prop} {en en2 : S → R → Prop} (P : S → Prop) (h1 : ∀ s t, P s → st s t → st2 s t ∧ P t) (h2 : ∀ s r, P s → en s r → en2 s r) {s : S} {r : R} (hs : P s) (k : IT st en s r) : IT st2 en2 s r := by
  obtain ⟨n, k⟩ := k
  induction n generalizing s with
  | zero => exact ⟨0, h2 s r hs k⟩
  | succ n ih =>
    obtain ⟨t, a, b⟩ := k
    obtain ⟨m, c⟩ := ih (h1 s t hs a).2 b
    exact ⟨m + 1, t, (h1 s t hs a).1, c⟩
section AGx
variable {I J : Int → Int} {n e v p a q m N most fl bm fst : Int}
theorem nvl_ag {m : Nat} (h : AGI I J n) (ha : 0 ≤ a) (hm : a + (m : Int) ≤ n) : nvl I a m = nvl J a m := nvl_congr (fun i x y => by rw [h.1 (a + i) (by omega) (by omega)])
theorem sc_ag {b : Int} (h : AGI I J n) (ha : 0 ≤ a) (hb : b ≤ n) : sc I a b = sc J a b := sc_same (fun k x y => h.1 k (by omega) (by omega))
theorem NSM_ag {s : Int} (h : AGI I J n) (ha : 0 ≤ a) (hm : 0 ≤ m) (hn : a + m ≤ n) : NSM I a m s = NSM J a m s := NSM_congr hm (fun i x y => by rw [h.1 (a + i) (by omega) (by omega)])

theorem ADS_ag (h : AGI I J n) (he : e ≤ n) (hp : 0 ≤ p) (x : ADS I e v p a q) : ADS J e v p a q := by
  rcases x with x | ⟨x1, x2, x3, x4, x5, x6⟩
  · exact .inl x
  · have e1 := h.1 (q - 1) (by omega) (by omega)
    rw [e1] at x5 x6
    exact .inr ⟨x1, x2, x3, fun i y z => by rw [← h.1 i (by omega) (by omega)]; exact x4 i y z, x5, x6⟩
theorem ADS_p (hI : ∀ k, 0 ≤ I k ∧ I k ≤ 255) (hv : 0 ≤ v) (x : ADS I e v p a q) : p ≤ q ∧ 0 ≤ a := by
  rcases x with ⟨x1, x2, x3⟩ | ⟨x1, x2, x3, x4, x5, x6⟩
  · omega
  · have := hI (q - 1)
    omega
theorem ADN_ag (h : AGI I J n) (he : e ≤ n) (hp : 0 ≤ p) (x : ADN I e v p) : ADN J e v p := ⟨x.1, fun i y z => by rw [← h.1 i (by omega) (by omega)]; exact x.2 i y z⟩
theorem TBs_ag (h : AGI I J n) (he : e ≤ n) (s t : Int × List Int × Int) (h0 : 0 ≤ s.1) (x : TBs I e s t) : TBs J e s t ∧ 0 ≤ t.1 := by
  obtain ⟨a, q, d, b, q2, x0, x1, x2, x3, x4, x5, x6, x7, x8, x9, x10⟩ := x
  have hb := h.2 s.1
  have r1 := ADS_p h.2 (by omega) x1
  have r2 := ADS_p h.2 (by omega) x8
  have e0 := h.1 s.1 h0 (by omega)
  have e1 := h.1 (q + a) (by omega) (by omega)
  have e2 := h.1 (q + a + 1) (by omega) (by omega)
  have y1 := ADS_ag h he (by omega) x1
  have y8 := ADS_ag h he (by omega) x8
  rw [e0] at y1 y8
  refine ⟨⟨a, q, d, b, q2, x0, y1, x2, x3, x4, by rw [← e1, ← e2]; exact x5, x6, x7, y8, x9, by rw [← sc_ag h (by omega) (show q + a ≤ n by omega)]; exact x10⟩, ?_⟩
  rw [x10]
  show 0 ≤ q2
  omega
theorem TBf_ag {r m_ : Int} {W : List Int} {R : Int × Int × List Int} (h : AGI I J n) (he : e ≤ n) (hp : 0 ≤ p) (hpe : p < e) (hq : 0 ≤ q) (ha : 0 ≤ a) (x : TBf I e p r a q m_ W R) : TBf J e p r a q m_ W R := by
  have e0 := h.1 p hp (by omega)
  rcases x with x | x | ⟨x1, x2, x⟩
  · exact .inl x
  · exact .inr (.inl x)
  · refine .inr (.inr ⟨x1, x2, ?_⟩)
    rcases x with ⟨y1, y2⟩ | y | ⟨y1, x⟩
    · exact .inl ⟨y1, by rw [← sc_ag h hq (show q + a ≤ n by omega)]; exact y2⟩
    · exact .inr (.inl y)
    · have e1 := h.1 (q + a) (by omega) (by omega)
      have e2 := h.1 (q + a + 1) (by omega) (by omega)
      refine .inr (.inr ⟨y1, ?_⟩)
      rcases x with ⟨d, z1, z2, z3⟩ | ⟨d, z1, z2, z3, x⟩
      · exact .inl ⟨d, by rw [← e1, ← e2]; exact z1, z2, z3⟩
      · refine .inr ⟨d, by rw [← e1, ← e2]; exact z1, z2, z3, ?_⟩
        rcases x with ⟨w1, w2⟩ | ⟨b, q2, w1, w2, w3⟩
        · have w := ADN_ag h he (by omega) w1
          rw [e0] at w
          exact .inl ⟨w, w2⟩
        · have w := ADS_ag h he (by omega) w1
          rw [e0] at w
          exact .inr ⟨b, q2, w, w2, w3⟩
theorem TBe_ag (h : AGI I J n) (he : e ≤ n) (s : Int × List Int × Int) (R : Int × Int × List Int) (h0 : 0 ≤ s.1) (x : TBe I e s R) : TBe J e s R := by
  rcases x with x | ⟨x0, x⟩
  · exact .inl x
  · have e0 := h.1 s.1 h0 (by omega)
    have hb := h.2 s.1
    refine .inr ⟨x0, ?_⟩
    rcases x with ⟨y1, y2⟩ | ⟨a, q, y1, y2⟩
    · have w := ADN_ag h he (by omega) y1
      rw [e0] at w
      exact .inl ⟨w, y2⟩
    · have r1 := ADS_p h.2 (by omega) y1
      have w := ADS_ag h he (by omega) y1
      rw [e0] at w
      exact .inr ⟨a, q, w, TBf_ag h he h0 x0 (by omega) (by omega) y2⟩
theorem TBR_ag {W : List Int} {r : Int} {R : Int × Int × List Int} (h : AGI I J n) (he : e ≤ n) (hp : 0 ≤ p) (x : TBR I e p W r R) : TBR J e p W r R :=
  IT_ag (fun s => 0 ≤ s.1) (fun s t hs k => TBs_ag h he s t hs k) (fun s r hs k => TBe_ag h he s r hs k) hp x
theorem RDT_ag {H : List Int} {r ret pl m_ : Int} {g : Int → Int} (h : AGI I J e) (x : RDT I e H r ret pl m_ g) : RDT J e H r ret pl m_ g := by
  obtain ⟨f, V, a, b⟩ := x
  exact ⟨f, V, TBR_ag h (Int.le_refl _) (Int.le_refl _) a, b⟩

theorem TRss_ra (fl : Int) : 0 ≤ TRss fl ∧ TRss fl ≤ 4 ∧ (TRss fl ≠ 0 → TRss fl = 4) := by
  unfold TRss
  split <;> omega
theorem TRk_ag (h : AGI I J n) (hp : 0 ≤ p) (hm : 0 ≤ m) (hN : p + 4 + m + TRss fl ≤ n) : TRk I p m (TRss fl) ↔ TRk J p m (TRss fl) := by
  unfold TRk
  by_cases q : TRss fl = 0
  · exact ⟨fun _ => .inl q, fun _ => .inl q⟩
  · have := (TRss_ra fl).2.2 q
    rw [nvl_ag (m := 4) h (by omega) (by omega), NSM_ag (a := p + 4) (m := m) h (by omega) hm (by omega)]
theorem TRs_ag {H : List Int} (h : AGI I J n) (hN : N ≤ n) (s t : Int × List Int) (h0 : 0 ≤ s.1) (x : TRs I N most fl bm fst H s t) : TRs J N most fl bm fst H s t ∧ 0 ≤ t.1 := by
  obtain ⟨w, m, X, a1, a2, a3, a4, a5, a6, a7, a8, a9⟩ := x
  have hs := TRss_ra fl
  have hm : 0 ≤ m := by omega
  refine ⟨⟨w, m, X, a1, by rw [a2]; exact nvl_ag (m := 4) h h0 (by omega), a3, a4, a5, a6, (TRk_ag h h0 hm (by omega)).mp a7, a8, ?_⟩, by rw [a8]; show 0 ≤ s.1 + 4 + m + TRss fl; omega⟩
  rcases a9 with ⟨b1, b2, b3⟩ | ⟨b1, pl, b2⟩
  · exact .inl ⟨b1, b2, by rw [b3]; exact sc_ag h (by omega) (by omega)⟩
  · exact .inr ⟨b1, pl, TBR_ag h (by omega) (by omega) b2⟩
theorem TRf_ag {H C : List Int} {w : Int} {R : Int × Int × Int × List Int} (h : AGI I J n) (hN : N ≤ n) (hp : 0 ≤ p) (hm : 0 ≤ m) (x : TRf I N most fl bm fst H p C w m R) : TRf J N most fl bm fst H p C w m R := by
  have hs := TRss_ra fl
  rcases x with x | x | ⟨x1, x2, x⟩
  · exact .inl x
  · exact .inr (.inl x)
  · refine .inr (.inr ⟨x1, x2, ?_⟩)
    have k := TRk_ag (fl := fl) h hp hm (by omega)
    rcases x with ⟨y1, y2⟩ | ⟨y1, x⟩
    · exact .inl ⟨fun z => y1 (k.mpr z), y2⟩
    · refine .inr ⟨k.mp y1, ?_⟩
      rcases x with x | ⟨z1, f, pl, V, z2, z3, z4⟩
      · exact .inl x
      · exact .inr ⟨z1, f, pl, V, z2, TBR_ag h (by omega) (by omega) z3, z4⟩
theorem TRe_ag {H : List Int} (h : AGI I J n) (hN : N ≤ n) (s : Int × List Int) (R : Int × Int × Int × List Int) (h0 : 0 ≤ s.1) (x : TRe I N most fl bm fst H s R) : TRe J N most fl bm fst H s R := by
  rcases x with x | ⟨x1, w, m, x2, x3, x⟩
  · exact .inl x
  · refine .inr ⟨x1, w, m, by rw [x2]; exact nvl_ag (m := 4) h h0 (by omega), x3, ?_⟩
    rcases x with x | ⟨y1, y2⟩
    · exact .inl x
    · exact .inr ⟨y1, TRf_ag h hN h0 (by omega) y2⟩
theorem TRB_ag {H C : List Int} {R : Int × Int × Int × List Int} (h : AGI I J n) (hN : N ≤ n) (hp : 0 ≤ p) (x : TRB I N most fl bm fst H p C R) : TRB J N most fl bm fst H p C R :=
  IT_ag (fun s => 0 ≤ s.1) (fun s t hs k => TRs_ag h hN s t hs k) (fun s r hs k => TRe_ag h hN s r hs k) hp x
theorem TRe_p {H : List Int} (s : Int × List Int) (R : Int × Int × Int × List Int) (h0 : 0 ≤ s.1) (x : TRe I N most fl bm fst H s R) : 0 ≤ R.2.2.1 := by
  rcases x with ⟨_, x⟩ | ⟨x1, w, m, x2, x3, x⟩
  · rw [x]; exact Int.le_refl _
  · rcases x with ⟨_, x⟩ | ⟨_, x⟩
    · rw [x]; show 0 ≤ s.1 + 4; omega
    · rcases x with ⟨_, x⟩ | ⟨_, _, x⟩ | ⟨_, _, x⟩
      · rw [x]; exact Int.le_refl _
      · rw [x]; exact Int.le_refl _
      · rcases x with ⟨_, x⟩ | ⟨_, x⟩
        · rw [x]; exact Int.le_refl _
        · rcases x with ⟨_, _, x⟩ | ⟨_, _, _, _, _, _, x⟩
          · rw [x]; exact Int.le_refl _
          · rw [x]; exact Int.le_refl _
theorem IT_end {S R : Type} {st : S → S → Prop} {en : S → R → Prop} (P : S → Prop) (Q : R → Prop) (h1 : ∀ s t, P s → st s t → P t) (h2 : ∀ s r, P s → en s r → Q r) {s : S} {r : R} (hs : P s) (k : IT st en s r) : Q r := by
  obtain ⟨n, k⟩ := k
  induction n generalizing s with
  | zero => exact h2 s r hs k
  | succ n ih =>
    obtain ⟨t, a, b⟩ := k
    exact ih (h1 s t hs a) b
theorem TRs_pa {H : List Int} (s t : Int × List Int) (h0 : 0 ≤ s.1) (x : TRs I N most fl bm fst H s t) : 0 ≤ t.1 := by
  obtain ⟨w, m, X, a1, a2, a3, a4, a5, a6, a7, a8, a9⟩ := x
  have hs := TRss_ra fl
  rw [a8]
  show 0 ≤ s.1 + 4 + m + TRss fl
  omega
theorem TRB_p {H C : List Int} {R : Int × Int × Int × List Int} (hp : 0 ≤ p) (x : TRB I N most fl bm fst H p C R) : 0 ≤ R.2.2.1 := IT_end (fun s => 0 ≤ s.1) (fun R => 0 ≤ R.2.2.1) (fun s t hs k => TRs_pa s t hs k) (fun s r hs k => TRe_p s r hs k) hp x
theorem THe_r (p fl : Int) : p + 6 ≤ THe p fl ∧ (andI fl 8 ≠ 0 → p + 14 ≤ THe p fl) := by
  unfold THe
  constructor
  · split <;> split <;> omega
  · intro q
    rw [if_neg q]
    split <;> omega
theorem THs_ag {he : Int} (h : AGI I J n) (hp : 0 ≤ p) (h1 : p + 6 ≤ he) (h2 : he ≤ n) : THs I p he = THs J p he := by
  unfold THs
  rw [NSM_ag (a := p + 4) (m := he - (p + 4)) h (by omega) (by omega) (by omega)]
theorem THd_ag {f pl : Int} (h : AGI I J n) (hN : N ≤ n) (hp : 0 ≤ p) (x : THd I N p f pl fl bm) : THd J N p f pl fl bm ∧ (f = 0 → 0 ≤ pl ∧ (andI fl 8 ≠ 0 → p + 14 ≤ N)) := by
  rcases x with ⟨x1, x2, x3⟩ | ⟨x0, x⟩
  · exact ⟨.inl ⟨x1, x2, x3⟩, fun q => by omega⟩
  · have e4 := h.1 (p + 4) (by omega) (by omega)
    have r := THe_r p (I (p + 4))
    rcases x with ⟨x1, x2, x3⟩ | ⟨x1, x⟩
    · exact ⟨.inr ⟨x0, .inl ⟨by rw [← e4]; exact x1, x2, x3⟩⟩, fun q => by omega⟩
    · rcases x with ⟨y1, y2, y3⟩ | ⟨y0, x⟩
      · exact ⟨.inr ⟨x0, .inr ⟨by rw [← e4]; exact x1, .inl ⟨y1, y2, y3⟩⟩⟩, fun q => by omega⟩
      · have e5 := h.1 (p + 5) (by omega) (by omega)
        rcases x with ⟨y1, y2, y3⟩ | ⟨y1, y2, y3, x⟩
        · exact ⟨.inr ⟨x0, .inr ⟨by rw [← e4]; exact x1, .inr ⟨y0, .inl ⟨by rw [← e5]; exact y1, y2, y3⟩⟩⟩⟩, fun q => by omega⟩
        · rcases x with ⟨z1, z2, z3⟩ | ⟨z0, x⟩
          · exact ⟨.inr ⟨x0, .inr ⟨by rw [← e4]; exact x1, .inr ⟨y0, .inr ⟨by rw [← e5]; exact y1, by rw [← e5]; exact y2, by rw [← e5]; exact y3, .inl ⟨by rw [← e4]; exact z1, z2, z3⟩⟩⟩⟩⟩, fun q => by omega⟩
          · have e6 := h.1 (THe p (I (p + 4))) (by omega) (by omega)
            have e7 := THs_ag (he := THe p (I (p + 4))) h hp r.1 (by omega)
            rcases x with ⟨z1, z2, z3⟩ | ⟨z1, z2, z3, z4, z5⟩
            · exact ⟨.inr ⟨x0, .inr ⟨by rw [← e4]; exact x1, .inr ⟨y0, .inr ⟨by rw [← e5]; exact y1, by rw [← e5]; exact y2, by rw [← e5]; exact y3, .inr ⟨by rw [← e4]; exact z0, .inl ⟨by rw [← e4, ← e6, ← e7]; exact z1, z2, by rw [← e4]; exact z3⟩⟩⟩⟩⟩⟩, fun q => by omega⟩
            · exact ⟨.inr ⟨x0, .inr ⟨by rw [← e4]; exact x1, .inr ⟨y0, .inr ⟨by rw [← e5]; exact y1, by rw [← e5]; exact y2, by rw [← e5]; exact y3, .inr ⟨by rw [← e4]; exact z0, .inr ⟨by rw [← e4, ← e6, ← e7]; exact z1, z2, by rw [← e4]; exact z3, by rw [← e4]; exact z4, by rw [← e5]; exact z5⟩⟩⟩⟩⟩⟩, fun q => ⟨by omega, fun w => by have := r.2 (by rw [← z4]; exact w); omega⟩⟩
theorem TEs_ag {C : List Int} (h : AGI I J n) (hp : 0 ≤ p) (h1 : p + 4 ≤ n) : TEs I p fst C ↔ TEs J p fst C := by
  unfold TEs
  rw [nvl_ag (m := 4) h hp (by omega)]
theorem TEn_ag {p0 f pl : Int} {C : List Int} (h : AGI I J n) (hN : N ≤ n) (hp : 0 ≤ p) (h0 : 0 ≤ p0) (h8 : andI fl 8 ≠ 0 → p0 + 14 ≤ N) (x : TEn I N p0 fst fl p C f pl) : TEn J N p0 fst fl p C f pl ∧ (f = 0 → 0 ≤ pl) := by
  rcases x with x | ⟨x1, x2, x3, x4, x5⟩ | ⟨q, x1, x2⟩
  · exact ⟨.inl x, fun q => by omega⟩
  · exact ⟨.inr (.inl ⟨x1, x2, fun z => x3 ((TEs_ag h hp (by omega)).mpr z), x4, x5⟩), fun q => by omega⟩
  · have hq : 0 ≤ q := by rcases x1 with ⟨_, y⟩ | ⟨_, _, _, y⟩ <;> omega
    have y1 : andI fl 4 = 0 ∧ q = p ∨ andI fl 4 ≠ 0 ∧ p + 4 ≤ N ∧ TEs J p fst C ∧ q = p + 4 := by
      rcases x1 with y | ⟨y1, y2, y3, y4⟩
      · exact .inl y
      · exact .inr ⟨y1, y2, (TEs_ag h hp (by omega)).mp y3, y4⟩
    rcases x2 with ⟨z1, z2, z3, z4⟩ | ⟨z1, z2, z3⟩
    · have := h8 z1
      exact ⟨.inr (.inr ⟨q, y1, .inl ⟨z1, by rw [← nvl_ag (m := 8) h (by omega) (by omega)]; exact z2, z3, z4⟩⟩), fun q => by omega⟩
    · refine ⟨.inr (.inr ⟨q, y1, .inr ⟨?_, z2, z3⟩⟩), fun _ => by omega⟩
      by_cases w : andI fl 8 = 0
      · exact .inl w
      · have := h8 w
        rcases z1 with z1 | z1
        · exact .inl z1
        · exact .inr (by rw [← nvl_ag (m := 8) h (by omega) (by omega)]; exact z1)
theorem TFr_ag {H C : List Int} {R : Int × Int × Int × List Int} (h : AGI I J n) (hN : N ≤ n) (hp : 0 ≤ p) (x : TFr I N most H p C R) : TFr J N most H p C R ∧ 0 ≤ R.2.2.1 := by
  obtain ⟨f, pl, fl, bm, a, x⟩ := x
  obtain ⟨a2, a3⟩ := THd_ag h hN hp a
  rcases x with ⟨x1, x2⟩ | ⟨x0, f1, pl1, p1, C1, b, x⟩
  · exact ⟨⟨f, pl, fl, bm, a2, .inl ⟨x1, x2⟩⟩, by rw [x2]; exact Int.le_refl _⟩
  · obtain ⟨a4, a5⟩ := a3 x0
    have b2 := TRB_ag h hN a4 b
    have b3 : 0 ≤ p1 := TRB_p a4 b
    rcases x with ⟨x1, x2⟩ | ⟨x1, f2, pl2, c, x⟩
    · exact ⟨⟨f, pl, fl, bm, a2, .inr ⟨x0, f1, pl1, p1, C1, b2, .inl ⟨x1, x2⟩⟩⟩, by rw [x2]; exact Int.le_refl _⟩
    · obtain ⟨c2, c3⟩ := TEn_ag h hN b3 hp a5 c
      rcases x with ⟨y1, y2⟩ | ⟨y1, y2⟩
      · exact ⟨⟨f, pl, fl, bm, a2, .inr ⟨x0, f1, pl1, p1, C1, b2, .inr ⟨x1, f2, pl2, c2, .inl ⟨y1, y2⟩⟩⟩⟩, by rw [y2]; exact Int.le_refl _⟩
      · exact ⟨⟨f, pl, fl, bm, a2, .inr ⟨x0, f1, pl1, p1, C1, b2, .inr ⟨x1, f2, pl2, c2, .inr ⟨y1, y2⟩⟩⟩⟩, by rw [y2]; exact c3 y1⟩
theorem nvl_nn (I : Int → Int) : ∀ (m : Nat) (a : Int), 0 ≤ nvl I a m
  | 0, _ => Int.le_refl _
  | m + 1, a => by
    show 0 ≤ u8 (I a) + 256 * nvl I (a + 1) m
    have := nvl_nn I m (a + 1)
    have := u8_rng (I a)
    omega
theorem TAs_ag {H : List Int} (h : AGI I J n) (hN : N ≤ n) (s t : Int × List Int) (h0 : 0 ≤ s.1) (x : TAs I N most H s t) : TAs J N most H s t ∧ 0 ≤ t.1 := by
  obtain ⟨x1, x2, x⟩ := x
  have e := nvl_ag (m := 4) h h0 (by omega)
  rcases x with ⟨y1, y2, y3, y4⟩ | ⟨y1, q, C, y2, y3⟩
  · have e2 := nvl_ag (a := s.1 + 4) (m := 4) h (by omega) (by omega)
    have := nvl_nn I 4 (s.1 + 4)
    exact ⟨⟨x1, x2, .inl ⟨by rw [← e]; exact y1, y2, by rw [← e2]; exact y3, by rw [← e2]; exact y4⟩⟩, by rw [y4]; show 0 ≤ s.1 + 8 + nvl I (s.1 + 4) 4; omega⟩
  · obtain ⟨z1, z2⟩ := TFr_ag h hN h0 y2
    exact ⟨⟨x1, x2, .inr ⟨by rw [← e]; exact y1, q, C, z1, y3⟩⟩, by rw [y3]; exact z2⟩
theorem TAe_ag {H : List Int} (h : AGI I J n) (hN : N ≤ n) (s : Int × List Int) (R : Int × Int × List Int) (h0 : 0 ≤ s.1) (x : TAe I N most H s R) : TAe J N most H s R := by
  rcases x with x | ⟨x1, x⟩
  · exact .inl x
  · refine .inr ⟨x1, ?_⟩
    rcases x with x | ⟨x2, x⟩
    · exact .inl x
    · have e := nvl_ag (m := 4) h h0 (by omega)
      refine .inr ⟨x2, ?_⟩
      rcases x with ⟨y1, y2, y3⟩ | ⟨y1, y2, y3⟩ | ⟨y1, f, pl, y2, y3, y4⟩
      · refine .inl ⟨by rw [← e]; exact y1, ?_, y3⟩
        by_cases w : N < s.1 + 8
        · exact .inl w
        · rcases y2 with y2 | y2
          · exact .inl y2
          · exact .inr (by rw [← nvl_ag (a := s.1 + 4) (m := 4) h (by omega) (by omega)]; exact y2)
      · exact .inr (.inl ⟨by rw [← e]; exact y1, by rw [← e]; exact y2, y3⟩)
      · exact .inr (.inr ⟨by rw [← e]; exact y1, f, pl, y2, (TFr_ag h hN h0 y3).1, y4⟩)
theorem RDF_ag {H : List Int} {ret pl m_ : Int} {g : Int → Int} (h : AGI I J N) (x : RDF I N H most ret pl m_ g) : RDF J N H most ret pl m_ g := by
  obtain ⟨f, V, a, b⟩ := x
  exact ⟨f, V, IT_ag (fun s => 0 ≤ s.1) (fun s t hs k => TAs_ag h (Int.le_refl _) s t hs k) (fun s r hs k => TAe_ag h (Int.le_refl _) s r hs k) (Int.le_refl _) a, b⟩

theorem TLs_ag (h : AGI I J n) (he : e ≤ n) (hp : 0 ≤ p) (s t : Int × Int) (h0 : 0 ≤ s.1) (x : TLs I e p s t) : TLs J e p s t ∧ 0 ≤ t.1 := by
  obtain ⟨x1, x2, x3, x4⟩ := x
  have e0 := h.1 (p + s.1) (by omega) (by omega)
  exact ⟨⟨x1, x2, by rw [← e0]; exact x3, by rw [← e0]; exact x4⟩, by rw [x4]; show 0 ≤ s.1 + 1; omega⟩
theorem TLe_ag (h : AGI I J n) (he : e ≤ n) (hp : 0 ≤ p) (s : Int × Int) (R : Int × Int × Int × Int) (h0 : 0 ≤ s.1) (x : TLe I e p most s R) : TLe J e p most s R := by
  rcases x with x | ⟨x1, x⟩
  · exact .inl x
  · have e0 := h.1 (p + s.1) (by omega) (by omega)
    rw [e0] at x
    exact .inr ⟨x1, x⟩
theorem TLe_p (hp : 0 ≤ p) (s : Int × Int) (R : Int × Int × Int × Int) (h0 : 0 ≤ s.1) (x : TLe I e p most s R) : 0 ≤ R.2.2.2 := by
  rcases x with ⟨_, x⟩ | ⟨_, x⟩
  · rw [x]; exact Int.le_refl _
  · rcases x with ⟨_, _, x⟩ | ⟨_, _, x⟩
    · rw [x]; exact Int.le_refl _
    · rcases x with ⟨_, x⟩ | ⟨_, x⟩
      · rw [x]; exact Int.le_refl _
      · rw [x]; show 0 ≤ p + s.1 + 1; omega
theorem TLQ_ag {R : Int × Int × Int × Int} (h : AGI I J n) (he : e ≤ n) (hp : 0 ≤ p) (x : TLQ I e p most R) : TLQ J e p most R := IT_ag (fun s => 0 ≤ s.1) (fun s t hs k => TLs_ag h he hp s t hs k) (fun s r hs k => TLe_ag h he hp s r hs k) (Int.le_refl _) x
theorem TLQ_p {R : Int × Int × Int × Int} (hp : 0 ≤ p) (x : TLQ I e p most R) : 0 ≤ R.2.2.2 := IT_end (fun s => 0 ≤ s.1) (fun R => 0 ≤ R.2.2.2) (fun s t hs k => by rw [k.2.2.2]; show 0 ≤ s.1 + 1; omega) (fun s r hs k => TLe_p hp s r hs k) (Int.le_refl _) x
theorem TEb_r (t : Int) (h : 0 ≤ t ∧ t ≤ 255) : 0 ≤ TEb t ∧ TEb t ≤ 4 := by
  unfold TEb
  split
  · split <;> omega
  · split
    · omega
    · split <;> omega
theorem TEx_ag (h : AGI I J n) (hp : 0 ≤ p) (he : p + 1 + TEb (I p) ≤ n) (hp2 : p < n) : TEx I p = TEx J p := by
  unfold TEx
  have r := TEb_r (I p) (h.2 p)
  rw [← h.1 p hp hp2]
  exact nvl_ag h (by omega) (by omega)
theorem TYs_ag {len : Int} (h : AGI I J n) (he : e ≤ n) (s t : Int × List Int) (h0 : 0 ≤ s.1) (x : TYs I e len s t) : TYs J e len s t ∧ 0 ≤ t.1 := by
  obtain ⟨x1, x2, x3, x⟩ := x
  have r := TEb_r (I s.1) (h.2 s.1)
  have e0 := h.1 s.1 h0 (by omega)
  have e1 := TEx_ag h h0 (by omega) (by omega)
  have hl : I s.1 % 4 = 0 → 0 ≤ TEl (I s.1) (TEx I s.1) := fun q => by
    unfold TEl
    have := h.2 s.1
    have := nvl_nn I (TEb (I s.1)).toNat (s.1 + 1)
    have : TEx I s.1 = nvl I (s.1 + 1) (TEb (I s.1)).toNat := rfl
    rw [if_pos q]
    split <;> omega
  have hx : 0 ≤ t.1 := by
    rcases x with ⟨y1, y2, y3, y4⟩ | ⟨y1, y2, y3⟩
    · rw [y4]; show 0 ≤ s.1 + 1 + TEb (I s.1); omega
    · have := hl y1
      rw [y3]; show 0 ≤ s.1 + 1 + TEb (I s.1) + TEl (I s.1) (TEx I s.1); omega
  refine ⟨?_, hx⟩
  unfold TYs
  rw [← e0, ← e1]
  refine ⟨x1, x2, x3, ?_⟩
  rcases x with x | ⟨y1, y2, y3⟩
  · exact .inl x
  · have := hl y1
    exact .inr ⟨y1, y2, by rw [← sc_ag h (by omega) (show s.1 + 1 + TEb (I s.1) + TEl (I s.1) (TEx I s.1) ≤ n by omega)]; exact y3⟩
theorem TYe_ag {len : Int} (h : AGI I J n) (he : e ≤ n) (s : Int × List Int) (R : Int × Int × List Int) (h0 : 0 ≤ s.1) (x : TYe I e len s R) : TYe J e len s R := by
  rcases x with x | ⟨x1, x⟩
  · exact .inl x
  · have e0 := h.1 s.1 h0 (by omega)
    rcases x with ⟨x2, x3⟩ | ⟨x2, x⟩
    · exact .inr ⟨x1, .inl ⟨by rw [← e0]; exact x2, x3⟩⟩
    · have e1 := TEx_ag h h0 (by omega) (by omega)
      rw [e0, e1] at x
      exact .inr ⟨x1, .inr ⟨by rw [← e0]; exact x2, by first | exact x | (rw [← e0] at x ⊢; exact x)⟩⟩
theorem TYB_ag {R : Int × Int × List Int} (h : AGI I J n) (he : e ≤ n) (hp : 0 ≤ p) (x : TYB I e p most R) : TYB J e p most R := by
  obtain ⟨f, pl, len, q, a, x⟩ := x
  have hq : 0 ≤ q := TLQ_p hp a
  refine ⟨f, pl, len, q, TLQ_ag h he hp a, ?_⟩
  rcases x with x | ⟨y1, y2⟩
  · exact .inl x
  · exact .inr ⟨y1, IT_ag (fun s => 0 ≤ s.1) (fun s t hs k => TYs_ag h he s t hs k) (fun s r hs k => TYe_ag h he s r hs k) hq y2⟩
theorem RDG_ag {ret pl m_ : Int} {g : Int → Int} (h : AGI I J e) (x : RDG I e most ret pl m_ g) : RDG J e most ret pl m_ g := by
  obtain ⟨f, V, a, b⟩ := x
  exact ⟨f, V, TYB_ag h (Int.le_refl _) (Int.le_refl _) a, b⟩
theorem MKQ_ag (h : AGI I J n) (hN : N ≤ n) (hp : 0 ≤ p) (x : MKQ I p N) : MKQ J p N := by
  obtain ⟨a, b⟩ := x
  exact ⟨a, fun k x y => by rw [← h.1 (p + 4 + k) (by omega) (by omega)]; exact b k x y⟩
theorem AGI_s (h : AGI I J n) (hJ : ∀ k, 0 ≤ J k ∧ J k ≤ 255) : AGI J I n := ⟨fun k a b => (h.1 k a b).symm, hJ⟩
theorem TUh_ag {f pl k z : Int} (h : AGI I J n) (hJ : ∀ k, 0 ≤ J k ∧ J k ≤ 255) (hN : N ≤ n) (hp : 0 ≤ p) (hpN : p < N) (x : TUh I N p f pl k z) : TUh J N p f pl k z := by
  obtain ⟨x0, x⟩ := x
  have e0 := h.1 p hp (by omega)
  refine ⟨by rw [← e0]; exact x0, ?_⟩
  rcases x with x | ⟨x1, x⟩
  · exact .inl x
  · refine .inr ⟨x1, ?_⟩
    rcases x with x | ⟨x2, x⟩
    · exact .inl x
    · refine .inr ⟨x2, ?_⟩
      rcases x with x | ⟨x3, x4, x⟩
      · exact .inl x
      · refine .inr ⟨x3, by rw [x4]; exact nvl_ag (m := 3) h (by omega) (by omega), ?_⟩
        rcases x with x | ⟨x5, x⟩
        · exact .inl x
        · refine .inr ⟨x5, ?_⟩
          rcases x with ⟨y1, y2, y3⟩ | ⟨y1, y2, y3, y4⟩ | x | x | x
          · exact .inl ⟨y1, fun w => y2 ⟨w.1, MKQ_ag (AGI_s h hJ) hN hp w.2⟩, y3⟩
          · exact .inr (.inl ⟨y1, y2, MKQ_ag h hN hp y3, y4⟩)
          · exact .inr (.inr (.inl x))
          · exact .inr (.inr (.inr (.inl x)))
          · exact .inr (.inr (.inr (.inr x)))
theorem TUb_ag {k z f pl : Int} {C X : List Int} (h : AGI I J n) (hN : p + 4 + z ≤ n) (hp : 0 ≤ p) (x : TUb I most p k z C f pl X) : TUb J most p k z C f pl X := by
  rcases x with ⟨x1, f0, pl0, V, x2, x3⟩ | ⟨x1, x⟩
  · exact .inl ⟨x1, f0, pl0, V, TYB_ag h (by omega) (by omega) x2, x3⟩
  · refine .inr ⟨x1, ?_⟩
    rcases x with x | ⟨y1, y2, y3⟩
    · exact .inl x
    · exact .inr ⟨y1, y2, by rw [y3]; exact sc_ag h (by omega) (by omega)⟩
theorem TUh_za {pl k z : Int} (x : TUh I N p 0 pl k z) : p + 4 + z ≤ N ∧ (k < 2 → 4 ≤ z) ∧ 0 ≤ z := by
  obtain ⟨x0, x⟩ := x
  rcases x with ⟨_, _, x, _⟩ | ⟨_, x⟩
  · exact absurd x (by decide)
  · rcases x with ⟨_, _, x, _⟩ | ⟨_, x⟩
    · exact absurd x (by decide)
    · rcases x with ⟨_, x, _⟩ | ⟨_, x4, x⟩
      · exact absurd x (by decide)
      · have := nvl_nn I 3 (p + 1)
        rcases x with ⟨_, x, _⟩ | ⟨x5, x⟩
        · exact absurd x (by decide)
        · refine ⟨x5, fun q => ?_, by omega⟩
          rcases x with ⟨_, _, x, _⟩ | ⟨x, _⟩ | ⟨_, _, x, _⟩ | ⟨_, x, _⟩ | ⟨x, _⟩ <;> omega
theorem TUs_ag (h : AGI I J n) (hJ : ∀ k, 0 ≤ J k ∧ J k ≤ 255) (hN : N ≤ n) (s t : Int × List Int) (h0 : 0 ≤ s.1) (x : TUs I N most s t) : TUs J N most s t ∧ 0 ≤ t.1 := by
  obtain ⟨x1, pl, k, z, x2, x⟩ := x
  have hz := TUh_za x2
  have y2 := TUh_ag h hJ hN h0 x1 x2
  rcases x with ⟨y3, y4⟩ | ⟨y3, pl0, X, y4, y5, y6⟩
  · exact ⟨⟨x1, pl, k, z, y2, .inl ⟨y3, y4⟩⟩, by rw [y4]; show 0 ≤ s.1 + 4 + z; omega⟩
  · have := hz.2.1 y3
    refine ⟨⟨x1, pl, k, z, y2, .inr ⟨y3, pl0, X, TUb_ag h (by omega) h0 y4, ?_, y6⟩⟩, by rw [y6]; show 0 ≤ s.1 + 4 + z; omega⟩
    unfold TUc at y5 ⊢
    rw [← nvl_ag (a := s.1 + 4) (m := 4) h (by omega) (by omega)]
    exact y5
theorem TUe_ag (h : AGI I J n) (hJ : ∀ k, 0 ≤ J k ∧ J k ≤ 255) (hN : N ≤ n) (s : Int × List Int) (R : Int × Int × List Int) (h0 : 0 ≤ s.1) (x : TUe I N most s R) : TUe J N most s R := by
  rcases x with x | ⟨x1, f, pl, k, z, x2, x⟩
  · exact .inl x
  · have y2 := TUh_ag h hJ hN h0 x1 x2
    refine .inr ⟨x1, f, pl, k, z, y2, ?_⟩
    rcases x with x | ⟨y1, y3, f0, pl0, X, y4, x⟩
    · exact .inl x
    · subst y1
      have hz := TUh_za x2
      have := hz.2.1 y3
      refine .inr ⟨rfl, y3, f0, pl0, X, TUb_ag h (by omega) h0 y4, ?_⟩
      rcases x with x | ⟨z1, z2, z3⟩
      · exact .inl x
      · refine .inr ⟨z1, fun w => z2 ?_, z3⟩
        unfold TUc at w ⊢
        rw [nvl_ag (a := s.1 + 4) (m := 4) h (by omega) (by omega)]
        exact w
theorem RDU_ag {ret pl m_ : Int} {g : Int → Int} (h : AGI I J N) (hJ : ∀ k, 0 ≤ J k ∧ J k ≤ 255) (x : RDU I N most ret pl m_ g) : RDU J N most ret pl m_ g := by
  obtain ⟨f, V, a, b⟩ := x
  exact ⟨f, V, IT_ag (fun s => 0 ≤ s.1) (fun s t hs k => TUs_ag h hJ (Int.le_refl _) s t hs k) (fun s r hs k => TUe_ag h hJ (Int.le_refl _) s r hs k) (Int.le_refl _) a, b⟩
end AGx


end
section
/-! 22b -/
def AGB (I J : Int → Int) (n : Int) : Prop := AGI I J n ∧ AGI J I n
theorem CH_ag {R : Type} {d : R} {p q : R → Prop} (h1 : ∀ r, p r → q r) (h2 : ∀ r, q r → p r) : CH d p = CH d q := by rw [show p = q from funext fun r => propext ⟨h1 r, h2 r⟩]
theorem LPs_ag {S R : Type} {f g : S → S ⊕ R} (P : S → Prop) (h : ∀ s, P s → f s = g s ∧ ∀ t, f s = .inl t → P t) : ∀ {n : Nat} {s : S} {r : R}, P s → LPs f n s r → LPs g n s r
  | 0, s, r, hs, k => by
    show g s = .inr r
    rw [← (h s hs).1]
    exact k
  | n + 1, s, r, hs, ⟨t, a, b⟩ => ⟨t, by rw [← (h s hs).1]; exact a, LPs_ag P h ((h s hs).2 t a) b⟩
theorem LPF_ag {S R : Type} {d : R} {f g : S → S ⊕ R} (P : S → Prop) (h : ∀ s, P s → f s = g s ∧ ∀ t, f s = .inl t → P t) {s : S} (hs : P s) : LPF d f s = LPF d g s :=
  CH_ag (fun r ⟨n, k⟩ => ⟨n, LPs_ag P h hs k⟩) (fun r ⟨n, k⟩ => ⟨n, LPs_ag P (fun s hs => ⟨(h s hs).1.symm, fun t e => (h s hs).2 t (by rw [(h s hs).1]; exact e)⟩) hs k⟩)
section AGy
variable {I J : Int → Int} {n a e b k st left : Int}
theorem bt_ag (h : AGI I J n) (h0 : 0 ≤ k) (h1 : k < 8 * n) : bt I k = bt J k := by
  unfold bt
  rw [h.1 (k / 8) (by omega) (by omega)]
theorem bv_ag0 (h : AGI I J n) (h0 : 0 ≤ b) : ∀ m : Nat, b + (m : Int) ≤ 8 * n → bv I b m = bv J b m
  | 0, _ => rfl
  | m + 1, q => by
    show bv I b m + bt I (b + m) * p2 m = bv J b m + bt J (b + m) * p2 m
    rw [bv_ag0 h h0 m (by omega), bt_ag h (by omega) (by omega)]
theorem bv_ag {m : Int} (h : AGI I J n) (q : m ≤ 0 ∨ 0 ≤ b ∧ b + m ≤ 8 * n) : bv I b m.toNat = bv J b m.toNat := by
  by_cases c : m ≤ 0
  · rw [show m.toNat = 0 by omega]
    rfl
  · exact bv_ag0 h (by omega) _ (by omega)
theorem bvA_ag {m : Int} (h : AGI I J n) (hs : 0 ≤ st) (hl : st + left ≤ 8 * n) (hm : m ≤ left) : bvA I st left m = bvA J st left m := by
  unfold bvA
  exact bv_ag h (by omega)
theorem SHv_ag {lack u b2 : Int} (h : AGI I J n) (hb : 0 ≤ b) (he : e ≤ 8 * n) (hk : 0 ≤ k) (x : SHv I e b lack k u b2) : SHv J e b lack k u b2 ∧ 0 ≤ b2 := by
  obtain ⟨x0, x⟩ := x
  have e1 : bv I b k.toNat = bv J b k.toNat := bv_ag h (by omega)
  refine ⟨⟨x0, ?_⟩, ?_⟩
  · rw [← e1]
    rcases x with x | ⟨x1, x2, x3, x4⟩
    · exact .inl x
    · rw [← bt_ag h (k := b + k) (by omega) (by omega)]
      exact .inr ⟨x1, x2, x3, x4⟩
  · rcases x with x | ⟨x1, x2, x3, x4⟩
    · omega
    · omega
theorem SHx_ag {lack : Int} (h : AGI I J n) (hb : 0 ≤ b) (he : e ≤ 8 * n) (x : SHx I e b lack) : SHx J e b lack := by
  obtain ⟨m, x0, x⟩ := x
  have m0 : 0 ≤ m := x0.1
  refine ⟨m, x0, ?_⟩
  rcases x with x | ⟨x1, x2, x3⟩
  · exact .inl x
  · exact .inr ⟨x1, by rw [← bv_ag h (m := m) (b := b) (by omega)]; exact x2, x3⟩
theorem SHs_ag {last : Int} (h : AGI I J n) (he : e ≤ 8 * n) (s t : ShS) (h0 : 0 ≤ s.1) (x : SHs I e last s t) : SHs J e last s t ∧ 0 ≤ t.1 := by
  rcases x with ⟨x1, x2, x3, u, b2, ⟨m, y1, y2⟩, x4⟩ | ⟨x1, x2, x3, x4⟩
  · obtain ⟨z1, z2⟩ := SHv_ag h h0 he y1.1 y2
    exact ⟨.inl ⟨x1, x2, x3, u, b2, ⟨m, y1, z1⟩, x4⟩, by rw [x4]; exact z2⟩
  · have e1 : bv I s.1 2 = bv J s.1 2 := bv_ag0 h h0 2 (by omega)
    exact ⟨.inr ⟨x1, x2, by rw [← e1]; exact x3, by rw [← e1]; exact x4⟩, by rw [x4]; show 0 ≤ s.1 + 2; omega⟩
theorem SHe_ag {last : Int} (h : AGI I J n) (he : e ≤ 8 * n) (s : ShS) (R : Int × Int × (Int → Int)) (h0 : 0 ≤ s.1) (x : SHe I e last s R) : SHe J e last s R := by
  rcases x with x | ⟨x0, x⟩
  · exact .inl x
  · refine .inr ⟨x0, ?_⟩
    rcases x with ⟨x1, x2, x⟩ | ⟨x1, x⟩
    · refine .inl ⟨x1, x2, ?_⟩
      rcases x with x | ⟨x3, x4⟩
      · exact .inl x
      · exact .inr ⟨x3, SHx_ag h h0 he x4⟩
    · refine .inr ⟨x1, ?_⟩
      rcases x with x | ⟨x3, x4⟩
      · exact .inl x
      · exact .inr ⟨x3, by rw [← bv_ag0 h h0 2 (by omega)]; exact x4⟩
theorem SHQ_ag {gr la : Int} {R : Int × Int × Int × (Int → Int)} (h : AGI I J n) (ha : 0 ≤ a) (he : e ≤ n) (x : SHQ I a e gr la R) : SHQ J a e gr la R := by
  rcases x with ⟨x1, x2⟩ | ⟨x1, x2, ok, en, P, x3, x4⟩
  · refine .inl ⟨?_, x2⟩
    rcases x1 with x1 | ⟨x1, x3⟩
    · exact .inl x1
    · exact .inr ⟨x1, by rw [← bv_ag0 h (b := 8 * a) (by omega) 4 (by omega)]; exact x3⟩
  · have e1 : bv I (8 * a) 4 = bv J (8 * a) 4 := bv_ag0 h (b := 8 * a) (by omega) 4 (by omega)
    have w := IT_ag (fun s : ShS => 0 ≤ s.1) (fun s t hs k => SHs_ag h (show 8 * e ≤ 8 * n by omega) s t hs k) (fun s r hs k => SHe_ag h (show 8 * e ≤ 8 * n by omega) s r hs k) (show 0 ≤ 8 * a + 4 by omega) x3
    rw [e1] at w x2 x4
    exact .inr ⟨x1, x2, ok, en, P, w, x4⟩
theorem SHF_ag {gr la : Int} (h : AGB I J n) (ha : 0 ≤ a) (he : e ≤ n) : SHF I a e gr la = SHF J a e gr la := CH_ag (fun _ k => SHQ_ag h.1 ha he k) (fun _ k => SHQ_ag h.2 ha he k)
theorem SHe_p {last : Int} (s : ShS) (R : Int × Int × (Int → Int)) (h0 : 0 ≤ s.1) (x : SHe I e last s R) : 0 ≤ R.2.1 := by
  rcases x with ⟨_, _, x⟩ | ⟨x, _⟩
  · rw [x]; show 0 ≤ (s.1 + 7) / 8; omega
  · rw [x]; exact Int.le_refl _
theorem SHs_p {last : Int} (s t : ShS) (h0 : 0 ≤ s.1) (x : SHs I e last s t) : 0 ≤ t.1 := by
  rcases x with ⟨x1, x2, x3, u, b2, ⟨m, y1, y2⟩, x4⟩ | ⟨x1, x2, x3, x4⟩
  · rw [x4]
    show 0 ≤ b2
    obtain ⟨_, y2⟩ := y2
    have := y1.1
    rcases y2 with ⟨_, _, z⟩ | ⟨_, _, z, _⟩ <;> omega
  · rw [x4]; show 0 ≤ s.1 + 2; omega
theorem SHQ_p {gr la : Int} {R : Int × Int × Int × (Int → Int)} (ha : 0 ≤ a) (x : SHQ I a e gr la R) : 0 ≤ R.2.2.1 ∧ 0 ≤ R.2.1 ∧ (R.1 = 0 ∨ 5 ≤ R.2.1 ∧ R.2.1 ≤ gr) := by
  rcases x with ⟨_, x⟩ | ⟨_, x2, ok, en, P, x3, x4⟩
  · rw [x]; exact ⟨Int.le_refl _, Int.le_refl _, .inl rfl⟩
  · have w := IT_end (fun s : ShS => 0 ≤ s.1) (fun R : Int × Int × (Int → Int) => 0 ≤ R.2.1) (fun s t hs k => SHs_p s t hs k) (fun s r hs k => SHe_p s r hs k) (show 0 ≤ 8 * a + 4 by omega) x3
    have r := bv_rng (I := I) (b := 8 * a) (n := 4)
    rcases x4 with ⟨_, x⟩ | ⟨_, x⟩
    · rw [x]; exact ⟨Int.le_refl _, Int.le_refl _, .inl rfl⟩
    · rw [x]; exact ⟨w, by show 0 ≤ 5 + bv I (8 * a) 4; omega, .inr ⟨by show 5 ≤ 5 + bv I (8 * a) 4; omega, x2⟩⟩
theorem SHF_p {gr la : Int} (ha : 0 ≤ a) : 0 ≤ (SHF I a e gr la).2.2.1 ∧ 0 ≤ (SHF I a e gr la).2.1 ∧ ((SHF I a e gr la).1 = 0 ∨ 5 ≤ (SHF I a e gr la).2.1 ∧ (SHF I a e gr la).2.1 ≤ gr) := by
  by_cases q : ∃ r, SHQ I a e gr la r
  · exact SHQ_p ha (CH_p (d := (0, 0, 0, fun _ => 0)) q)
  · have w : SHF I a e gr la = (0, 0, 0, fun _ => 0) := CH_n q
    rw [w]
    exact ⟨Int.le_refl _, Int.le_refl _, .inl rfl⟩
theorem OPS_ag {r : Int} (h : AGI I J n) (ha : 0 ≤ a) (he : e ≤ n) (x : OPS I a e r left) : OPS J a e r left := by
  rcases x with ⟨x1, x⟩ | ⟨x1, x2, x3, q, x4, x5, x6, x7⟩
  · refine .inl ⟨x1, ?_⟩
    by_cases c : e ≤ a
    · exact .inl c
    · rcases x with x | x
      · exact .inl x
      · exact .inr (by rw [← h.1 (e - 1) (by omega) (by omega)]; exact x)
  · have e1 := h.1 (e - 1) (by omega) (by omega)
    rw [e1] at x3 x5 x6
    exact .inr ⟨x1, x2, x3, q, x4, x5, x6, x7⟩
theorem OPS_b (hI : ∀ k, 0 ≤ I k ∧ I k ≤ 255) (x : OPS I a e 1 left) : a < e ∧ 0 ≤ left ∧ 8 * a + left < 8 * e := by
  rcases x with ⟨x1, _⟩ | ⟨x1, x2, x3, q, x4, x5, x6, x7⟩
  · exact absurd x1 (by decide)
  · have hq : q < 8 := p2_lt x4 (by rw [show p2 8 = 256 by decide]; have := hI (e - 1); omega)
    omega
theorem OPF_ag (h : AGB I J n) (ha : 0 ≤ a) (he : e ≤ n) : OPF I a e = OPF J a e :=
  CH_ag (fun x ⟨r, l, u, v⟩ => ⟨r, l, OPS_ag h.1 ha he u, v⟩) (fun x ⟨r, l, u, v⟩ => ⟨r, l, OPS_ag h.2 ha he u, v⟩)
theorem OPF_b (hI : ∀ k, 0 ≤ I k ∧ I k ≤ 255) : OPF I a e < 0 ∨ a < e ∧ 0 ≤ OPF I a e ∧ 8 * a + OPF I a e < 8 * e := by
  by_cases q : ∃ x, ∃ r left, OPS I a e r left ∧ (r = 1 ∧ x = left ∨ r ≠ 1 ∧ x = -1)
  · obtain ⟨r, l, u, v⟩ := CH_p (d := (-1 : Int)) q
    rcases v with ⟨v1, v2⟩ | ⟨v1, v2⟩
    · subst v1
      have := OPS_b hI u
      have e1 : OPF I a e = l := v2
      rw [e1]
      exact .inr this
    · have e1 : OPF I a e = -1 := v2
      rw [e1]
      exact .inl (by decide)
  · have e1 : OPF I a e = -1 := CH_n q
    rw [e1]
    exact .inl (by decide)
theorem WBs_ag {P : Int → Int} {o : Int} (h : AGI I J n) (hst : 0 ≤ st) (s t : WbS) (h0 : 0 ≤ s.2.2.1 ∧ st + s.2.2.1 ≤ 8 * n) (x : WBs I P o st s t) : WBs J P o st s t ∧ 0 ≤ t.2.2.1 ∧ st + t.2.2.1 ≤ 8 * n := by
  obtain ⟨x1, x2, sm, c, z, x3, x4, x5⟩ := x
  have c0 : 0 ≤ c := by obtain ⟨sy, _, _, ⟨c0, _⟩, _⟩ := x3; exact c0
  refine ⟨⟨x1, x2, sm, c, z, x3, x4, by rw [← bv_ag h (m := c) (b := st + s.2.2.1 - c) (by omega)]; exact x5⟩, ?_⟩
  rw [x5]
  show 0 ≤ s.2.2.1 - c ∧ st + (s.2.2.1 - c) ≤ 8 * n
  omega
theorem WBQ_ag {R : Int × (Int → Int)} (h : AGI I J n) (ha : 0 ≤ a) (he : e ≤ n) (x : WBQ I a e R) : WBQ J a e R := by
  obtain ⟨ok, o, p, P, x1, x⟩ := x
  have r := SHQ_p ha x1
  refine ⟨ok, o, p, P, SHQ_ag h ha he x1, ?_⟩
  rcases x with x | ⟨x0, r_, left, x2, x⟩
  · exact .inl x
  · have p0 : 0 ≤ p := r.1
    have o0 : 0 ≤ o := r.2.1
    refine .inr ⟨x0, r_, left, OPS_ag h p0 he x2, ?_⟩
    rcases x with x | ⟨x3, x⟩
    · exact .inl x
    · refine .inr ⟨x3, ?_⟩
      rcases x with x | ⟨x4, x⟩
      · exact .inl x
      · subst x3
        have w := OPS_b h.2 x2
        refine .inr ⟨x4, ?_⟩
        have v := IT_ag (st2 := WBs J P o (8 * p)) (en2 := WBe P o) (fun s : WbS => 0 ≤ s.2.2.1 ∧ 8 * p + s.2.2.1 ≤ 8 * n) (fun s t hs k => WBs_ag h (by omega) s t hs k) (fun s r hs k => k) (show 0 ≤ left - 2 * o ∧ 8 * p + (left - 2 * o) ≤ 8 * n by omega) x
        rw [bv_ag h (m := o) (b := 8 * p + left - o) (by omega), bv_ag h (m := o) (b := 8 * p + left - 2 * o) (by omega)] at v
        exact v
theorem WBF_ag (h : AGB I J n) (ha : 0 ≤ a) (he : e ≤ n) : WBF I a e = WBF J a e := CH_ag (fun _ k => WBQ_ag h.1 ha he k) (fun _ k => WBQ_ag h.2 ha he k)
theorem dEn_ag (h : AGI I J n) (ha : 0 ≤ a) (h1 : a < n) : dEn I a = dEn J a := by
  unfold dEn
  rw [h.1 a ha h1]
theorem dWt_ag (h : AGB I J n) (ha : 0 ≤ a) (h1 : a < n) (h2 : dEn I a ≤ n) : dWt I a = dWt J a := by
  have e0 := h.1.1 a ha h1
  have e1 := dEn_ag h.1 ha h1
  unfold dWt
  rw [← e0, ← e1]
  by_cases c : 127 < I a
  · rw [if_pos c, if_pos c]
    have e2 : dDW I a = dDW J a := by
      funext k
      unfold dDW
      rw [← e0]
      by_cases q : 0 ≤ k ∧ k < I a - 127
      · rw [dEn_1 c] at h2
        rw [if_pos q, if_pos q, h.1.1 (a + 1 + k / 2) (by omega) (by omega)]
      · rw [if_neg q, if_neg q]
    rw [e2]
  · rw [if_neg c, if_neg c]
    exact WBF_ag h (by omega) h2
theorem DSF_ag (h : AGB I J n) (ha : 0 ≤ a) (he : e ≤ n) : DSF I a e = DSF J a e := by
  unfold DSF
  by_cases c : e ≤ a
  · rw [if_pos (.inl c), if_pos (.inl c)]
  · have e1 := dEn_ag h.1 ha (show a < n by omega)
    by_cases c2 : e < dEn I a
    · rw [if_pos (.inr (.inl c2)), if_pos (.inr (.inl (by rw [← e1]; exact c2)))]
    · rw [← e1, ← dWt_ag h ha (by omega) (by omega)]

theorem CMF_g {W : Int → Int} {m s : Int} (hm : 0 ≤ m) (h0 : 0 ≤ s) : 0 ≤ (CMF m W).2.2 s := by
  unfold CMF
  split
  · exact Int.le_refl _
  · rename_i c
    have c1 : ¬ CMr W m = 0 := fun q => c (.inl q)
    have c3 : p2 (HBF (CMl W m)) = CMl W m := Classical.not_not.mp (fun q => c (.inr (.inr (.inl q))))
    have hk : ∀ i : Int, 0 ≤ wk (W i) := fun i => by
      unfold wk
      have := p2_pos (W i - 1)
      split <;> omega
    have r0 : 0 ≤ CMr W m := su_nonneg (fun i _ _ => hk i)
    have hr := HBF_p (show 1 ≤ CMr W m by omega)
    have ht : p2 (CMt W m) = 2 * p2 (HBF (CMr W m)) := by
      unfold CMt
      rw [p2_s hr.1]
    have hl : CMl W m = p2 (CMt W m) - CMr W m := rfl
    show 0 ≤ lw (upd1 W m (HBF (CMl W m) + 1)) m (CMt W m) s
    have t0 : 0 ≤ CMt W m := by unfold CMt; omega
    unfold lw
    split
    · rename_i q
      have : upd1 W m (HBF (CMl W m) + 1) s ≤ CMt W m := by
        by_cases z : s = m
        · rw [z, upd1_s]
          have l1 : 1 ≤ CMl W m := by omega
          have hh := HBF_p l1
          have := p2_lt (a := HBF (CMl W m)) (b := CMt W m) hh.1 (by omega)
          omega
        · rw [upd1_o z] at q ⊢
          have w := su_oneR (f := fun i => wk (W i)) (i := s) (n := m.toNat) (fun i _ _ => hk i) h0 (by omega)
          have w2 : wk (W s) ≤ CMr W m := w
          have e2 : wk (W s) = p2 (W s - 1) := by unfold wk; rw [if_pos q.2]
          have := p2_lt (a := W s - 1) (b := CMt W m) (by omega) (by omega)
          omega
      omega
    · exact Int.le_refl _
theorem DSF_g {s : Int} (hI : ∀ k, 0 ≤ I k ∧ I k ≤ 255) (h0 : 0 ≤ s) : 0 ≤ (DSF I a e).2.2.2 s := by
  unfold DSF
  split
  · exact Int.le_refl _
  · rename_i c
    have c3 : ¬ (dWt I a).1 = -1 := fun q => c (.inr (.inr (.inl q)))
    have hn : 0 ≤ (dWt I a).1 := by
      unfold dWt at c3 ⊢
      by_cases z : 127 < I a
      · rw [if_pos z]
        show 0 ≤ I a - 127
        omega
      · rw [if_neg z] at c3 ⊢
        by_cases q : ∃ r, WBQ I (a + 1) (dEn I a) r
        · have w := WBQ_r (CH_p (d := ((-1 : Int), fun _ : Int => (0 : Int))) q)
          have w2 : (WBF I (a + 1) (dEn I a)).1 = -1 ∨ 2 ≤ (WBF I (a + 1) (dEn I a)).1 := w
          omega
        · have w : WBF I (a + 1) (dEn I a) = (-1, fun _ => 0) := CH_n q
          rw [w] at c3
          exact absurd rfl c3
    exact CMF_g hn h0
theorem DSF_p (hI : ∀ k, 0 ≤ I k ∧ I k ≤ 255) (ha : 0 ≤ a) : 0 ≤ (DSF I a e).2.1 := by
  unfold DSF
  split
  · exact Int.le_refl _
  · show 0 ≤ dEn I a
    unfold dEn
    have := hI a
    split <;> omega
theorem pk_ag {T : Int} (h : AGI I J n) (hs : 0 ≤ st) (hl : st + left ≤ 8 * n) : pk I st left T = pk J st left T := by
  unfold pk
  by_cases c : T ≤ left
  · rw [if_pos c, if_pos c]
    exact bv_ag h (by omega)
  · rw [if_neg c, if_neg c, bv_ag h (m := left) (b := st) (by omega)]
theorem dcS_r {G : Int → Int} {T : Int} : 0 ≤ dcS I G st T left ∧ dcS I G st T left < 256 := by
  unfold dcS
  by_cases c : (pk I st left T).toNat < (CELS G T).length
  · exact CLa_rng (getD_mem (L := CELS G T) c)
  · rw [List.getD_eq_getElem?_getD, List.getElem?_eq_none (by omega)]
    exact ⟨by decide, by decide⟩
theorem dcd_ag {G : Int → Int} {T : Int} (h : AGI I J n) (hG : ∀ s, 0 ≤ s → s < 256 → 0 ≤ G s) (hs : 0 ≤ st) : ∀ (m : Nat) (left : Int) (A : List Int), st + left ≤ 8 * n → dcd I G st T m left A = dcd J G st T m left A
  | 0, _, _, _ => rfl
  | m + 1, left, A, q => by
    have e1 : dcS I G st T left = dcS J G st T left := by
      unfold dcS
      rw [pk_ag h hs q]
    have r := dcS_r (I := I) (G := G) (T := T) (st := st) (left := left)
    have g := hG _ r.1 r.2
    show (if left - G (dcS I G st T left) < 0 then (0, []) else dcd I G st T m (left - G (dcS I G st T left)) (A ++ [dcS I G st T left])) = (if left - G (dcS J G st T left) < 0 then (0, []) else dcd J G st T m (left - G (dcS J G st T left)) (A ++ [dcS J G st T left]))
    rw [← e1]
    by_cases c : left - G (dcS I G st T left) < 0
    · rw [if_pos c, if_pos c]
    · rw [if_neg c, if_neg c]
      exact dcd_ag h hG hs m _ _ (by omega)
theorem DCF_ag {G : Int → Int} {T m : Int} {A : List Int} (h : AGB I J n) (hG : ∀ s, 0 ≤ s → s < 256 → 0 ≤ G s) (ha : 0 ≤ a) (he : e ≤ n) : DCF I G a e T m A = DCF J G a e T m A := by
  unfold DCF
  rw [← OPF_ag h ha he]
  rcases OPF_b (a := a) (e := e) h.1.2 with c | c
  · rw [if_pos c, if_pos c]
  · rw [if_neg (by omega), if_neg (by omega)]
    exact dcd_ag h.1 hG (by omega) _ _ _ (by omega)
theorem STN_ag {G : Int → Int} {T m c nb_ i at_ w N : Int} {k : Nat} {A : List Int} (h : AGB I J n) (hG : ∀ s, 0 ≤ s → s < 256 → 0 ≤ G s) (ha : 0 ≤ at_) (hw : w ≤ n) (hi : i = m - 1 ∧ w = e ∨ i ≠ m - 1 ∧ w = at_ + nvl I (nb_ + 2 * i) 2 ∧ nvl I (nb_ + 2 * i) 2 = nvl J (nb_ + 2 * i) 2) (ih : ∀ B, STN I G T N m c nb_ e k (i + 1) w B = STN J G T N m c nb_ e k (i + 1) w B) : STN I G T N m c nb_ e (k + 1) i at_ A = STN J G T N m c nb_ e (k + 1) i at_ A := by
  have e1 : (if i = m - 1 then e else at_ + nvl I (nb_ + 2 * i) 2) = w := by rcases hi with ⟨a, b⟩ | ⟨a, b, _⟩; (rw [if_pos a, b]); (rw [if_neg a, b])
  have e2 : (if i = m - 1 then e else at_ + nvl J (nb_ + 2 * i) 2) = w := by rcases hi with ⟨a, b⟩ | ⟨a, b, d⟩; (rw [if_pos a, b]); (rw [if_neg a, b, d])
  show (if (DCF I G at_ (if i = m - 1 then e else at_ + nvl I (nb_ + 2 * i) 2) T (if i = m - 1 then N - i * c else c) A).1 = 0 then (0, at_, [])
      else STN I G T N m c nb_ e k (i + 1) (if i = m - 1 then e else at_ + nvl I (nb_ + 2 * i) 2) (DCF I G at_ (if i = m - 1 then e else at_ + nvl I (nb_ + 2 * i) 2) T (if i = m - 1 then N - i * c else c) A).2) =
    (if (DCF J G at_ (if i = m - 1 then e else at_ + nvl J (nb_ + 2 * i) 2) T (if i = m - 1 then N - i * c else c) A).1 = 0 then (0, at_, [])
      else STN J G T N m c nb_ e k (i + 1) (if i = m - 1 then e else at_ + nvl J (nb_ + 2 * i) 2) (DCF J G at_ (if i = m - 1 then e else at_ + nvl J (nb_ + 2 * i) 2) T (if i = m - 1 then N - i * c else c) A).2)
  rw [e1, e2, DCF_ag h hG ha hw, ih]
theorem STF_ag {G : Int → Int} {T N l p : Int} (h : AGB I J n) (hG : ∀ s, 0 ≤ s → s < 256 → 0 ≤ G s) (hp : 0 ≤ p) (he : e ≤ n) : STF I G T N l p e = STF J G T N l p e := by
  unfold STF
  by_cases c : l = 0
  · rw [if_pos c, if_pos c]
    exact STN_ag (w := e) h hG hp he (.inl ⟨by decide, rfl⟩) (fun B => rfl)
  · rw [if_neg c, if_neg c]
    have i0 := nvl_nn I 2 p
    have i1 := nvl_nn I 2 (p + 2)
    have i2 := nvl_nn I 2 (p + 4)
    have j0 := nvl_nn J 2 p
    have j1 := nvl_nn J 2 (p + 2)
    have j2 := nvl_nn J 2 (p + 4)
    by_cases c2 : e - p < 6
    · rw [if_pos (by omega), if_pos (by omega)]
    · have e0 := nvl_ag (m := 2) (a := p) h.1 hp (by omega)
      have e1 := nvl_ag (m := 2) (a := p + 2) h.1 (by omega) (by omega)
      have e2 := nvl_ag (m := 2) (a := p + 4) h.1 (by omega) (by omega)
      rw [← e0, ← e1, ← e2]
      by_cases c3 : e - p < 6 + (nvl I p 2 + nvl I (p + 2) 2 + nvl I (p + 4) 2)
      · rw [if_pos c3, if_pos c3]
      · rw [if_neg c3, if_neg c3]
        refine STN_ag (w := p + 6 + nvl I p 2) h hG (by omega) (by omega) (.inr ⟨by decide, by rw [show p + 2 * 0 = p by omega], by rw [show p + 2 * 0 = p by omega]; exact e0⟩) (fun B => ?_)
        refine STN_ag (w := p + 6 + nvl I p 2 + nvl I (p + 2) 2) h hG (by omega) (by omega) (.inr ⟨by decide, by rw [show p + 2 * (0 + 1) = p + 2 by omega], by rw [show p + 2 * (0 + 1) = p + 2 by omega]; exact e1⟩) (fun B => ?_)
        refine STN_ag (w := p + 6 + nvl I p 2 + nvl I (p + 2) 2 + nvl I (p + 4) 2) h hG (by omega) (by omega) (.inr ⟨by decide, by rw [show p + 2 * (0 + 1 + 1) = p + 4 by omega], by rw [show p + 2 * (0 + 1 + 1) = p + 4 by omega]; exact e2⟩) (fun B => ?_)
        exact STN_ag (w := e) h hG (by omega) he (.inl ⟨by decide, rfl⟩) (fun B => rfl)
theorem LT0_ag {G : Int → Int} {at_ mo T kind l b N M : Int} (h : AGB I J n) (ha : 0 ≤ at_) (hb : 0 ≤ b) (he : e ≤ n) (hN : e - at_ < b ∨ N = M) : LT0 I at_ e mo T G kind l b N = LT0 J at_ e mo T G kind l b M := by
  unfold LT0
  by_cases c : e - at_ < b
  · rw [if_pos c, if_pos c]
  · have hM : N = M := by omega
    subst hM
    rw [if_neg c, if_neg c]
    by_cases c2 : mo < N
    · rw [if_pos c2, if_pos c2]
    · rw [if_neg c2, if_neg c2]
      by_cases c3 : e - (at_ + b) < (if kind = 0 then N else 1)
      · rw [if_pos c3, if_pos c3]
      · rw [if_neg c3, if_neg c3]
        by_cases c4 : kind = 0
        · rw [if_pos c4] at c3
          rw [if_pos c4, if_pos c4, sc_ag h.1 (a := at_ + b) (by omega) (by omega)]
          simp only [if_pos c4]
        · rw [if_neg c4] at c3
          simp only [if_neg c4]
          rw [h.1.1 (at_ + b) (by omega) (by omega)]
theorem LT3_ag {G : Int → Int} {p to l N T : Int} (h : AGB I J n) (hG : ∀ s, 0 ≤ s → s < 256 → 0 ≤ G s) (hp : 0 ≤ p) (ht : to ≤ n) : LT3 I p to l N T G = LT3 J p to l N T G := by
  unfold LT3
  rw [STF_ag h hG hp ht]
theorem LT2_ag {G : Int → Int} {at_ mo T kind l b N M fo go : Int} (h : AGB I J n) (hG : ∀ s, 0 ≤ s → s < 256 → 0 ≤ G s) (ha : 0 ≤ at_) (hb : 0 ≤ b) (he : e ≤ n) (hN : e - at_ < b ∨ N = M ∧ fo = go) : LT2 I at_ e mo T G kind l b N fo = LT2 J at_ e mo T G kind l b M go := by
  unfold LT2
  by_cases c : e - at_ < b
  · rw [if_pos c, if_pos c]
  · obtain ⟨h1, h2⟩ : N = M ∧ fo = go := by omega
    subst h1 h2
    rw [if_neg c, if_neg c]
    by_cases c2 : mo < N ∨ 0 < l ∧ N < 3 * ((N + 3) / 4)
    · rw [if_pos c2, if_pos c2]
    · rw [if_neg c2, if_neg c2]
      by_cases c3 : kind = 3 ∧ T = 0
      · rw [if_pos c3, if_pos c3]
      · rw [if_neg c3, if_neg c3]
        by_cases c4 : e - (at_ + b) < fo
        · rw [if_pos c4, if_pos c4]
        · rw [if_neg c4, if_neg c4]
          by_cases c5 : kind = 2
          · rw [if_pos c5, if_pos c5, ← DSF_ag (a := at_ + b) (e := at_ + b + fo) h (by omega) (by omega)]
            by_cases c6 : (DSF I (at_ + b) (at_ + b + fo)).1 = 0
            · rw [if_pos c6, if_pos c6]
            · rw [if_neg c6, if_neg c6]
              exact LT3_ag h (fun s x y => DSF_g h.1.2 x) (DSF_p h.1.2 (by omega)) (by omega)
          · rw [if_neg c5, if_neg c5]
            exact LT3_ag h hG (by omega) (by omega)
theorem lhB_r (l : Int) : 1 ≤ lhB l ∧ lhB l ≤ 3 := by
  unfold lhB
  split
  · omega
  · split <;> omega
theorem lcB_r (l : Int) (h : l ≤ 3) : 3 ≤ lcB l ∧ lcB l ≤ 5 := by
  unfold lcB
  split <;> omega
theorem LTF_ag {G : Int → Int} {at_ mo T : Int} (h : AGB I J n) (hG : ∀ s, 0 ≤ s → s < 256 → 0 ≤ G s) (ha : 0 ≤ at_) (he : e ≤ n) : LTF I at_ e mo T G = LTF J at_ e mo T G := by
  unfold LTF
  by_cases c : e ≤ at_
  · rw [if_pos c, if_pos c]
  · rw [if_neg c, if_neg c]
    have e0 := h.1.1 at_ ha (by omega)
    rw [← e0]
    by_cases c2 : I at_ % 4 < 2
    · rw [if_pos c2, if_pos c2]
      have r := lhB_r (I at_ / 4 % 4)
      refine LT0_ag h ha (by omega) he ?_
      by_cases c3 : e - at_ < lhB (I at_ / 4 % 4)
      · exact .inl c3
      · exact .inr (by rw [nvl_ag h.1 ha (by omega)])
    · rw [if_neg c2, if_neg c2]
      have r := lcB_r (I at_ / 4 % 4) (by omega)
      refine LT2_ag h hG ha (by omega) he ?_
      by_cases c3 : e - at_ < lcB (I at_ / 4 % 4)
      · exact .inl c3
      · exact .inr (by rw [nvl_ag h.1 ha (by omega)]; exact ⟨rfl, rfl⟩)
theorem LT3_gg {G : Int → Int} {p to l N T s : Int} (hG : 0 ≤ G s) : 0 ≤ (LT3 I p to l N T G).2.2.2.2.2 s := by
  unfold LT3
  split
  · exact Int.le_refl _
  · exact hG
theorem LT0_gg {G : Int → Int} {at_ mo T kind l b N s : Int} (hG : 0 ≤ G s) : 0 ≤ (LT0 I at_ e mo T G kind l b N).2.2.2.2.2 s := by
  unfold LT0
  by_cases c1 : e - at_ < b
  · rw [if_pos c1]; exact Int.le_refl _
  · rw [if_neg c1]
    by_cases c2 : mo < N
    · rw [if_pos c2]; exact Int.le_refl _
    · rw [if_neg c2]
      by_cases c3 : e - (at_ + b) < (if kind = 0 then N else 1)
      · rw [if_pos c3]; exact Int.le_refl _
      · rw [if_neg c3]; exact hG
theorem LT0_pp {G : Int → Int} {at_ mo T kind l b N : Int} (ha : 0 ≤ at_ + b) (hN : 0 ≤ N) : 0 ≤ (LT0 I at_ e mo T G kind l b N).2.2.1 := by
  unfold LT0
  by_cases c1 : e - at_ < b
  · rw [if_pos c1]; exact Int.le_refl _
  · rw [if_neg c1]
    by_cases c2 : mo < N
    · rw [if_pos c2]; exact Int.le_refl _
    · rw [if_neg c2]
      by_cases c3 : e - (at_ + b) < (if kind = 0 then N else 1)
      · rw [if_pos c3]; exact Int.le_refl _
      · rw [if_neg c3]
        show 0 ≤ at_ + b + (if kind = 0 then N else 1)
        split <;> omega
theorem LTF_gg {G : Int → Int} {at_ mo T s : Int} (hI : ∀ k, 0 ≤ I k ∧ I k ≤ 255) (h0 : 0 ≤ s) (hG : 0 ≤ G s) : 0 ≤ (LTF I at_ e mo T G).2.2.2.2.2 s := by
  unfold LTF
  split
  · exact Int.le_refl _
  · split
    · exact LT0_gg hG
    · unfold LT2
      split
      · exact Int.le_refl _
      · split
        · exact Int.le_refl _
        · split
          · exact Int.le_refl _
          · split
            · exact Int.le_refl _
            · split
              · split
                · exact Int.le_refl _
                · exact LT3_gg (DSF_g hI h0)
              · exact LT3_gg hG
theorem LTF_pp {G : Int → Int} {at_ mo T : Int} (hI : ∀ k, 0 ≤ I k ∧ I k ≤ 255) (ha : 0 ≤ at_) : 0 ≤ (LTF I at_ e mo T G).2.2.1 := by
  unfold LTF
  split
  · exact Int.le_refl _
  · split
    · have r := lhB_r (I at_ / 4 % 4)
      have w := nvl_nn I (lhB (I at_ / 4 % 4)).toNat at_
      exact LT0_pp (by omega) (by split <;> omega)
    · have r := lcB_r (I at_ / 4 % 4) (by omega)
      unfold LT2
      have hp := p2_pos (lcW (I at_ / 4 % 4))
      have v : 0 ≤ nvl I at_ (lcB (I at_ / 4 % 4)).toNat / 16 / p2 (lcW (I at_ / 4 % 4)) % p2 (lcW (I at_ / 4 % 4)) := Int.emod_nonneg _ (by omega)
      split
      · exact Int.le_refl _
      · split
        · exact Int.le_refl _
        · split
          · exact Int.le_refl _
          · split
            · exact Int.le_refl _
            · split
              · split
                · exact Int.le_refl _
                · unfold LT3
                  split
                  · exact Int.le_refl _
                  · show 0 ≤ at_ + lcB (I at_ / 4 % 4) + _
                    omega
              · unfold LT3
                split
                · exact Int.le_refl _
                · show 0 ≤ at_ + lcB (I at_ / 4 % 4) + _
                  omega
end AGy


end
section
/-! 22c -/
def TXO (X : Tb) : Prop := (X.1 < 0 ∨ LO X.1) ∧ 0 ≤ X.2.1
def TX3 (X : Int → Tb) : Prop := TXO (X 0) ∧ TXO (X 1) ∧ TXO (X 2)
theorem ite_P {α : Type} {c : Prop} {hc : Decidable c} {a b : α} {P : α → Prop} (h1 : P a) (h2 : P b) : P (if c then a else b) := by
  by_cases q : c
  · rw [if_pos q]; exact h1
  · rw [if_neg q]; exact h2
section AGz
variable {I J : Int → Int} {n a e b k st left at_ : Int}
theorem T1F_ag {ma t mode : Int} {X : Tb} (h : AGB I J n) (ha : 0 ≤ at_) (he : e ≤ n) : T1F I e ma t mode at_ X = T1F J e ma t mode at_ X := by
  unfold T1F
  rw [← SHF_ag h ha he]
  by_cases c : mode = 0
  · rw [if_pos c, if_pos c]
  · rw [if_neg c, if_neg c]
    by_cases c2 : mode = 1
    · rw [if_pos c2, if_pos c2]
      by_cases c3 : e ≤ at_
      · rw [if_pos c3, if_pos c3]
      · rw [if_neg c3, if_neg c3, ← h.1.1 at_ ha (by omega)]
    · rw [if_neg c2, if_neg c2]
theorem T1F_r {ma t mode : Int} {X : Tb} (hX : TXO X) (ht : 0 ≤ t ∧ t ≤ 2) (ha : 0 ≤ at_) : (T1F I e ma t mode at_ X).1 ≠ 0 ∨ 0 ≤ (T1F I e ma t mode at_ X).2.2.1 ∧ LO (T1F I e ma t mode at_ X).2.2.2.1 ∧ 0 ≤ (T1F I e ma t mode at_ X).2.2.2.2.1 := by
  have hl : 0 ≤ lastOf t := by unfold lastOf; split; (omega); split <;> omega
  by_cases c0 : mode = 0
  · have w : T1F I e ma t mode at_ X = (0, 0, at_, KNX t) := if_pos c0
    rw [w]
    refine .inr ⟨ha, ?_, ?_⟩
    · show LO (if t = 1 then 5 else 6)
      by_cases q : t = 1
      · rw [if_pos q]; exact .inr ⟨by decide, by decide⟩
      · rw [if_neg q]; exact .inr ⟨by decide, by decide⟩
    · show 0 ≤ KNn t
      unfold KNn
      split
      · omega
      · split <;> omega
  · by_cases c1 : mode = 1
    · by_cases c2 : e ≤ at_
      · have w : T1F I e ma t mode at_ X = bad4 10 e X := (if_neg c0).trans ((if_pos c1).trans (if_pos c2))
        rw [w]
        exact .inl (show ¬ (10 : Int) = 0 by decide)
      · by_cases c3 : lastOf t < I at_
        · have w : T1F I e ma t mode at_ X = bad4 16 ma X := (if_neg c0).trans ((if_pos c1).trans ((if_neg c2).trans (if_pos c3)))
          rw [w]
          exact .inl (show ¬ (16 : Int) = 0 by decide)
        · have w : T1F I e ma t mode at_ X = (0, 0, at_ + 1, 0, lastOf t + 1, on0 (I at_)) := (if_neg c0).trans ((if_pos c1).trans ((if_neg c2).trans (if_neg c3)))
          rw [w]
          exact .inr ⟨by show 0 ≤ at_ + 1; omega, .inl rfl, by show 0 ≤ lastOf t + 1; omega⟩
    · by_cases c2 : mode = 2
      · by_cases c3 : (SHF I at_ e (if t = 1 then 8 else 9) (lastOf t)).1 = 0
        · have w : T1F I e ma t mode at_ X = bad4 16 ma X := (if_neg c0).trans ((if_neg c1).trans ((if_pos c2).trans (if_pos c3)))
          rw [w]
          exact .inl (show ¬ (16 : Int) = 0 by decide)
        · have w : T1F I e ma t mode at_ X = (0, 0, (SHF I at_ e (if t = 1 then 8 else 9) (lastOf t)).2.2.1, (SHF I at_ e (if t = 1 then 8 else 9) (lastOf t)).2.1, lastOf t + 1, (SHF I at_ e (if t = 1 then 8 else 9) (lastOf t)).2.2.2) := (if_neg c0).trans ((if_neg c1).trans ((if_pos c2).trans (if_neg c3)))
          rw [w]
          have v := SHF_p (I := I) (a := at_) (e := e) (gr := if t = 1 then 8 else 9) (la := lastOf t) ha
          refine .inr ⟨v.1, ?_, by show 0 ≤ lastOf t + 1; omega⟩
          have v2 := v.2.2
          generalize SHF I at_ e (if t = 1 then 8 else 9) (lastOf t) = Z at c3 v2 ⊢
          rcases v2 with q | q
          · exact absurd q c3
          · refine .inr ⟨q.1, ?_⟩
            have q2 := q.2
            split at q2 <;> (show Z.2.1 ≤ 9; omega)
      · by_cases c3 : X.1 < 0
        · have w : T1F I e ma t mode at_ X = bad4 16 ma X := (if_neg c0).trans ((if_neg c1).trans ((if_neg c2).trans (if_pos c3)))
          rw [w]
          exact .inl (show ¬ (16 : Int) = 0 by decide)
        · have w : T1F I e ma t mode at_ X = (0, 0, at_, X) := (if_neg c0).trans ((if_neg c1).trans ((if_neg c2).trans (if_neg c3)))
          rw [w]
          refine .inr ⟨ha, ?_, hX.2⟩
          rcases hX.1 with q | q
          · exact absurd q c3
          · exact q
theorem T3n_ag {ma m : Int} (h : AGB I J n) (he : e ≤ n) : ∀ (k : Nat) (t at_ : Int) (X : Int → Tb), 0 ≤ at_ → 0 ≤ t → t + (k : Int) ≤ 3 → TX3 X → T3n I e ma m k t at_ X = T3n J e ma m k t at_ X
  | 0, _, _, _, _, _, _, _ => rfl
  | k + 1, t, at_, X, ha, h0, h3, hX => by
    have e1 := T1F_ag (ma := ma) (t := t) (mode := mdF m t) (X := X t) h ha he
    have hXt : TXO (X t) := by rcases (show t = 0 ∨ t = 1 ∨ t = 2 by omega) with q | q | q <;> rw [q]; (exact hX.1); (exact hX.2.1); exact hX.2.2
    have r := T1F_r (I := I) (e := e) (ma := ma) (mode := mdF m t) hXt (show 0 ≤ t ∧ t ≤ 2 by omega) ha
    show (if (T1F I e ma t (mdF m t) at_ (X t)).1 ≠ 0 then ((T1F I e ma t (mdF m t) at_ (X t)).1, (T1F I e ma t (mdF m t) at_ (X t)).2.1, 0, X) else T3n I e ma m k (t + 1) (T1F I e ma t (mdF m t) at_ (X t)).2.2.1 (fun j => if j = t then (T1F I e ma t (mdF m t) at_ (X t)).2.2.2 else X j)) =
      (if (T1F J e ma t (mdF m t) at_ (X t)).1 ≠ 0 then ((T1F J e ma t (mdF m t) at_ (X t)).1, (T1F J e ma t (mdF m t) at_ (X t)).2.1, 0, X) else T3n J e ma m k (t + 1) (T1F J e ma t (mdF m t) at_ (X t)).2.2.1 (fun j => if j = t then (T1F J e ma t (mdF m t) at_ (X t)).2.2.2 else X j))
    rw [← e1]
    by_cases c : (T1F I e ma t (mdF m t) at_ (X t)).1 ≠ 0
    · rw [if_pos c, if_pos c]
    · rw [if_neg c, if_neg c]
      rcases r with r | ⟨r1, r2, r3⟩
      · exact absurd r c
      · refine T3n_ag h he k _ _ _ r1 (by omega) (by omega) ?_
        have hn : TXO (T1F I e ma t (mdF m t) at_ (X t)).2.2.2 := ⟨.inr r2, r3⟩
        refine ⟨?_, ?_, ?_⟩ <;> (show TXO (if _ = t then _ else _); split; (exact hn); first | exact hX.1 | exact hX.2.1 | exact hX.2.2)

theorem T3n_r {ma m : Int} : ∀ (k : Nat) (t at_ : Int) (X : Int → Tb), 0 ≤ at_ → 0 ≤ t → t + (k : Int) = 3 → TX3 X → (∀ j, 0 ≤ j → j < t → 0 ≤ (X j).1) → (T3n I e ma m k t at_ X).1 ≠ 0 ∧ TX3 (T3n I e ma m k t at_ X).2.2.2 ∨ 0 ≤ (T3n I e ma m k t at_ X).2.2.1 ∧ TX3 (T3n I e ma m k t at_ X).2.2.2 ∧ ∀ j, 0 ≤ j → j < 3 → 0 ≤ ((T3n I e ma m k t at_ X).2.2.2 j).1
  | 0, t, at_, X, ha, h0, h3, hX, hp => .inr ⟨ha, hX, fun j x y => hp j x (by omega)⟩
  | k + 1, t, at_, X, ha, h0, h3, hX, hp => by
    have hXt : TXO (X t) := by rcases (show t = 0 ∨ t = 1 ∨ t = 2 by omega) with q | q | q <;> rw [q]; (exact hX.1); (exact hX.2.1); exact hX.2.2
    have r := T1F_r (I := I) (e := e) (ma := ma) (mode := mdF m t) hXt (show 0 ≤ t ∧ t ≤ 2 by omega) ha
    show (if (T1F I e ma t (mdF m t) at_ (X t)).1 ≠ 0 then ((T1F I e ma t (mdF m t) at_ (X t)).1, (T1F I e ma t (mdF m t) at_ (X t)).2.1, 0, X) else T3n I e ma m k (t + 1) (T1F I e ma t (mdF m t) at_ (X t)).2.2.1 (fun j => if j = t then (T1F I e ma t (mdF m t) at_ (X t)).2.2.2 else X j)).1 ≠ 0 ∧ TX3 (if (T1F I e ma t (mdF m t) at_ (X t)).1 ≠ 0 then ((T1F I e ma t (mdF m t) at_ (X t)).1, (T1F I e ma t (mdF m t) at_ (X t)).2.1, 0, X) else T3n I e ma m k (t + 1) (T1F I e ma t (mdF m t) at_ (X t)).2.2.1 (fun j => if j = t then (T1F I e ma t (mdF m t) at_ (X t)).2.2.2 else X j)).2.2.2 ∨ _
    by_cases c : (T1F I e ma t (mdF m t) at_ (X t)).1 ≠ 0
    · rw [if_pos c]
      exact .inl ⟨c, hX⟩
    · have e2 : T3n I e ma m (k + 1) t at_ X = T3n I e ma m k (t + 1) (T1F I e ma t (mdF m t) at_ (X t)).2.2.1 (fun j => if j = t then (T1F I e ma t (mdF m t) at_ (X t)).2.2.2 else X j) := if_neg c
      rw [if_neg c, e2]
      rcases r with r | ⟨r1, r2, r3⟩
      · exact absurd r c
      · have hn : TXO (T1F I e ma t (mdF m t) at_ (X t)).2.2.2 := ⟨.inr r2, r3⟩
        refine T3n_r k _ _ _ r1 (by omega) (by omega) ?_ ?_
        · refine ⟨?_, ?_, ?_⟩ <;> (show TXO (if _ = t then _ else _); split; (exact hn); first | exact hX.1 | exact hX.2.1 | exact hX.2.2)
        · intro j x y
          show 0 ≤ (if j = t then (T1F I e ma t (mdF m t) at_ (X t)).2.2.2 else X j).1
          by_cases q : j = t
          · rw [if_pos q]
            rcases r2 with r2 | r2 <;> omega
          · rw [if_neg q]
            exact hp j x (by omega)
theorem T3F_ag {X : Int → Tb} (h : AGB I J n) (ha : 0 ≤ at_) (he : e ≤ n) (hX : TX3 X) : T3F I at_ e X = T3F J at_ e X := by
  unfold T3F
  by_cases c : e ≤ at_
  · rw [if_pos c, if_pos c]
  · rw [if_neg c, if_neg c, ← h.1.1 at_ ha (by omega)]
    by_cases c2 : I at_ % 4 ≠ 0
    · rw [if_pos c2, if_pos c2]
    · rw [if_neg c2, if_neg c2]
      exact T3n_ag h he 3 0 _ _ (by omega) (by decide) (by decide) hX
theorem T3F_r {X : Int → Tb} (ha : 0 ≤ at_) (hX : TX3 X) : (T3F I at_ e X).1 ≠ 0 ∧ TX3 (T3F I at_ e X).2.2.2 ∨ 0 ≤ (T3F I at_ e X).2.2.1 ∧ TX3 (T3F I at_ e X).2.2.2 ∧ ∀ j, 0 ≤ j → j < 3 → 0 ≤ ((T3F I at_ e X).2.2.2 j).1 := by
  by_cases c : e ≤ at_
  · have w : T3F I at_ e X = (10, e, 0, X) := if_pos c
    rw [w]
    exact .inl ⟨show ¬ (10 : Int) = 0 by decide, hX⟩
  · by_cases c2 : I at_ % 4 ≠ 0
    · have w : T3F I at_ e X = (15, at_, 0, X) := (if_neg c).trans (if_pos c2)
      rw [w]
      exact .inl ⟨show ¬ (15 : Int) = 0 by decide, hX⟩
    · have w : T3F I at_ e X = T3n I e at_ (I at_) 3 0 (at_ + 1) X := (if_neg c).trans (if_neg c2)
      rw [w]
      exact T3n_r 3 0 _ _ (by omega) (by decide) (by decide) hX (fun j x y => absurd x (by omega))
theorem tsF_r {X : Tb} {s : Int} (hX : TXO X) (hL : 0 ≤ X.1) (h0 : 0 ≤ s) (h1 : s < p2 X.1) : 0 ≤ (tsF X s).1 ∧ 0 ≤ (tsF X s).2.1 ∧ (tsF X s).2.1 ≤ X.1 ∧ 0 ≤ (tsF X s).2.2 ∧ (tsF X s).2.2 + p2 (tsF X s).2.1 ≤ p2 X.1 := by
  have hO : LO X.1 := by rcases hX.1 with q | q; (omega); exact q
  by_cases q : ∃ R : Int × Int × Int, TST X.2.2 X.2.1 X.1 s R.1 R.2.1 R.2.2
  · have w : TST X.2.2 X.2.1 X.1 s (tsF X s).1 (tsF X s).2.1 (tsF X s).2.2 := CH_p (d := ((0 : Int), (0 : Int), (0 : Int))) q
    obtain ⟨sy, w1, w2, ⟨w3, w4, w5, w6⟩, w7⟩ := w
    have r := LAID_rngO hO hX.2 w1 h0 h1
    have e1 : p2 X.1 = p2 (X.1 - (tsF X s).2.1) * p2 (tsF X s).2.1 := by rw [← p2_add (by omega) (by omega)]; congr 1; omega
    have hp := p2_pos (tsF X s).2.1
    have m1 := Int.mul_le_mul_of_nonneg_right w5 (show 0 ≤ p2 (tsF X s).2.1 by omega)
    have m2 := Int.mul_le_mul_of_nonneg_right (show XN X.2.2 sy s ≤ 2 * p2 (X.1 - (tsF X s).2.1) - 1 by omega) (show 0 ≤ p2 (tsF X s).2.1 by omega)
    have m3 : (2 * p2 (X.1 - (tsF X s).2.1) - 1) * p2 (tsF X s).2.1 = 2 * (p2 (X.1 - (tsF X s).2.1) * p2 (tsF X s).2.1) - p2 (tsF X s).2.1 := by rw [Int.sub_mul, Int.mul_assoc, Int.one_mul]
    rw [← e1] at m1 m3
    exact ⟨by rw [w2]; exact r.1, w3, w4, by omega, by omega⟩
  · have w : tsF X s = (0, 0, 0) := CH_n q
    rw [w]
    exact ⟨Int.le_refl _, Int.le_refl _, hL, Int.le_refl _, by show 0 + p2 0 ≤ p2 X.1; rw [show p2 0 = 1 by decide]; have := p2_pos X.1; omega⟩
theorem mB_r (s : Int) : 0 ≤ mB s := by
  unfold mB
  repeat' split
  all_goals omega
theorem lB_r (s : Int) : 0 ≤ lB s := by
  unfold lB
  repeat' split
  all_goals omega
def S3X (X : Int → Tb) (s0 s1 s2 : Int) : Prop := (0 ≤ s0 ∧ s0 < p2 (X 0).1) ∧ (0 ≤ s1 ∧ s1 < p2 (X 1).1) ∧ 0 ≤ s2 ∧ s2 < p2 (X 2).1
theorem nxSa {X : Tb} {s l : Int} {I : Int → Int} (hX : TXO X) (hL : 0 ≤ X.1) (h0 : 0 ≤ s) (h1 : s < p2 X.1) : 0 ≤ (tsF X s).2.2 + bvA I st l (tsF X s).2.1 ∧ (tsF X s).2.2 + bvA I st l (tsF X s).2.1 < p2 X.1 := by
  have r := tsF_r hX hL h0 h1
  have w := bv_rng (I := I) (b := st + l - (tsF X s).2.1) (n := (tsF X s).2.1.toNat)
  rw [show (((tsF X s).2.1.toNat : Nat) : Int) = (tsF X s).2.1 by omega] at w
  unfold bvA
  omega
theorem SQc_r {L : List Int} {ds wd mo mx wb li mt d left t0 t1 t2 used : Int} {W : List Int} {q0 q1 q2 : Int} : (SQc L ds wd mo mx wb li mt d left t0 t1 t2 used W q0 q1 q2).1 ≠ 0 ∨ (SQc L ds wd mo mx wb li mt d left t0 t1 t2 used W q0 q1 q2).2.1 = left ∧ (SQc L ds wd mo mx wb li mt d left t0 t1 t2 used W q0 q1 q2).2.2.1 = t0 ∧ (SQc L ds wd mo mx wb li mt d left t0 t1 t2 used W q0 q1 q2).2.2.2.1 = t1 ∧ (SQc L ds wd mo mx wb li mt d left t0 t1 t2 used W q0 q1 q2).2.2.2.2.1 = t2 := by
  unfold SQc
  split
  · exact .inl (show ¬ (19 : Int) = 0 by decide)
  · split
    · exact .inl (show ¬ (18 : Int) = 0 by decide)
    · split
      · exact .inl (show ¬ (20 : Int) = 0 by decide)
      · split
        · exact .inl (show ¬ (7 : Int) = 0 by decide)
        · exact .inr ⟨rfl, rfl, rfl, rfl⟩
theorem SQ1_ag {X : Int → Tb} {L : List Int} {ds wd mo mx wb last s0 s1 s2 used : Int} {W : List Int} {r0 r1 r2 : Int} (h : AGB I J n) (hX : TX3 X) (hp : ∀ j, 0 ≤ j → j < 3 → 0 ≤ (X j).1) (hS : S3X X s0 s1 s2) (hs : 0 ≤ st) (hl : st + left ≤ 8 * n) : SQ1 I st X L ds wd mo mx wb last left s0 s1 s2 used W r0 r1 r2 = SQ1 J st X L ds wd mo mx wb last left s0 s1 s2 used W r0 r1 r2 ∧ ((SQ1 I st X L ds wd mo mx wb last left s0 s1 s2 used W r0 r1 r2).1 ≠ 0 ∨ st + (SQ1 I st X L ds wd mo mx wb last left s0 s1 s2 used W r0 r1 r2).2.1 ≤ 8 * n ∧ S3X X (SQ1 I st X L ds wd mo mx wb last left s0 s1 s2 used W r0 r1 r2).2.2.1 (SQ1 I st X L ds wd mo mx wb last left s0 s1 s2 used W r0 r1 r2).2.2.2.1 (SQ1 I st X L ds wd mo mx wb last left s0 s1 s2 used W r0 r1 r2).2.2.2.2.1) := by
  have p0 := hp 0 (by decide) (by decide)
  have p1 := hp 1 (by decide) (by decide)
  have p2_ := hp 2 (by decide) (by decide)
  have q0 := tsF_r hX.1 p0 hS.1.1 hS.1.2
  have q1 := tsF_r hX.2.1 p1 hS.2.1.1 hS.2.1.2
  have q2 := tsF_r hX.2.2 p2_ hS.2.2.1 hS.2.2.2
  have m2 := mB_r (tsF (X 2) s2).1
  have m0 := lB_r (tsF (X 0) s0).1
  by_cases c : left < (tsF (X 1) s1).1 + mB (tsF (X 2) s2).1 + lB (tsF (X 0) s0).1 + nxF X last s0 s1 s2
  · have w : ∀ K : Int → Int, SQ1 K st X L ds wd mo mx wb last left s0 s1 s2 used W r0 r1 r2 = (17, nilS) := fun K => if_pos c
    rw [w I, w J]
    exact ⟨rfl, .inl (show ¬ (17 : Int) = 0 by decide)⟩
  · have hn : nxF X last s0 s1 s2 = (if last = 1 then 0 else (tsF (X 0) s0).2.1 + (tsF (X 1) s1).2.1 + (tsF (X 2) s2).2.1) := rfl
    have b1 := bvA_ag (left := left) (m := (tsF (X 1) s1).1) h.1 hs hl (by split at hn <;> omega)
    have b2 := bvA_ag (left := left - (tsF (X 1) s1).1) (m := mB (tsF (X 2) s2).1) h.1 hs (by omega) (by split at hn <;> omega)
    have b3 := bvA_ag (left := left - (tsF (X 1) s1).1 - mB (tsF (X 2) s2).1) (m := lB (tsF (X 0) s0).1) h.1 hs (by omega) (by split at hn <;> omega)
    by_cases z : last = 1
    · constructor
      · unfold SQ1
        rw [if_neg c, if_neg c, b1, b2, b3]
        simp only [if_pos z]
      · rcases SQc_r (L := L) (ds := ds) (wd := wd) (mo := mo) (mx := mx) (wb := wb) (li := lBs (tsF (X 0) s0).1 + bvA I st (left - (tsF (X 1) s1).1 - mB (tsF (X 2) s2).1) (lB (tsF (X 0) s0).1)) (mt := mBs (tsF (X 2) s2).1 + bvA I st (left - (tsF (X 1) s1).1) (mB (tsF (X 2) s2).1)) (d := (dsF (p2 (tsF (X 1) s1).1 + bvA I st left (tsF (X 1) s1).1) (lBs (tsF (X 0) s0).1 + bvA I st (left - (tsF (X 1) s1).1 - mB (tsF (X 2) s2).1) (lB (tsF (X 0) s0).1)) r0 r1 r2).1) (left := left - (tsF (X 1) s1).1 - mB (tsF (X 2) s2).1 - lB (tsF (X 0) s0).1 - nxF X last s0 s1 s2) (t0 := s0) (t1 := s1) (t2 := s2) (used := used) (W := W) (q0 := (dsF (p2 (tsF (X 1) s1).1 + bvA I st left (tsF (X 1) s1).1) (lBs (tsF (X 0) s0).1 + bvA I st (left - (tsF (X 1) s1).1 - mB (tsF (X 2) s2).1) (lB (tsF (X 0) s0).1)) r0 r1 r2).2.1) (q1 := (dsF (p2 (tsF (X 1) s1).1 + bvA I st left (tsF (X 1) s1).1) (lBs (tsF (X 0) s0).1 + bvA I st (left - (tsF (X 1) s1).1 - mB (tsF (X 2) s2).1) (lB (tsF (X 0) s0).1)) r0 r1 r2).2.2.1) (q2 := (dsF (p2 (tsF (X 1) s1).1 + bvA I st left (tsF (X 1) s1).1) (lBs (tsF (X 0) s0).1 + bvA I st (left - (tsF (X 1) s1).1 - mB (tsF (X 2) s2).1) (lB (tsF (X 0) s0).1)) r0 r1 r2).2.2.2) with w | w
        · refine .inl ?_
          unfold SQ1
          rw [if_neg c]
          simp only [if_pos z]
          exact w
        · refine .inr ?_
          unfold SQ1
          rw [if_neg c]
          simp only [if_pos z]
          rw [w.1, w.2.1, w.2.2.1, w.2.2.2]
          exact ⟨by rw [if_pos z] at hn; omega, hS⟩
    · have b4 := bvA_ag (left := left - (tsF (X 1) s1).1 - mB (tsF (X 2) s2).1 - lB (tsF (X 0) s0).1) (m := (tsF (X 0) s0).2.1) h.1 hs (by omega) (by rw [if_neg z] at hn; omega)
      have b5 := bvA_ag (left := left - (tsF (X 1) s1).1 - mB (tsF (X 2) s2).1 - lB (tsF (X 0) s0).1 - (tsF (X 0) s0).2.1 - (tsF (X 2) s2).2.1) (m := (tsF (X 1) s1).2.1) h.1 hs (by omega) (by rw [if_neg z] at hn; omega)
      have b6 := bvA_ag (left := left - (tsF (X 1) s1).1 - mB (tsF (X 2) s2).1 - lB (tsF (X 0) s0).1 - (tsF (X 0) s0).2.1) (m := (tsF (X 2) s2).2.1) h.1 hs (by omega) (by rw [if_neg z] at hn; omega)
      constructor
      · unfold SQ1
        rw [if_neg c, if_neg c, b1, b2, b3]
        simp only [if_neg z]
        rw [b4, b5, b6]
      · have n0 := nxSa (st := st) (l := left - (tsF (X 1) s1).1 - mB (tsF (X 2) s2).1 - lB (tsF (X 0) s0).1) (I := I) hX.1 p0 hS.1.1 hS.1.2
        have n1 := nxSa (st := st) (l := left - (tsF (X 1) s1).1 - mB (tsF (X 2) s2).1 - lB (tsF (X 0) s0).1 - (tsF (X 0) s0).2.1 - (tsF (X 2) s2).2.1) (I := I) hX.2.1 p1 hS.2.1.1 hS.2.1.2
        have n2 := nxSa (st := st) (l := left - (tsF (X 1) s1).1 - mB (tsF (X 2) s2).1 - lB (tsF (X 0) s0).1 - (tsF (X 0) s0).2.1) (I := I) hX.2.2 p2_ hS.2.2.1 hS.2.2.2
        unfold SQ1
        rw [if_neg c]
        simp only [if_neg z]
        refine (SQc_r).imp (fun w => w) (fun w => ?_)
        rw [w.1, w.2.1, w.2.2.1, w.2.2.2]
        exact ⟨by rw [if_neg z] at hn; omega, n0, n1, n2⟩
theorem sqs_ag {X : Int → Tb} {L : List Int} {ds wd mo mx wb : Int} (h : AGB I J n) (hX : TX3 X) (hp : ∀ j, 0 ≤ j → j < 3 → 0 ≤ (X j).1) (hs : 0 ≤ st) : ∀ (k : Nat) (dn : Int) (S : SqS), st + S.1 ≤ 8 * n → S3X X S.2.1 S.2.2.1 S.2.2.2.1 → sqs I st X L ds wd mo mx wb k dn S = sqs J st X L ds wd mo mx wb k dn S
  | 0, _, _, _, _ => rfl
  | k + 1, dn, S, hl, hS => by
    obtain ⟨e1, e2⟩ := SQ1_ag (L := L) (ds := ds) (wd := wd) (mo := mo) (mx := mx) (wb := wb) (last := if k = 0 then 1 else 0) (left := S.1) (used := S.2.2.2.2.1) (W := S.2.2.2.2.2.1) (r0 := S.2.2.2.2.2.2.1) (r1 := S.2.2.2.2.2.2.2.1) (r2 := S.2.2.2.2.2.2.2.2) h hX hp hS hs hl
    have u : ∀ K : Int → Int, sqs K st X L ds wd mo mx wb (k + 1) dn S = (if (SQ1 K st X L ds wd mo mx wb (if k = 0 then 1 else 0) S.1 S.2.1 S.2.2.1 S.2.2.2.1 S.2.2.2.2.1 S.2.2.2.2.2.1 S.2.2.2.2.2.2.1 S.2.2.2.2.2.2.2.1 S.2.2.2.2.2.2.2.2).1 ≠ 0 then ((SQ1 K st X L ds wd mo mx wb (if k = 0 then 1 else 0) S.1 S.2.1 S.2.2.1 S.2.2.2.1 S.2.2.2.2.1 S.2.2.2.2.2.1 S.2.2.2.2.2.2.1 S.2.2.2.2.2.2.2.1 S.2.2.2.2.2.2.2.2).1, dn, S) else sqs K st X L ds wd mo mx wb k (dn + 1) (SQ1 K st X L ds wd mo mx wb (if k = 0 then 1 else 0) S.1 S.2.1 S.2.2.1 S.2.2.2.1 S.2.2.2.2.1 S.2.2.2.2.2.1 S.2.2.2.2.2.2.1 S.2.2.2.2.2.2.2.1 S.2.2.2.2.2.2.2.2).2) := fun _ => rfl
    rw [u I, u J, ← e1]
    by_cases c : (SQ1 I st X L ds wd mo mx wb (if k = 0 then 1 else 0) S.1 S.2.1 S.2.2.1 S.2.2.2.1 S.2.2.2.2.1 S.2.2.2.2.2.1 S.2.2.2.2.2.2.1 S.2.2.2.2.2.2.2.1 S.2.2.2.2.2.2.2.2).1 ≠ 0
    · rw [if_pos c, if_pos c]
    · rw [if_neg c, if_neg c]
      rcases e2 with e2 | ⟨e2, e3⟩
      · exact absurd e2 c
      · exact sqs_ag h hX hp hs k _ _ e2 e3
theorem SQF_ag {here : Int} {X : Int → Tb} {L : List Int} {ds wd mo mx m : Int} {W : List Int} {r0 r1 r2 : Int} (h : AGB I J n) (hX : TX3 X) (hp : ∀ j, 0 ≤ j → j < 3 → 0 ≤ (X j).1) (hh : 0 ≤ here) (he : e ≤ n) : SQF I here e X L ds wd mo mx m W r0 r1 r2 = SQF J here e X L ds wd mo mx m W r0 r1 r2 := by
  have p0 := hp 0 (by decide) (by decide)
  have p1 := hp 1 (by decide) (by decide)
  have p2_ := hp 2 (by decide) (by decide)
  unfold SQF SQs
  rw [← OPF_ag h hh he]
  by_cases c : OPF I here e < (X 0).1 + (X 1).1 + (X 2).1
  · rw [if_pos c, if_pos c]
  · rw [if_neg c, if_neg c]
    have w := OPF_b (a := here) (e := e) h.1.2
    have b0 := bvA_ag (st := 8 * here) (left := OPF I here e) (m := (X 0).1) h.1 (by omega) (by omega) (by omega)
    have b1 := bvA_ag (st := 8 * here) (left := OPF I here e - (X 0).1) (m := (X 1).1) h.1 (by omega) (by omega) (by omega)
    have b2 := bvA_ag (st := 8 * here) (left := OPF I here e - (X 0).1 - (X 1).1) (m := (X 2).1) h.1 (by omega) (by omega) (by omega)
    have g : ∀ (l m : Int), 0 ≤ m → 0 ≤ bvA I (8 * here) l m ∧ bvA I (8 * here) l m < p2 m := fun l m q => by
      have v := bv_rng (I := I) (b := 8 * here + l - m) (n := m.toNat)
      rw [show ((m.toNat : Nat) : Int) = m by omega] at v
      exact v
    rw [← b0, ← b1, ← b2, sqs_ag h hX hp (st := 8 * here) (by omega) _ _ _ (by show 8 * here + (OPF I here e - (X 0).1 - (X 1).1 - (X 2).1) ≤ 8 * n; omega) ⟨g _ _ p0, g _ _ p1, g _ _ p2_⟩]
theorem SEQF_ag {X : Int → Tb} {L : List Int} {ds wd mo mx m : Int} {W : List Int} {C : Int × (Int → Int)} {r0 r1 r2 : Int} (h : AGB I J n) (hX : TX3 X) (ha : 0 ≤ at_) (he : e ≤ n) : SEQF I at_ e L ds wd mo mx m W C X r0 r1 r2 = SEQF J at_ e L ds wd mo mx m W C X r0 r1 r2 := by
  unfold SEQF
  rw [← T3F_ag h ha he hX]
  by_cases c : (T3F I at_ e X).1 ≠ 0
  · rw [if_pos c, if_pos c]
  · rw [if_neg c, if_neg c]
    rcases T3F_r (I := I) (e := e) ha hX with w | ⟨w1, w2, w3⟩
    · exact absurd w.1 c
    · rw [SQF_ag h w2 w3 w1 he]
theorem SEQF_t {X : Int → Tb} {L : List Int} {ds wd mo mx m : Int} {W : List Int} {C : Int × (Int → Int)} {r0 r1 r2 : Int} (hX : TX3 X) (ha : 0 ≤ at_) : (SEQF I at_ e L ds wd mo mx m W C X r0 r1 r2).2.2.2.2.1 = C ∧ TX3 (SEQF I at_ e L ds wd mo mx m W C X r0 r1 r2).2.2.2.2.2.1 := by
  unfold SEQF
  split
  · exact ⟨rfl, hX⟩
  · refine ⟨rfl, ?_⟩
    rcases T3F_r (I := I) (e := e) ha hX with w | w
    · exact w.2
    · exact w.2.1
theorem nsz_r (x : Int) : 1 ≤ nsz x ∧ nsz x ≤ 3 ∧ (x < 128 → nsz x = 1) ∧ (128 ≤ x → x < 255 → nsz x = 2) ∧ (255 ≤ x → nsz x = 3) := by
  rw [nsz_e]
  unfold nsz0
  split
  · omega
  · split <;> omega
theorem nsv_ag {p : Int} (h : AGI I J n) (hp : 0 ≤ p) (he : p + nsz (I p) ≤ n) : nsv I p = nsv J p := by
  have r := nsz_r (I p)
  rw [nsv_e]
  unfold nsv0
  rw [← h.1 p hp (by omega)]
  by_cases c : I p < 128
  · rw [if_pos c, if_pos c]
  · rw [if_neg c, if_neg c]
    by_cases c2 : I p < 255
    · rw [if_pos c2, if_pos c2, h.1 (p + 1) (by omega) (by omega)]
    · rw [if_neg c2, if_neg c2, nvl_ag (m := 2) h (by omega) (by omega)]
theorem PBG_ag {ds wd mo mx : Int} {W : List Int} {X : Int → Tb} {r0 r1 r2 p : Int} {L : List Int} {C : Int × (Int → Int)} (h : AGB I J n) (hX : TX3 X) (hp : 0 ≤ p) (he : e ≤ n) : PBG I at_ e ds wd mo mx W X r0 r1 r2 p L C = PBG J at_ e ds wd mo mx W X r0 r1 r2 p L C := by
  unfold PBG
  by_cases c0 : p < e
  · rw [if_pos c0, if_pos c0, ← h.1.1 p hp (by omega)]
    by_cases c : e - p < nsz (I p)
    · rw [if_pos c, if_pos c]
    · rw [if_neg c, if_neg c, ← nsv_ag h.1 hp (by omega)]
      have r := nsz_r (I p)
      by_cases c2 : nsv I p = 0
      · rw [if_pos c2, if_pos c2]
      · rw [if_neg c2, if_neg c2]
        exact SEQF_ag h hX (by omega) he
  · rw [if_neg c0, if_neg c0]
    have r := nsz_r 0
    rw [if_pos (by omega), if_pos (by omega)]
theorem PBG_t {ds wd mo mx : Int} {W : List Int} {X : Int → Tb} {r0 r1 r2 p : Int} {L : List Int} {C : Int × (Int → Int)} (hX : TX3 X) (hp : 0 ≤ p) : (PBG I at_ e ds wd mo mx W X r0 r1 r2 p L C).2.2.2.2.1 = C ∧ TX3 (PBG I at_ e ds wd mo mx W X r0 r1 r2 p L C).2.2.2.2.2.1 := by
  unfold PBG
  have r := nsz_r (I p)
  exact ite_P (P := fun R : BkR => R.2.2.2.2.1 = C ∧ TX3 R.2.2.2.2.2.1) ⟨rfl, hX⟩ (ite_P (P := fun R : BkR => R.2.2.2.2.1 = C ∧ TX3 R.2.2.2.2.2.1) (ite_P (P := fun R : BkR => R.2.2.2.2.1 = C ∧ TX3 R.2.2.2.2.2.1) ⟨rfl, hX⟩ (ite_P (P := fun R : BkR => R.2.2.2.2.1 = C ∧ TX3 R.2.2.2.2.2.1) ⟨rfl, hX⟩ ⟨rfl, hX⟩)) (SEQF_t hX (by omega)))
def CGo (C : Int × (Int → Int)) : Prop := ∀ s, 0 ≤ s → s < 256 → 0 ≤ C.2 s
theorem PBF_ag {ds wd mo mx : Int} {W : List Int} {X : Int → Tb} {r0 r1 r2 : Int} {C : Int × (Int → Int)} (h : AGB I J n) (hX : TX3 X) (hC : CGo C) (ha : 0 ≤ at_) (he : e ≤ n) : PBF I at_ e ds wd mo mx W C X r0 r1 r2 = PBF J at_ e ds wd mo mx W C X r0 r1 r2 := by
  unfold PBF
  rw [← LTF_ag h hC ha he]
  show (if (LTF I at_ e mo C.1 C.2).1 ≠ 0 then _ else _) = (if (LTF I at_ e mo C.1 C.2).1 ≠ 0 then _ else _)
  by_cases c : (LTF I at_ e mo C.1 C.2).1 ≠ 0
  · rw [if_pos c, if_pos c]
  · rw [if_neg c, if_neg c]
    exact PBG_ag h hX (LTF_pp h.1.2 ha) he
theorem PBF_t {ds wd mo mx : Int} {W : List Int} {X : Int → Tb} {r0 r1 r2 : Int} {C : Int × (Int → Int)} (hI : ∀ k, 0 ≤ I k ∧ I k ≤ 255) (hX : TX3 X) (hC : CGo C) (ha : 0 ≤ at_) : CGo (PBF I at_ e ds wd mo mx W C X r0 r1 r2).2.2.2.2.1 ∧ TX3 (PBF I at_ e ds wd mo mx W C X r0 r1 r2).2.2.2.2.2.1 := by
  unfold PBF
  show CGo (if (LTF I at_ e mo C.1 C.2).1 ≠ 0 then _ else _ : BkR).2.2.2.2.1 ∧ TX3 (if (LTF I at_ e mo C.1 C.2).1 ≠ 0 then _ else _ : BkR).2.2.2.2.2.1
  by_cases c : (LTF I at_ e mo C.1 C.2).1 ≠ 0
  · rw [if_pos c]
    exact ⟨hC, hX⟩
  · rw [if_neg c]
    have w := PBG_t (I := I) (at_ := at_) (e := e) (ds := ds) (wd := wd) (mo := mo) (mx := mx) (W := W) (r0 := r0) (r1 := r1) (r2 := r2) (L := (LTF I at_ e mo C.1 C.2).2.2.2.1) (C := ((LTF I at_ e mo C.1 C.2).2.2.2.2.1, (LTF I at_ e mo C.1 C.2).2.2.2.2.2)) hX (LTF_pp (e := e) (mo := mo) (T := C.1) (G := C.2) hI ha)
    exact ⟨by rw [w.1]; exact fun s x y => LTF_gg hI x (hC s x y), w.2⟩
theorem bk_ag {p : Int} (h : AGI I J n) (hp : 0 ≤ p) (h3 : p + 3 ≤ n) : bkK I p = bkK J p ∧ bkN I p = bkN J p := by
  unfold bkK bkN
  rw [nvl_ag (m := 3) h hp (by omega)]
  exact ⟨rfl, rfl⟩
theorem bkN_r (I : Int → Int) (p : Int) : 0 ≤ bkN I p := by
  unfold bkN
  have := nvl_nn I 3 p
  omega
theorem BLF_ag {p ds wd mo mx : Int} {W : List Int} {X : Int → Tb} {r0 r1 r2 : Int} {C : Int × (Int → Int)} (h : AGB I J n) (hX : TX3 X) (hC : CGo C) (hp : 0 ≤ p) (h3 : p + 3 ≤ n) : BLF I p n ds wd mo mx W C X r0 r1 r2 = BLF J p n ds wd mo mx W C X r0 r1 r2 := by
  obtain ⟨e1, e2⟩ := bk_ag h.1 hp h3
  have r := bkN_r I p
  unfold BLF
  rw [← e1, ← e2]
  by_cases c : bkK I p = 3
  · rw [if_pos c, if_pos c]
  · rw [if_neg c, if_neg c]
    by_cases c2 : mo < bkN I p
    · rw [if_pos c2, if_pos c2]
    · rw [if_neg c2, if_neg c2]
      by_cases c3 : n - (p + 3) < (if bkK I p = 1 then 1 else bkN I p)
      · rw [if_pos c3, if_pos c3]
      · rw [if_neg c3, if_neg c3]
        by_cases c4 : bkK I p = 2
        · rw [if_pos c4, if_pos c4]
          rw [if_neg (by omega)] at c3
          exact PBF_ag h hX hC (by omega) (by omega)
        · rw [if_neg c4, if_neg c4]
          by_cases c5 : mx < bkN I p
          · rw [if_pos c5, if_pos c5]
          · rw [if_neg c5, if_neg c5]
            by_cases c6 : bkK I p = 1
            · rw [if_pos c6] at c3
              rw [if_pos c6, if_pos c6, h.1.1 (p + 3) (by omega) (by omega)]
            · rw [if_neg c6] at c3
              rw [if_neg c6, if_neg c6, sc_ag h.1 (a := p + 3) (by omega) (by omega)]
theorem BLF_t {p m ds wd mo mx : Int} {W : List Int} {X : Int → Tb} {r0 r1 r2 : Int} {C : Int × (Int → Int)} (hI : ∀ k, 0 ≤ I k ∧ I k ≤ 255) (hX : TX3 X) (hC : CGo C) (hp : 0 ≤ p) : CGo (BLF I p m ds wd mo mx W C X r0 r1 r2).2.2.2.2.1 ∧ TX3 (BLF I p m ds wd mo mx W C X r0 r1 r2).2.2.2.2.2.1 := by
  unfold BLF
  have z : ∀ (a b c : Int) (L : List Int), (fun R : BkR => CGo R.2.2.2.2.1 ∧ TX3 R.2.2.2.2.2.1) (a, b, c, L, C, X, r0, r1, r2) := fun _ _ _ _ => ⟨hC, hX⟩
  exact ite_P (P := fun R : BkR => CGo R.2.2.2.2.1 ∧ TX3 R.2.2.2.2.2.1) (z _ _ _ _) (ite_P (P := fun R : BkR => CGo R.2.2.2.2.1 ∧ TX3 R.2.2.2.2.2.1) (z _ _ _ _) (ite_P (P := fun R : BkR => CGo R.2.2.2.2.1 ∧ TX3 R.2.2.2.2.2.1) (z _ _ _ _) (ite_P (P := fun R : BkR => CGo R.2.2.2.2.1 ∧ TX3 R.2.2.2.2.2.1) (PBF_t hI hX hC (by omega)) (ite_P (P := fun R : BkR => CGo R.2.2.2.2.1 ∧ TX3 R.2.2.2.2.2.1) (z _ _ _ _) (z _ _ _ _)))))
def FBo (s : FbS) : Prop := 0 ≤ s.1 ∧ CGo s.2.2.2.2.1 ∧ TX3 s.2.2.2.2.2.1
theorem FBs_ag {ds wd mo mw : Int} (h : AGB I J n) (s : FbS) (hs : FBo s) : FBs I n ds wd mo mw s = FBs J n ds wd mo mw s ∧ ∀ t, FBs I n ds wd mo mw s = .inl t → FBo t := by
  obtain ⟨h0, hC, hX⟩ := hs
  unfold FBs
  by_cases c : n - s.1 < 3
  · rw [if_pos c, if_pos c]
    exact ⟨rfl, fun t q => by cases q⟩
  · rw [if_neg c, if_neg c, ← BLF_ag h hX hC h0 (by omega)]
    have e0 := h.1.1 s.1 h0 (by omega)
    have e1 : bkB I s.1 = bkB J s.1 := by unfold bkB; rw [(bk_ag h.1 h0 (by omega)).1, (bk_ag h.1 h0 (by omega)).2]
    rw [← e0, ← e1]
    refine ⟨rfl, fun t q => ?_⟩
    have w := BLF_t (I := I) (m := n) (ds := ds) (wd := wd) (mo := mo) (mx := mw - (s.2.1.length : Int)) (W := s.2.1) (r0 := s.2.2.2.2.2.2.1) (r1 := s.2.2.2.2.2.2.2.1) (r2 := s.2.2.2.2.2.2.2.2) h.1.2 hX hC h0
    by_cases c2 : (BLF I s.1 n ds wd mo (mw - (s.2.1.length : Int)) s.2.1 s.2.2.2.2.1 s.2.2.2.2.2.1 s.2.2.2.2.2.2.1 s.2.2.2.2.2.2.2.1 s.2.2.2.2.2.2.2.2).1 ≠ 0
    · simp only [if_pos c2] at q
      cases q
    · by_cases c3 : I s.1 % 2 = 1
      · simp only [if_neg c2, if_pos c3] at q
        cases q
      · simp only [if_neg c2, if_neg c3] at q
        have q := Sum.inl.inj q
        subst q
        refine ⟨?_, w⟩
        show 0 ≤ s.1 + 3 + bkB I s.1
        have r := bkN_r I s.1
        unfold bkB
        split <;> omega
theorem FBF_ag {ds wd mo mw : Int} (h : AGB I J n) (s : FbS) (hs : FBo s) : FBF I n ds wd mo mw s = FBF J n ds wd mo mw s := LPF_ag FBo (fun s hs => FBs_ag h s hs) hs
theorem LPF_q {S R : Type} {d : R} {f : S → S ⊕ R} (P : S → Prop) (Q : R → Prop) (hd : Q d) (h1 : ∀ s t, P s → f s = .inl t → P t) (h2 : ∀ s r, P s → f s = .inr r → Q r) {s : S} (hs : P s) : Q (LPF d f s) := by
  by_cases q : ∃ r, ∃ n, LPs f n s r
  · obtain ⟨m, k⟩ := CH_p (d := d) q
    have w : ∀ (m : Nat) (s : S) (r : R), P s → LPs f m s r → Q r := by
      intro m
      induction m with
      | zero => exact fun s r hs k => h2 s r hs k
      | succ m ih => exact fun s r hs ⟨t, a, b⟩ => ih t r (h1 s t hs a) b
    exact w m s _ hs k
  · have w : LPF d f s = d := CH_n q
    rw [w]
    exact hd
theorem FBF_p {ds wd mo mw : Int} (s : FbS) (hs : 0 ≤ s.1) : 0 ≤ (FBF I n ds wd mo mw s).2.2.1 := by
  refine LPF_q (fun s : FbS => 0 ≤ s.1) (fun R : FbR => 0 ≤ R.2.2.1) (Int.le_refl _) (fun s t hs q => ?_) (fun s r hs q => ?_) hs
  all_goals
    have hb : 0 ≤ bkB I s.1 := by
      have r := bkN_r I s.1
      unfold bkB
      split <;> omega
    unfold FBs at q
    by_cases c : n - s.1 < 3
    · rw [if_pos c] at q
      first | (cases q; done) | (have q := Sum.inr.inj q; subst q; exact hs)
    · rw [if_neg c] at q
      by_cases c2 : (BLF I s.1 n ds wd mo (mw - (s.2.1.length : Int)) s.2.1 s.2.2.2.2.1 s.2.2.2.2.2.1 s.2.2.2.2.2.2.1 s.2.2.2.2.2.2.2.1 s.2.2.2.2.2.2.2.2).1 ≠ 0
      · simp only [if_pos c2] at q
        first | (cases q; done) | (have q := Sum.inr.inj q; subst q; exact hs)
      · by_cases c3 : I s.1 % 2 = 1
        · simp only [if_neg c2, if_pos c3] at q
          first | (cases q; done) | (have q := Sum.inr.inj q; subst q; show 0 ≤ s.1 + 3 + bkB I s.1; omega)
        · simp only [if_neg c2, if_neg c3] at q
          first | (cases q; done) | (have q := Sum.inl.inj q; subst q; show 0 ≤ s.1 + 3 + bkB I s.1; omega)
theorem idB_r (h : Int) : 0 ≤ idB h ∧ idB h ≤ 4 := by
  unfold idB
  split <;> omega
theorem szB_r (h : Int) : 0 ≤ szB h := by
  unfold szB
  split
  · split <;> omega
  · have := p2_pos (h / 64)
    omega
theorem HD2_ag {did hs td w hh : Int} (h : AGI I J n) (ha : 0 ≤ a) : HD2 I n did hs td w hh a = HD2 J n did hs td w hh a := by
  have r := idB_r hh
  have r2 := szB_r hh
  unfold HD2
  by_cases c : n - a < idB hh
  · rw [if_pos c, if_pos c]
  · rw [if_neg c, if_neg c, ← nvl_ag (a := a) (m := (idB hh).toNat) h ha (by omega)]
    by_cases c2 : nvl I a (idB hh).toNat ≠ 0 ∧ nvl I a (idB hh).toNat ≠ did
    · rw [if_pos c2, if_pos c2]
    · rw [if_neg c2, if_neg c2]
      by_cases c3 : n - (a + idB hh) < szB hh
      · rw [if_pos c3, if_pos c3]
      · rw [if_neg c3, if_neg c3, nvl_ag (a := a + idB hh) (m := (szB hh).toNat) h (by omega) (by omega)]
theorem HDF_ag {did hs td : Int} (h : AGI I J n) (ha : 0 ≤ a) : HDF I n did hs td a = HDF J n did hs td a := by
  unfold HDF
  by_cases c : n ≤ a
  · rw [if_pos c, if_pos c]
  · rw [if_neg c, if_neg c, ← h.1 a ha (by omega)]
    by_cases c2 : I a / 8 % 2 = 1
    · rw [if_pos c2, if_pos c2]
    · rw [if_neg c2, if_neg c2]
      by_cases c3 : I a / 32 % 2 = 1
      · rw [if_pos c3, if_pos c3]
        exact HD2_ag h (by omega)
      · rw [if_neg c3, if_neg c3]
        by_cases c4 : n ≤ a + 1
        · rw [if_pos c4, if_pos c4]
        · have e1 : wnW I (a + 1) = wnW J (a + 1) := by unfold wnW; rw [h.1 (a + 1) (by omega) (by omega)]
          rw [if_neg c4, if_neg c4, ← e1]
          exact HD2_ag h (by omega)
theorem HD2_p {did hs td w hh : Int} (ha : 0 ≤ a) : 0 ≤ (HD2 I n did hs td w hh a).2.2.2.2.2.2.2.2 := by
  have r := idB_r hh
  have r2 := szB_r hh
  unfold HD2
  split
  · exact Int.le_refl _
  · split
    · exact Int.le_refl _
    · split
      · exact Int.le_refl _
      · show 0 ≤ a + idB hh + szB hh
        omega
theorem HDF_p {did hs td : Int} (ha : 0 ≤ a) : 0 ≤ (HDF I n did hs td a).2.2.2.2.2.2.2.2 ∧ (n ≤ a → (HDF I n did hs td a).1 ≠ 0) := by
  unfold HDF
  split
  · exact ⟨Int.le_refl _, fun _ => show ¬ (1 : Int) = 0 by decide⟩
  · rename_i c
    refine ⟨?_, fun q => absurd q c⟩
    split
    · exact Int.le_refl _
    · split
      · exact HD2_p (by omega)
      · split
        · exact Int.le_refl _
        · exact HD2_p (by omega)
theorem FEF_ag {h_ sa sb due at_ hs bl dn td : Int} {B F : List Int} (h : AGI I J n) (ha : 0 ≤ at_) : FEF I n h_ sa sb due B F at_ hs bl dn td = FEF J n h_ sa sb due B F at_ hs bl dn td := by
  unfold FEF
  by_cases c : h_ / 4 % 2 = 1 ∧ n - at_ < 4
  · rw [if_pos c, if_pos c]
  · rw [if_neg c, if_neg c]
    by_cases c2 : h_ / 4 % 2 = 1
    · rw [nvl_ag (a := at_) (m := 4) h ha (by omega)]
    · rw [if_neg (show ¬ (h_ / 4 % 2 = 1 ∧ nvl I at_ 4 ≠ WDL F % 4294967296) from fun q => c2 q.1), if_neg (show ¬ (h_ / 4 % 2 = 1 ∧ nvl J at_ 4 ≠ WDL F % 4294967296) from fun q => c2 q.1)]
theorem FEF_p {h_ sa sb due at_ hs bl dn td : Int} {B F : List Int} (ha : 0 ≤ at_) (t : RdS) (q : FEF I n h_ sa sb due B F at_ hs bl dn td = .inl t) : 0 ≤ t.1 := by
  unfold FEF at q
  split at q
  · cases q
  · split at q
    · cases q
    · split at q
      · cases q
      · have q := Sum.inl.inj q
        subst q
        show 0 ≤ (if h_ / 4 % 2 = 1 then at_ + 4 else at_)
        split <;> omega
def DCo (Dc : DcS) : Prop := CGo Dc.2.2.1 ∧ TX3 Dc.2.2.2.1
theorem FRF_ag {most hs bl dn td : Int} {Dc : DcS} {B : List Int} (h : AGB I J n) (hD : DCo Dc) (ha : 0 ≤ a) : FRF I n most Dc a B hs bl dn td = FRF J n most Dc a B hs bl dn td ∧ ∀ t, FRF I n most Dc a B hs bl dn td = .inl t → 0 ≤ t.1 := by
  have hp := HDF_p (I := I) (n := n) (did := Dc.2.1) (hs := hs) (td := td) ha
  unfold FRF
  rw [← HDF_ag h.1 ha]
  by_cases c : (HDF I n Dc.2.1 hs td a).1 ≠ 0
  · simp only [if_pos c]
    first | exact ⟨rfl, fun t q => by cases q⟩ | exact ⟨trivial, fun t q => by cases q⟩
  · simp only [if_neg c]
    have hn : a < n := Int.not_le.mp (fun q => c (hp.2 q))
    rw [← h.1.1 a ha hn, ← FBF_ag h _ ⟨hp.1, hD.1, hD.2⟩]
    have hb := FBF_p (I := I) (n := n) (ds := (Dc.1.length : Int)) (wd := (HDF I n Dc.2.1 hs td a).2.2.2.2.1) (mo := moF (HDF I n Dc.2.1 hs td a).2.2.2.2.1) (mw := most - (B.length : Int) + (Dc.1.length : Int)) ((HDF I n Dc.2.1 hs td a).2.2.2.2.2.2.2.2, Dc.1, bl, dn, Dc.2.2.1, Dc.2.2.2.1, Dc.2.2.2.2.1, Dc.2.2.2.2.2.1, Dc.2.2.2.2.2.2) hp.1
    unfold FCF
    split
    · exact ⟨rfl, fun t q => by cases q⟩
    · exact ⟨FEF_ag h.1 hb, fun t q => FEF_p hb t q⟩
theorem UNs_ag {most : Int} {Dc : DcS} (h : AGB I J n) (hD : DCo Dc) (s : RdS) (hs : 0 ≤ s.1) : UNs I n most Dc s = UNs J n most Dc s ∧ ∀ t, UNs I n most Dc s = .inl t → 0 ≤ t.1 := by
  unfold UNs
  by_cases c : n ≤ s.1
  · rw [if_pos c, if_pos c]
    exact ⟨rfl, fun t q => by cases q⟩
  · rw [if_neg c, if_neg c]
    by_cases c2 : n - s.1 < 4
    · rw [if_pos c2, if_pos c2]
      exact ⟨rfl, fun t q => by cases q⟩
    · rw [if_neg c2, if_neg c2, ← nvl_ag (a := s.1) (m := 4) h.1 hs (by omega)]
      by_cases c3 : nvl I s.1 4 = 4247762216
      · rw [if_pos c3, if_pos c3]
        exact FRF_ag h hD (by omega)
      · rw [if_neg c3, if_neg c3]
        by_cases c4 : 407710288 ≤ nvl I s.1 4 ∧ nvl I s.1 4 ≤ 407710303
        · rw [if_pos c4, if_pos c4]
          by_cases c5 : n - s.1 < 8
          · rw [if_pos (.inl c5), if_pos (.inl c5)]
            exact ⟨rfl, fun t q => by cases q⟩
          · rw [← nvl_ag (a := s.1 + 4) (m := 4) h.1 (by omega) (by omega)]
            have r := nvl_nn I 4 (s.1 + 4)
            refine ⟨rfl, fun t q => ?_⟩
            split at q
            · cases q
            · have q := Sum.inl.inj q
              subst q
              show 0 ≤ s.1 + 8 + nvl I (s.1 + 4) 4
              omega
        · rw [if_neg c4, if_neg c4]
          exact ⟨rfl, fun t q => by cases q⟩
theorem RDS_ag {most : Int} {Dc : DcS} (h : AGB I J n) (hD : DCo Dc) : RDS I n most Dc = RDS J n most Dc := LPF_ag (fun s : RdS => 0 ≤ s.1) (fun s hs => UNs_ag h hD s hs) (Int.le_refl (0 : Int))

theorem lnP_ag (h : AGB I J n) : ∀ k : Nat, lnP I n k = lnP J n k ∧ 0 ≤ lnP I n k
  | 0 => ⟨by show (DSF I 8 n).2.1 = (DSF J 8 n).2.1; rw [DSF_ag h (by decide) (Int.le_refl _)], DSF_p h.1.2 (by decide)⟩
  | k + 1 => by
    obtain ⟨e1, e2⟩ := lnP_ag h k
    constructor
    · show (SHF I (lnP I n k) n _ _).2.2.1 = (SHF J (lnP J n k) n _ _).2.2.1
      rw [← e1, SHF_ag h e2 (Int.le_refl _)]
    · exact (SHF_p e2).1
theorem lnS_ag (h : AGB I J n) (k : Nat) : lnS I n k = lnS J n k := by
  obtain ⟨e1, e2⟩ := lnP_ag h k
  unfold lnS
  rw [← e1, SHF_ag h e2 (Int.le_refl _)]
theorem lnX_ag (h : AGB I J n) : lnX I n = lnX J n := by
  funext t
  unfold lnX
  rw [lnS_ag h]
theorem LNF_ag (h : AGB I J n) (hn : 0 ≤ n) : LNF I n = LNF J n := by
  unfold LNF
  by_cases c : n < 4
  · rw [if_pos (.inl c), if_pos (.inl c)]
    unfold DCN
    rw [sc_ag h.1 (Int.le_refl _) (Int.le_refl _)]
  · have e0 := nvl_ag (a := 0) (m := 4) h.1 (by decide) (by omega)
    have ed : DCN I n = DCN J n := by unfold DCN; rw [sc_ag h.1 (Int.le_refl _) (Int.le_refl _)]
    rw [← e0, ed]
    by_cases c2 : n < 4 ∨ nvl I 0 4 ≠ 3962610743
    · rw [if_pos c2, if_pos c2]
    · rw [if_neg c2, if_neg c2]
      by_cases c3 : n < 8
      · rw [if_pos c3, if_pos c3]
      · rw [if_neg c3, if_neg c3, ← DSF_ag h (a := 8) (by decide) (Int.le_refl _), ← lnS_ag h, ← lnS_ag h, ← lnS_ag h]
        by_cases c4 : (DSF I 8 n).1 = 0
        · rw [if_pos c4, if_pos c4]
        · rw [if_neg c4, if_neg c4]
          by_cases c5 : (lnS I n 0).1 = 0 ∨ (lnS I n 1).1 = 0 ∨ (lnS I n 2).1 = 0
          · rw [if_pos c5, if_pos c5]
          · rw [if_neg c5, if_neg c5]
            obtain ⟨p1, p2_⟩ := lnP_ag h 3
            rw [← p1]
            unfold LN4
            by_cases c6 : n < lnP I n 3 + 12
            · rw [if_pos c6, if_pos c6]
            · rw [if_neg c6, if_neg c6, ← nvl_ag (a := lnP I n 3) (m := 4) h.1 p2_ (by omega), ← nvl_ag (a := lnP I n 3 + 4) (m := 4) h.1 (by omega) (by omega), ← nvl_ag (a := lnP I n 3 + 8) (m := 4) h.1 (by omega) (by omega), ← nvl_ag (a := 4) (m := 4) h.1 (by decide) (by omega), ← DSF_ag h (a := 8) (by decide) (Int.le_refl _), ← lnX_ag h, ← sc_ag h.1 (a := lnP I n 3 + 12) (by omega) (Int.le_refl _)]
theorem LNF_o (hI : ∀ k, 0 ≤ I k ∧ I k ≤ 255) : DCo (LNF I n).2 := by
  have z : DCo DC0 := ⟨fun _ _ _ => Int.le_refl _, ⟨.inr (.inl rfl), Int.le_refl _⟩, ⟨.inr (.inl rfl), Int.le_refl _⟩, ⟨.inr (.inl rfl), Int.le_refl _⟩⟩
  have d : DCo (DCN I n) := ⟨fun _ _ _ => Int.le_refl _, ⟨.inl (by show (-1 : Int) < 0; decide), Int.le_refl _⟩, ⟨.inl (by show (-1 : Int) < 0; decide), Int.le_refl _⟩, ⟨.inl (by show (-1 : Int) < 0; decide), Int.le_refl _⟩⟩
  have hp : ∀ k : Nat, 0 ≤ lnP I n k := fun k => by
    induction k with
    | zero => exact DSF_p hI (by decide)
    | succ k ih => exact (SHF_p ih).1
  have hl : ∀ t : Int, 0 ≤ lastOf t := fun t => by unfold lastOf; split; (omega); split <;> omega
  unfold LNF
  split
  · exact d
  · split
    · exact z
    · split
      · exact z
      · split
        · exact z
        · rename_i c5
          unfold LN4
          split
          · exact z
          · split
            · exact z
            · refine ⟨fun s x y => DSF_g hI x, ?_⟩
              have g : ∀ t : Int, (lnS I n (lnK t)).1 ≠ 0 → TXO (lnX I n t) := fun t q => by
                have w := SHF_p (I := I) (a := lnP I n (lnK t)) (e := n) (gr := lnG (lnT ((lnK t : Nat) : Int))) (la := lastOf (lnT ((lnK t : Nat) : Int))) (hp _)
                rcases w.2.2 with w2 | w2
                · exact absurd w2 q
                · refine ⟨.inr (.inr ⟨w2.1, ?_⟩), by show 0 ≤ lastOf t + 1; have := hl t; omega⟩
                  have v : lnG (lnT ((lnK t : Nat) : Int)) ≤ 9 := by unfold lnG; split <;> omega
                  exact Int.le_trans w2.2 v
              exact ⟨g 0 (fun q => c5 (.inr (.inr q))), g 1 (fun q => c5 (.inl q)), g 2 (fun q => c5 (.inr (.inl q)))⟩
end AGz


end
