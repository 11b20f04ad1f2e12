section
/-! 19l -/
section CDC
variable {G : Int → Int} {T : Int}
theorem CLs_mem {w s y : Int} (h : y ∈ CLs G T w s) : y = s ∧ G s ≠ 0 ∧ T + 1 - G s = w := by
  unfold CLs at h
  by_cases q : G s ≠ 0 ∧ T + 1 - G s = w
  · rw [if_pos q] at h
    exact ⟨(List.mem_replicate.mp h).2, q⟩
  · rw [if_neg q] at h
    cases h
theorem CLw_mem {w y : Int} : ∀ {n : Nat}, y ∈ CLw G T w n → 0 ≤ y ∧ y < (n : Int) ∧ G y ≠ 0 ∧ T + 1 - G y = w
  | 0, h => by cases h
  | n + 1, h => by
    rcases List.mem_append.mp (show y ∈ CLw G T w n ++ CLs G T w (n : Int) from h) with q | q
    · have k := CLw_mem q
      exact ⟨k.1, by omega, k.2.2⟩
    · obtain ⟨a, b⟩ := CLs_mem q
      subst a
      exact ⟨by omega, by omega, b⟩
theorem CLa_mem {y : Int} : ∀ {n : Nat}, y ∈ CLa G T n → T + 1 - G y ≤ (n : Int)
  | 0, h => by cases h
  | n + 1, h => by
    rcases List.mem_append.mp (show y ∈ CLa G T n ++ CLw G T ((n : Int) + 1) 256 from h) with q | q
    · have := CLa_mem q
      omega
    · have := (CLw_mem q).2.2.2
      omega
theorem CLs_len {w s : Int} : ((CLs G T w s).length : Int) = ke G T w s := by
  unfold CLs
  rcases ke_eq G T w s with ⟨a, b, c⟩ | ⟨a, c⟩
  · rw [if_pos ⟨a, b⟩, List.length_replicate, c]
    have := p2_pos (w - 1)
    omega
  · rw [if_neg a, c]
    rfl
theorem CLw_len {w : Int} : ∀ {n : Nat}, ((CLw G T w n).length : Int) = su (ke G T w) n
  | 0 => rfl
  | n + 1 => by
    show (((CLw G T w n ++ CLs G T w (n : Int)).length : Nat) : Int) = su (ke G T w) n + ke G T w (n : Int)
    rw [List.length_append, Int.natCast_add, CLw_len, CLs_len]
theorem CLa_len (h : ∀ i, (0 : Int) ≤ i → i < 256 → 0 ≤ G i ∧ G i ≤ T) : ∀ {n : Nat}, ((CLa G T n).length : Int) = su (kq G T ((n : Int) + 1)) 256
  | 0 => by
    rw [show ((0 : Nat) : Int) + 1 = 1 by omega, kq_1 h]
    rfl
  | n + 1 => by
    show (((CLa G T n ++ CLw G T ((n : Int) + 1) 256).length : Nat) : Int) = _
    rw [List.length_append, Int.natCast_add, CLa_len h, CLw_len, show ((n + 1 : Nat) : Int) + 1 = ((n : Int) + 1) + 1 by omega, kq_s (w := (n : Int) + 1)]
theorem CLw_pre {w : Int} {n : Nat} : ∀ {k : Nat}, ∃ R, CLw G T w (n + k) = CLw G T w n ++ R
  | 0 => ⟨[], by rw [List.append_nil]; rfl⟩
  | k + 1 => by
    obtain ⟨R, e⟩ := CLw_pre (w := w) (n := n) (k := k)
    refine ⟨R ++ CLs G T w ((n + k : Nat) : Int), ?_⟩
    show CLw G T w (n + k) ++ CLs G T w ((n + k : Nat) : Int) = _
    rw [e, List.append_assoc]
theorem CLa_pre {n : Nat} : ∀ {k : Nat}, ∃ R, CLa G T (n + k) = CLa G T n ++ R
  | 0 => ⟨[], by rw [List.append_nil]; rfl⟩
  | k + 1 => by
    obtain ⟨R, e⟩ := CLa_pre (n := n) (k := k)
    refine ⟨R ++ CLw G T (((n + k : Nat) : Int) + 1) 256, ?_⟩
    show CLa G T (n + k) ++ CLw G T (((n + k : Nat) : Int) + 1) 256 = _
    rw [e, List.append_assoc]

theorem CELS_be (h : CI G T) {s : Int} (h0 : 0 ≤ s) (h1 : s < 256) (hs : G s ≠ 0) : ∃ P R, CELS G T = P ++ (s :: R) ∧ (P.length : Int) = cdF G T s ∧ s ∉ P := by
  have r := h.2.2.1 s h0 h1
  obtain ⟨w, hw⟩ : ∃ w : Nat, (w : Int) = T - G s := ⟨(T - G s).toNat, by omega⟩
  obtain ⟨n, hn⟩ : ∃ n : Nat, (n : Int) = s := ⟨s.toNat, by omega⟩
  obtain ⟨R1, e1⟩ := CLa_pre (G := G) (T := T) (n := w + 1) (k := (G s - 1).toNat)
  rw [show w + 1 + (G s - 1).toNat = T.toNat by omega] at e1
  obtain ⟨R2, e2⟩ := CLw_pre (G := G) (T := T) (w := (w : Int) + 1) (n := n + 1) (k := 255 - n)
  rw [show n + 1 + (255 - n) = 256 by omega] at e2
  obtain ⟨m, hm⟩ : ∃ m : Nat, (p2 ((w : Int) + 1 - 1)).toNat = m + 1 := ⟨(p2 ((w : Int) + 1 - 1)).toNat - 1, by have := p2_pos ((w : Int) + 1 - 1); omega⟩
  have e3 : CLs G T ((w : Int) + 1) s = s :: List.replicate m s := by
    unfold CLs
    rw [if_pos ⟨hs, by omega⟩, hm]
    rfl
  refine ⟨CLa G T w ++ CLw G T ((w : Int) + 1) n, List.replicate m s ++ R2 ++ R1, ?_, ?_, ?_⟩
  · show CLa G T T.toNat = _
    rw [e1]
    show (CLa G T w ++ CLw G T ((w : Int) + 1) 256) ++ R1 = _
    rw [e2]
    show (CLa G T w ++ ((CLw G T ((w : Int) + 1) n ++ CLs G T ((w : Int) + 1) (n : Int)) ++ R2)) ++ R1 = _
    rw [hn, e3]
    simp only [List.append_assoc, List.cons_append]
  · rw [List.length_append, Int.natCast_add, CLa_len h.2.2.1, CLw_len]
    unfold cdF
    rw [show T + 1 - G s = (w : Int) + 1 by omega, show s.toNat = n by omega]
  · intro q
    rcases List.mem_append.mp q with q | q
    · have := CLa_mem q
      omega
    · have := (CLw_mem q).2.1
      omega

theorem CEF_is {c : Int → Int} (e : fl c (p2 T) = CELS G T) (h : CI G T) {s k : Int} (h0 : 0 ≤ s) (h1 : s < 256) (hs : G s ≠ 0) (k0 : 0 ≤ k) (hk : c k = s) (hb : ∀ i, 0 ≤ i → i < k → c i ≠ s) : k = cdF G T s := by
  obtain ⟨P, R, a1, a2, a3⟩ := CELS_be h h0 h1 hs
  have lt : (P.length : Int) < p2 T := by
    have l := congrArg List.length (e.trans a1)
    rw [fl_len, List.length_append, List.length_cons] at l
    omega
  have gp := fl_get (g := c) (k := (P.length : Int)) (by omega) lt
  rw [e, a1, show ((P.length : Int)).toNat = P.length by omega, List.getElem?_append_right (Nat.le_refl _), Nat.sub_self] at gp
  have gp : s = c (P.length : Int) := Option.some.inj gp
  rw [← a2]
  rcases (show k < (P.length : Int) ∨ k = (P.length : Int) ∨ (P.length : Int) < k by omega) with q | q | q
  · have gk := fl_get (g := c) k0 (show k < p2 T by omega)
    rw [e, a1, hk, List.getElem?_append_left (by omega)] at gk
    exact absurd (List.mem_of_getElem? gk) a3
  · exact q
  · exact absurd gp.symm (hb _ (by omega) q)
end CDC
noncomputable def cdB (G : Int → Int) (T s : Int) : List Int := btw (cdF G T s / p2 (T - G s)) (G s)

noncomputable def smB (G : Int → Int) (T : Int) (L : Int → Int) (b : Int) : Nat → List Int
  | 0 => []
  | n + 1 => smB G T L b n ++ cdB G T (L (b - 1 - (n : Int)))
noncomputable def stm (G : Int → Int) (T : Int) (L : Int → Int) (a b : Int) : List Int := smB G T L b (b - a).toNat ++ btw 1 1
section SMx
variable {G H L M : Int → Int} {T a b n m s c l : Int}
theorem smB_0 {n : Int} (h : n ≤ 0) : smB G T L b n.toNat = [] := by
  rw [show n.toNat = 0 by omega]
  rfl
theorem smB_s (h0 : 0 ≤ n) (e : m = n + 1) (hs : L (b - 1 - n) = s) (hc : c = cdF G T s / p2 (T - G s)) (hl : G s = l) : smB G T L b m.toNat = smB G T L b n.toNat ++ btw c l := by
  rw [show m.toNat = n.toNat + 1 by omega]
  show smB G T L b n.toNat ++ cdB G T (L (b - 1 - ((n.toNat : Nat) : Int))) = _
  rw [show ((n.toNat : Nat) : Int) = n by omega, hs]
  unfold cdB
  rw [← hc, hl]
theorem cdF_cg (e : ∀ i, 0 ≤ i → i < 256 → G i = H i) (h0 : 0 ≤ s) (h1 : s < 256) : cdF G T s = cdF H T s := by
  have e1 : su (kq G T (T + 1 - H s)) 256 = su (kq H T (T + 1 - H s)) 256 := su_congr (fun i x y => by unfold kq; rw [e i x (by omega)])
  have e2 : su (ke G T (T + 1 - H s)) s.toNat = su (ke H T (T + 1 - H s)) s.toNat := su_congr (fun i x y => by unfold ke; rw [e i x (by omega)])
  unfold cdF
  rw [e s h0 h1, e1, e2]
theorem cdB_cg (e : ∀ i, 0 ≤ i → i < 256 → G i = H i) (h0 : 0 ≤ s) (h1 : s < 256) : cdB G T s = cdB H T s := by
  unfold cdB
  rw [cdF_cg e h0 h1, e s h0 h1]
theorem smB_cg (e : ∀ i, 0 ≤ i → i < 256 → G i = H i) : ∀ {n : Nat}, (∀ k, b - (n : Int) ≤ k → k < b → L k = M k ∧ 0 ≤ L k ∧ L k < 256) → smB G T L b n = smB H T M b n
  | 0, _ => rfl
  | n + 1, h => by
    show smB G T L b n ++ cdB G T (L (b - 1 - (n : Int))) = smB H T M b n ++ cdB H T (M (b - 1 - (n : Int)))
    have k := h (b - 1 - (n : Int)) (by omega) (by omega)
    rw [smB_cg e (fun k x y => h k (by omega) y), cdB_cg e k.2.1 k.2.2, k.1]
theorem stm_cg (e : ∀ i, 0 ≤ i → i < 256 → G i = H i) (hab : a ≤ b) (h : ∀ k, a ≤ k → k < b → L k = M k ∧ 0 ≤ L k ∧ L k < 256) : stm G T L a b = stm H T M a b := by
  unfold stm
  rw [smB_cg e (fun k x y => h k (by omega) y)]
end SMx

def szF (G L : Int → Int) (a : Int) (n : Nat) : Int := su (fun k => G (L (a + k))) n
theorem szF_0 {G L : Int → Int} {a n : Int} (h : n ≤ 0) : szF G L a n.toNat = 0 := by
  rw [show n.toNat = 0 by omega]
  rfl
theorem szF_s {G L : Int → Int} {a n m v i : Int} (h0 : 0 ≤ n) (e : m = n + 1) (hi : i = a + n) (hv : G (L i) = v) : szF G L a m.toNat = szF G L a n.toNat + v := by
  subst e hi hv
  exact su_s h0
theorem szF_cg {G H L M : Int → Int} {a b : Int} (e : ∀ i, 0 ≤ i → i < 256 → G i = H i) (h : ∀ k, a ≤ k → k < b → L k = M k ∧ 0 ≤ L k ∧ L k < 256) : szF G L a (b - a).toNat = szF H M a (b - a).toNat := su_congr (fun i x y => by
  have k := h (a + i) (by omega) (by omega)
  show G (L (a + i)) = H (M (a + i))
  rw [e _ k.2.1 k.2.2, k.1])

def PSZ (G L : Int → Int) (a b r : Int) : Prop := (r = 0 ∧ ∃ k, a ≤ k ∧ k < b ∧ G (L k) = 0) ∨ (r = szF G L a (b - a).toNat / 8 + 1 ∧ ∀ k, a ≤ k → k < b → G (L k) ≠ 0)

def MDS (g0 : Int → Int) (n0 : Int) (g1 : Int → Int) (n1 : Int) (M : List Int) : Prop := ∀ B, MDB g0 n0 B → MDB g1 n1 (pd8 (B ++ M))
theorem MDS_of {g0 g1 g2 : Int → Int} {n0 n1 n2 : Int} {M : List Int} (h : MDA g0 n0 g1 n1 M) (k : MDP g1 n1 g2 n2) : MDS g0 n0 g2 n2 M := fun B q => k _ (h B q)

def z1F (G L : Int → Int) (a b : Int) : Int := (1 + szF G L a (b - a).toNat + 7) / 8
def STZ (G L : Int → Int) (n : Int) : Int := if n < 1024 then z1F G L 0 n else 6 + z1F G L 0 ((n + 3) / 4) + z1F G L ((n + 3) / 4) (2 * ((n + 3) / 4)) + z1F G L (2 * ((n + 3) / 4)) (3 * ((n + 3) / 4)) + z1F G L (3 * ((n + 3) / 4)) n
theorem STZ_1 {G L : Int → Int} {n : Int} (h : n < 1024) : STZ G L n = z1F G L 0 n := if_pos h
theorem STZ_4 {G L : Int → Int} {n : Int} (h : 1024 ≤ n) : STZ G L n = 6 + z1F G L 0 ((n + 3) / 4) + z1F G L ((n + 3) / 4) (2 * ((n + 3) / 4)) + z1F G L (2 * ((n + 3) / 4)) (3 * ((n + 3) / 4)) + z1F G L (3 * ((n + 3) / 4)) n := if_neg (by omega)
theorem z1F_p {G L : Int → Int} {a b r : Int} (h : PSZ G L a b r) (hr : r ≠ 0) : r = z1F G L a b := by
  rcases h with ⟨q, _⟩ | ⟨q, _⟩
  · exact absurd q hr
  · unfold z1F
    omega
theorem z1F_n {G L : Int → Int} {a b r : Int} (h : PSZ G L a b r) (hr : r ≠ 0) : ∀ k, a ≤ k → k < b → G (L k) ≠ 0 := by
  rcases h with ⟨q, _⟩ | ⟨_, q⟩
  · exact absurd q hr
  · exact q

def MBY (g : Int → Int) (n : Int) (S : List Int) : Prop := ∃ C, MDB g n C ∧ C.length % 8 = 0 ∧ byw C = S
def MBA (g0 : Int → Int) (n0 : Int) (g1 : Int → Int) (n1 : Int) (M : List Int) : Prop := ∀ S, MBY g0 n0 S → MBY g1 n1 (S ++ M)
theorem MBA_0 {g : Int → Int} {n : Int} : MBA g n g n [] := fun S h => by rw [List.append_nil]; exact h
theorem MBA_t {g0 g1 g2 : Int → Int} {n0 n1 n2 : Int} {M N : List Int} (h : MBA g0 n0 g1 n1 M) (k : MBA g1 n1 g2 n2 N) : MBA g0 n0 g2 n2 (M ++ N) := fun S q => by
  rw [← List.append_assoc]
  exact k _ (h S q)
theorem MBA_p {g0 g1 : Int → Int} {n0 n1 v : Int} (k : MDA g0 n0 g1 n1 (btw v 16)) (hv : 0 ≤ v ∧ v < 65536) : MBA g0 n0 g1 n1 (nb v 2) := fun S ⟨C, c1, c2, c3⟩ => by
  refine ⟨C ++ btw v 16, k C c1, ?_, ?_⟩
  · rw [List.length_append, btw_len]
    show (C.length + (16 : Int).toNat) % 8 = 0
    have e : (16 : Int).toNat = 16 := rfl
    omega
  · rw [byw_a c2 c1.2.1, c3]
    congr 1
    unfold byw
    rw [bl8_bt (by decide), btw_lenI (by decide), show p2 16 = 65536 by decide, Int.emod_eq_of_lt hv.1 hv.2]
    rfl
theorem MBA_s {g0 g1 : Int → Int} {n0 n1 : Int} {M : List Int} (k : MDS g0 n0 g1 n1 M) : MBA g0 n0 g1 n1 (byw M) := fun S ⟨C, c1, c2, c3⟩ => ⟨pd8 (C ++ M), k C c1, pd8_len.1, by rw [byw_pd, byw_a c2 c1.2.1, c3]⟩
theorem MBY_X {g : Int → Int} {n : Int} {S : List Int} (h : MBY g n S) : MDX g n := ⟨h.choose, h.choose_spec.1⟩
theorem MBY_sc {g : Int → Int} {n : Int} {S : List Int} (h : MBY g n S) (hn : n ≤ 192000) : sc g 0 (n / 8) = S := by
  obtain ⟨C, c1, c2, c3⟩ := h
  rw [← c3]
  exact MDB_by c1 hn (by have := c1.1; omega)

def N4 (G L : Int → Int) (c : Int) (k : Nat) : List Int := ((List.range k).map (fun i : Nat => nb (z1F G L ((i : Int) * c) ((i : Int) * c + c)) 2)).flatten
noncomputable def S4 (G : Int → Int) (T : Int) (L : Int → Int) (c : Int) (k : Nat) : List Int := ((List.range k).map (fun i : Nat => byw (stm G T L ((i : Int) * c) ((i : Int) * c + c)))).flatten
noncomputable def F4 (G : Int → Int) (T : Int) (L : Int → Int) (n : Int) : List Int := N4 G L ((n + 3) / 4) 3 ++ (S4 G T L ((n + 3) / 4) 3 ++ byw (stm G T L (3 * ((n + 3) / 4)) n))
noncomputable def F1 (G : Int → Int) (T : Int) (L : Int → Int) (n : Int) : List Int := if n < 1024 then byw (stm G T L 0 n) else F4 G T L n
theorem N4_0 {G L : Int → Int} {c k : Int} (h : k ≤ 0) : N4 G L c k.toNat = [] := by
  rw [show k.toNat = 0 by omega]
  rfl
theorem N4_s {G L : Int → Int} {c k m v : Int} (h : 0 ≤ k) (e : m = k + 1) (hv : v = z1F G L (k * c) (k * c + c)) : N4 G L c m.toNat = N4 G L c k.toNat ++ nb v 2 := by
  subst e hv
  unfold N4
  rw [show (k + 1).toNat = k.toNat + 1 by omega, List.range_succ, List.map_append, List.flatten_append, List.map_cons, List.map_nil, List.flatten_cons, List.flatten_nil, List.append_nil, show ((k.toNat : Nat) : Int) = k by omega]
theorem S4_0 {G L : Int → Int} {T c k : Int} (h : k ≤ 0) : S4 G T L c k.toNat = [] := by
  rw [show k.toNat = 0 by omega]
  rfl
theorem S4_s {G L : Int → Int} {T c k m a b : Int} (h : 0 ≤ k) (e : m = k + 1) (ha : a = k * c) (hb : b = k * c + c) : S4 G T L c m.toNat = S4 G T L c k.toNat ++ byw (stm G T L a b) := by
  subst e ha hb
  unfold S4
  rw [show (k + 1).toNat = k.toNat + 1 by omega, List.range_succ, List.map_append, List.flatten_append, List.map_cons, List.map_nil, List.flatten_cons, List.flatten_nil, List.append_nil, show ((k.toNat : Nat) : Int) = k by omega]


end
section
/-! 19m -/
theorem orJ_sh {x c m : Int} (hm : 0 ≤ m) (hx : 0 ≤ x ∧ x < p2 m) (hc : 0 ≤ c) (hr : x + c * p2 m ≤ 9223372036854775807) : orJ x (c * p2 m) = x + c * p2 m := by
  have hq := p2_pos m
  have h0 : 0 ≤ c * p2 m := Int.mul_nonneg hc (by omega)
  have e1 : (c * p2 m).toNat = c.toNat * 2 ^ m.toNat := by
    apply Int.ofNat_inj.mp
    rw [Int.toNat_of_nonneg h0, Int.natCast_mul, Int.toNat_of_nonneg hc]
    rfl
  have ep : ((2 ^ m.toNat : Nat) : Int) = p2 m := rfl
  rw [orJ_nn ⟨hx.1, ⟨by omega, by omega⟩⟩ ⟨h0, ⟨by omega, by omega⟩⟩, e1, or_add (k := m.toNat) (by omega), ← e1]
  omega
theorem orJ_cm {a b : Int} (ha : 0 ≤ a ∧ inrJ a) (hb : 0 ≤ b ∧ inrJ b) : orJ a b = orJ b a := by
  rw [orJ_nn ha hb, orJ_nn hb ha, Nat.or_comm]
theorem orJ_al {y c m : Int} (hm : 0 ≤ m) (hy : 0 ≤ y ∧ y < p2 m) (hc : 0 ≤ c) (hr : y + c * p2 m ≤ 9223372036854775807) : orJ (c * p2 m) y = y + c * p2 m := by
  have hq := p2_pos m
  have h0 : 0 ≤ c * p2 m := Int.mul_nonneg hc (by omega)
  rw [orJ_cm ⟨h0, ⟨by omega, by omega⟩⟩ ⟨hy.1, ⟨by omega, by omega⟩⟩]
  exact orJ_sh hm hy hc hr
theorem shlJ_v {a b : Int} (hb : 0 ≤ b ∧ b ≤ 63) (h : inrJ (a * p2 b)) : shlJ a b = a * p2 b := by
  unfold shlJ
  rw [shl64 hb]
  exact toJ_ofJ h
theorem slI_v {a b : Int} (hb : 0 ≤ b ∧ b ≤ 31) (h : inr (a * p2 b)) : slI a b = a * p2 b := by
  unfold slI
  rw [shl32 hb]
  exact toI_ofI h
theorem orI_al {y c m : Int} (hm : 0 ≤ m ∧ m ≤ 30) (hy : 0 ≤ y ∧ y < p2 m) (hc : 0 ≤ c) (hr : y + c * p2 m < 2147483648) : orI (c * p2 m) y = y + c * p2 m := by
  rw [← orI_shk hm hy hc (by omega)]
  unfold orI
  rw [Int32.or_comm]

def HDV (k l n b w : Int) : Int := k + 4 * l + 16 * n + b * p2 (4 + w)
section HDx
variable {k l n b w : Int}
theorem HDn_b (hw : 10 ≤ w ∧ w ≤ 18) (hb : 0 ≤ b ∧ b < 262144) : 0 ≤ b * p2 (4 + w) ∧ b * p2 (4 + w) ≤ 262144 * 4194304 := by
  have q := p2_pos (4 + w)
  have p : p2 (4 + w) ≤ p2 22 := p2_mono (by omega)
  rw [show p2 22 = 4194304 by decide] at p
  exact ⟨Int.mul_nonneg hb.1 (by omega), Int.mul_le_mul (by omega) p (by omega) (by omega)⟩
theorem HDn_w (hw : 10 ≤ w ∧ w ≤ 18) (hn : 0 ≤ n ∧ n < p2 w) : 16 * n + 16 ≤ p2 (4 + w) ∧ n < 262144 := by
  have e := p2_add (x := 4) (y := w) (by decide) (by omega)
  rw [show p2 4 = 16 by decide] at e
  have p : p2 w ≤ p2 18 := p2_mono hw.2
  rw [show p2 18 = 262144 by decide] at p
  omega
theorem HDR (hk : 0 ≤ k ∧ k ≤ 3) (hl : 0 ≤ l ∧ l ≤ 3) (hw : 10 ≤ w ∧ w ≤ 18) (hn : 0 ≤ n ∧ n < p2 w) (hb : 0 ≤ b ∧ b < 262144) : orJ (orJ (orJ k (shlJ l 2)) (shlJ n 4)) (shlJ b (4 + w)) = HDV k l n b w := by
  have a1 := HDn_b hw hb
  have a2 := HDn_w hw hn
  have e2 : p2 2 = 4 := by decide
  have e4 : p2 4 = 16 := by decide
  rw [shlJ_v (a := l) (by decide) ⟨by rw [e2]; omega, by rw [e2]; omega⟩, shlJ_v (a := n) (by decide) ⟨by rw [e4]; omega, by rw [e4]; omega⟩, shlJ_v (a := b) (by omega) ⟨by omega, by omega⟩, orJ_sh (by decide) ⟨hk.1, by rw [e2]; omega⟩ hl.1 (by rw [e2]; omega), orJ_sh (by decide) ⟨by rw [e2]; omega, by rw [e2, e4]; omega⟩ hn.1 (by rw [e2, e4]; omega), orJ_sh (by omega) ⟨by rw [e2, e4]; omega, by rw [e2, e4]; omega⟩ hb.1 (by rw [e2, e4]; omega), e2, e4]
  unfold HDV
  omega
theorem HDC {x : Int} (hk : 0 ≤ k ∧ k ≤ 3) (hl : 0 ≤ l ∧ l ≤ 3) (hx : x = 4 * l) (hw : 10 ≤ w ∧ w ≤ 18) (hn : 0 ≤ n ∧ n < p2 w) (hb : 0 ≤ b ∧ b < 262144) : orJ (orJ (orJ (shlJ b (4 + w)) (shlJ n 4)) x) k = HDV k l n b w := by
  have a1 := HDn_b hw hb
  have a2 := HDn_w hw hn
  have e2 : p2 2 = 4 := by decide
  have e4 : p2 4 = 16 := by decide
  have ew := p2_add (x := 4) (y := w) (by decide) (by omega)
  have m1 : n * 16 + b * p2 (4 + w) = (n + b * p2 w) * p2 4 := by
    rw [ew, e4, Int.add_mul, Int.mul_assoc b, Int.mul_comm (p2 w) 16]
  have c0 : 0 ≤ b * p2 w := Int.mul_nonneg hb.1 (by have := p2_pos w; omega)
  rw [shlJ_v (a := b) (by omega) ⟨by omega, by omega⟩, shlJ_v (a := n) (by decide) ⟨by rw [e4]; omega, by rw [e4]; omega⟩, orJ_al (by omega) ⟨by rw [e4]; omega, by rw [e4]; omega⟩ hb.1 (by rw [e4]; omega), e4, m1, orJ_al (y := x) (by decide) ⟨by omega, by rw [e4]; omega⟩ (by omega) (by rw [← m1]; omega)]
  have m2 : x + (n + b * p2 w) * p2 4 = (l + (n + b * p2 w) * 4) * p2 2 := by
    rw [e2, e4, hx]
    omega
  rw [m2, orJ_al (by decide) ⟨hk.1, by rw [e2]; omega⟩ (by omega) (by rw [← m2, ← m1]; omega), ← m2, ← m1]
  unfold HDV
  omega
end HDx
def wdF (l : Int) : Int := if l < 2 then 10 else if l = 2 then 14 else 18
def hbF (l : Int) : Int := if l < 2 then 3 else if l = 2 then 4 else 5
theorem wdF_e {l r : Int} (h : l < 2 ∧ r = 10 ∨ l = 2 ∧ r = 14 ∨ 2 < l ∧ r = 18) : r = wdF l := by
  unfold wdF
  rcases h with ⟨a, b⟩ | ⟨a, b⟩ | ⟨a, b⟩
  · rw [if_pos a, b]
  · rw [if_neg (by omega), if_pos a, b]
  · rw [if_neg (by omega), if_neg (by omega), b]
theorem hbF_e {l r : Int} (h : l < 2 ∧ r = 3 ∨ l = 2 ∧ r = 4 ∨ 2 < l ∧ r = 5) : r = hbF l := by
  unfold hbF
  rcases h with ⟨a, b⟩ | ⟨a, b⟩ | ⟨a, b⟩
  · rw [if_pos a, b]
  · rw [if_neg (by omega), if_pos a, b]
  · rw [if_neg (by omega), if_neg (by omega), b]
theorem wdF_r {l : Int} : 10 ≤ wdF l ∧ wdF l ≤ 18 := by
  unfold wdF
  split
  · omega
  · split <;> omega

def mnI (a b : Int) : Int := if a ≤ b then a else b
theorem mnI_e {a b r : Int} (h : r = a ∧ a ≤ b ∨ r = b ∧ b ≤ a) : r = mnI a b := by
  unfold mnI
  by_cases q : a ≤ b
  · rw [if_pos q]; omega
  · rw [if_neg q]; omega
theorem mnI_l {a b : Int} (h : a ≤ b) : mnI a b = a := if_pos h
theorem mnI_r {a b : Int} (h : b ≤ a) : mnI a b = b := by
  unfold mnI
  split <;> omega
def PZ (G L : Int → Int) (n c : Int) (k : Nat) : Int := su (fun i => z1F G L (i * c) (mnI n ((i + 1) * c))) k
theorem PZ_0 {G L : Int → Int} {n c k : Int} (h : k ≤ 0) : PZ G L n c k.toNat = 0 := by
  rw [show k.toNat = 0 by omega]
  rfl
theorem PZ_s {G L : Int → Int} {n c k m a b v : Int} (h : 0 ≤ k) (e : m = k + 1) (ha : a = k * c) (hb : b = mnI n ((k + 1) * c)) (hv : v = z1F G L a b) : PZ G L n c m.toNat = PZ G L n c k.toNat + v := by
  subst e ha hb hv
  exact su_s h
theorem PZ_1 {G L : Int → Int} {n : Int} (h : n < 1024) : PZ G L n n (1 : Int).toNat = STZ G L n := by
  rw [STZ_1 h]
  show (0 : Int) + z1F G L (((0 : Nat) : Int) * n) (mnI n ((((0 : Nat) : Int) + 1) * n)) = _
  rw [mnI_l (by omega), show ((0 : Nat) : Int) * n = 0 by omega]
  omega
theorem PZ_4 {G L : Int → Int} {n c : Int} (h : 1024 ≤ n) (hc : c = (n + 3) / 4) : 6 + PZ G L n c (4 : Int).toNat = STZ G L n := by
  subst hc
  rw [STZ_4 h]
  show 6 + ((((0 : Int) + z1F G L (((0 : Nat) : Int) * ((n + 3) / 4)) (mnI n ((((0 : Nat) : Int) + 1) * ((n + 3) / 4)))) + z1F G L (((1 : Nat) : Int) * ((n + 3) / 4)) (mnI n ((((1 : Nat) : Int) + 1) * ((n + 3) / 4)))) + z1F G L (((2 : Nat) : Int) * ((n + 3) / 4)) (mnI n ((((2 : Nat) : Int) + 1) * ((n + 3) / 4))) + z1F G L (((3 : Nat) : Int) * ((n + 3) / 4)) (mnI n ((((3 : Nat) : Int) + 1) * ((n + 3) / 4)))) = _
  rw [mnI_r (b := (((0 : Nat) : Int) + 1) * ((n + 3) / 4)) (by omega), mnI_r (b := (((1 : Nat) : Int) + 1) * ((n + 3) / 4)) (by omega), mnI_r (b := (((2 : Nat) : Int) + 1) * ((n + 3) / 4)) (by omega), mnI_l (b := (((3 : Nat) : Int) + 1) * ((n + 3) / 4)) (by omega), show ((0 : Nat) : Int) * ((n + 3) / 4) = 0 by omega, show (((0 : Nat) : Int) + 1) * ((n + 3) / 4) = (n + 3) / 4 by omega, show ((1 : Nat) : Int) * ((n + 3) / 4) = (n + 3) / 4 by omega, show (((1 : Nat) : Int) + 1) * ((n + 3) / 4) = 2 * ((n + 3) / 4) by omega, show ((2 : Nat) : Int) * ((n + 3) / 4) = 2 * ((n + 3) / 4) by omega, show (((2 : Nat) : Int) + 1) * ((n + 3) / 4) = 3 * ((n + 3) / 4) by omega, show ((3 : Nat) : Int) * ((n + 3) / 4) = 3 * ((n + 3) / 4) by omega]
  omega
theorem szF_nn {G L : Int → Int} {a : Int} {n : Nat} (h : ∀ k, 0 ≤ G (L k)) : 0 ≤ szF G L a n := su_nonneg (fun i _ _ => h _)
theorem PSZ_0 {G L : Int → Int} {a b : Int} (h : PSZ G L a b 0) (hg : ∀ k, 0 ≤ G (L k)) : ∃ k, a ≤ k ∧ k < b ∧ G (L k) = 0 := by
  rcases h with ⟨_, q⟩ | ⟨q, _⟩
  · exact q
  · have := szF_nn (a := a) (n := (b - a).toNat) hg
    omega

def CZF (G L : Int → Int) (n d r : Int) : Prop := (r = 0 ∧ ((∃ k, 0 ≤ k ∧ k < n ∧ G (L k) = 0) ∨ n < 1024 ∧ 1024 ≤ d + STZ G L n)) ∨ ((∀ k, 0 ≤ k → k < n → G (L k) ≠ 0) ∧ (n < 1024 ∧ d + STZ G L n < 1024 ∧ r = d + STZ G L n + 3 ∨ 1024 ≤ n ∧ n < 16384 ∧ d + STZ G L n < 16384 ∧ r = d + STZ G L n + 4 ∨ 1024 ≤ n ∧ (16384 ≤ n ∨ 16384 ≤ d + STZ G L n) ∧ r = d + STZ G L n + 5))


end
section
/-! 19n -/
noncomputable def hfG (L : Int → Int) (n : Int) : Int → Int := cutP 256 (fun s => dpH (hvF (ctF L n) (LBT (ctF L n))) s)
noncomputable def hfT (L : Int → Int) (n : Int) : Int := mxF (hvF (ctF L n) (LBT (ctF L n)))
noncomputable def CZN (G L : Int → Int) (n d : Int) : Int := haveI : ∀ p : Prop, Decidable p := Classical.propDecidable; if ∃ k, 0 ≤ k ∧ k < n ∧ G (L k) = 0 then 0 else if n < 1024 then (if d + STZ G L n < 1024 then d + STZ G L n + 3 else 0) else if n < 16384 ∧ d + STZ G L n < 16384 then d + STZ G L n + 4 else d + STZ G L n + 5
section CZx
variable {G L : Int → Int} {n d r : Int}
theorem CZN_u (h : ∃ k, 0 ≤ k ∧ k < n ∧ G (L k) = 0) : CZN G L n d = 0 := if_pos h
theorem CZN_0 (hn : n < 1024) (hs : 1024 ≤ d + STZ G L n) : CZN G L n d = 0 := by
  unfold CZN
  by_cases h : ∃ k, 0 ≤ k ∧ k < n ∧ G (L k) = 0
  · rw [if_pos h]
  · rw [if_neg h, if_pos hn, if_neg (by omega)]
theorem nex_of (h : ∀ k, 0 ≤ k → k < n → G (L k) ≠ 0) : ¬ ∃ k, 0 ≤ k ∧ k < n ∧ G (L k) = 0 := fun ⟨k, a, b, c⟩ => h k a b c
theorem CZN_3 (h : ∀ k, 0 ≤ k → k < n → G (L k) ≠ 0) (hn : n < 1024) (hs : d + STZ G L n < 1024) : CZN G L n d = d + STZ G L n + 3 := by
  unfold CZN
  rw [if_neg (nex_of h), if_pos hn, if_pos hs]
theorem CZN_4 (h : ∀ k, 0 ≤ k → k < n → G (L k) ≠ 0) (hn : 1024 ≤ n) (h2 : n < 16384) (hs : d + STZ G L n < 16384) : CZN G L n d = d + STZ G L n + 4 := by
  unfold CZN
  rw [if_neg (nex_of h), if_neg (by omega), if_pos ⟨h2, hs⟩]
theorem CZN_5 (h : ∀ k, 0 ≤ k → k < n → G (L k) ≠ 0) (hn : 1024 ≤ n) (h2 : 16384 ≤ n ∨ 16384 ≤ d + STZ G L n) : CZN G L n d = d + STZ G L n + 5 := by
  unfold CZN
  rw [if_neg (nex_of h), if_neg (by omega), if_neg (by omega)]
theorem CZN_e (h : CZF G L n d r) : r = CZN G L n d := by
  rcases h with ⟨a, b | ⟨b, c⟩⟩ | ⟨a, ⟨b, c, e⟩ | ⟨b, b2, c, e⟩ | ⟨b, c, e⟩⟩
  · rw [a, CZN_u b]
  · rw [a, CZN_0 b c]
  · rw [e, CZN_3 a b c]
  · rw [e, CZN_4 a b b2 c]
  · rw [e, CZN_5 a b c]

def hlF (n b : Int) : Int := if n < 1024 then 0 else if n < 16384 ∧ b < 16384 then 2 else 3
def HOF (n b h : Int) : Prop := h = 0 ∧ n < 1024 ∧ b < 1024 ∨ h = -1 ∧ n < 1024 ∧ 1024 ≤ b ∨ h = 2 ∧ 1024 ≤ n ∧ n < 16384 ∧ b < 16384 ∨ h = 3 ∧ 1024 ≤ n ∧ (16384 ≤ n ∨ 16384 ≤ b) ∧ b < 262144 ∨ h = -1 ∧ 1024 ≤ n ∧ 262144 ≤ b
theorem HOF_y {b h : Int} (q : HOF n b h) (h0 : 0 ≤ h) : h = hlF n b := by
  unfold hlF
  rcases q with q | q | q | q | q
  · rw [if_pos q.2.1]; exact q.1
  · omega
  · rw [if_neg (by omega), if_pos ⟨q.2.2.1, q.2.2.2⟩]; exact q.1
  · rw [if_neg (by omega), if_neg (by omega)]; exact q.1
  · omega
theorem HOF_z {h : Int} (q : HOF n (d + STZ G L n) h) (hc : ∀ k, 0 ≤ k → k < n → G (L k) ≠ 0) (h0 : 0 ≤ h) : CZN G L n d = hbF h + (d + STZ G L n) := by
  rcases q with q | q | q | q | q
  · rw [CZN_3 hc q.2.1 q.2.2, q.1, ← hbF_e (r := 3) (.inl ⟨by omega, rfl⟩)]; omega
  · omega
  · rw [CZN_4 hc q.2.1 q.2.2.1 q.2.2.2, q.1, ← hbF_e (r := 4) (.inr (.inl ⟨rfl, rfl⟩))]; omega
  · rw [CZN_5 hc q.2.1 q.2.2.1, q.1, ← hbF_e (r := 5) (.inr (.inr ⟨by omega, rfl⟩))]; omega
  · omega
theorem HOF_n {h : Int} (q : HOF n (d + STZ G L n) h) (hb : d + STZ G L n < 262144) (h0 : h < 0) : CZN G L n d = 0 := by
  rcases q with q | q | q | q | q
  · omega
  · exact CZN_0 q.2.1 q.2.2
  · omega
  · omega
  · omega
end CZx
def hN (n : Int) : Int := if n < 32 then 1 else if n < 4096 then 2 else 3
def ALK (L : Int → Int) (n : Int) : Prop := 0 < n ∧ ∀ k, 0 ≤ k → k < n → L k = L 0

abbrev LS2 := Int × Int
noncomputable def l1F (L : Int → Int) (n : Int) : LS2 := haveI : ∀ p : Prop, Decidable p := Classical.propDecidable; if ALK L n ∧ hN n + 1 < hN n + n then (hN n + 1, 1) else (hN n + n, 0)
noncomputable def l3F (cod : Option (Int × (Int → Int))) (L : Int → Int) (n : Int) (x : LS2) : LS2 := match cod with
  | none => x
  | some (_, G) => if 0 < CZN G L n 0 ∧ CZN G L n 0 < x.1 then (CZN G L n 0, 3) else x
noncomputable def dscF (L : Int → Int) (n : Int) : Option (List Int) := DSC (wtF (hfG L n) (hfT L n)) (lzN (hfG L n) 256)
noncomputable def l2F (L : Int → Int) (n : Int) (x : LS2) : LS2 := haveI : ∀ p : Prop, Decidable p := Classical.propDecidable; if 1 < n ∧ ¬ ALK L n then (match dscF L n with
  | none => x
  | some D => if 0 < CZN (hfG L n) L n (D.length : Int) ∧ CZN (hfG L n) L n (D.length : Int) < x.1 then (CZN (hfG L n) L n (D.length : Int), 2) else x) else x
noncomputable def lwF (cod : Option (Int × (Int → Int))) (L : Int → Int) (n : Int) : Int := (l2F L n (l3F cod L n (l1F L n))).2
def rwN (n k : Int) : Int := if n < 32 then n * 8 + k else if n < 4096 then n * 16 + 4 + k else n * 16 + 12 + k

noncomputable def ltB (cod : Option (Int × (Int → Int))) (L : Int → Int) (n k : Int) : List Int :=
  if k = 0 then nb (rwN n 0) (hN n) ++ (List.range n.toNat).map (fun i : Nat => L (i : Int))
  else if k = 1 then nb (rwN n 1) (hN n) ++ [L 0]
  else if k = 2 then nb (HDV 2 (hlF n ((((dscF L n).getD []).length : Int) + STZ (hfG L n) L n)) n ((((dscF L n).getD []).length : Int) + STZ (hfG L n) L n) (wdF (hlF n ((((dscF L n).getD []).length : Int) + STZ (hfG L n) L n)))) (hbF (hlF n ((((dscF L n).getD []).length : Int) + STZ (hfG L n) L n))) ++ ((dscF L n).getD [] ++ F1 (hfG L n) (hfT L n) L n)
  else match cod with
    | none => []
    | some (T, G) => nb (HDV 3 (hlF n (STZ G L n)) n (STZ G L n) (wdF (hlF n (STZ G L n)))) (hbF (hlF n (STZ G L n))) ++ F1 G T L n
noncomputable def ltC (cod : Option (Int × (Int → Int))) (L : Int → Int) (n k : Int) : Option (Int × (Int → Int)) := if k = 2 then some (hfT L n, hfG L n) else cod

def dlF (w c : Int) : Int := if w = 2 then c else 0
def DLs (w : Int) (S : List Int) : List Int := if w = 2 then S else []
theorem dlF_2 {w c : Int} (h : w = 2) : dlF w c = c := if_pos h
theorem dlF_3 {w c : Int} (h : w ≠ 2) : dlF w c = 0 := if_neg h
theorem DLs_2 {w : Int} {S : List Int} (h : w = 2) : DLs w S = S := if_pos h
theorem DLs_3 {w : Int} {S : List Int} (h : w ≠ 2) : DLs w S = [] := if_neg h
theorem CZF_nz {G L : Int → Int} {n d r : Int} (h : CZF G L n d r) (hr : r ≠ 0) : (∀ k, 0 ≤ k → k < n → G (L k) ≠ 0) ∧ (n < 1024 ∧ d + STZ G L n < 1024 ∧ r = d + STZ G L n + 3 ∨ 1024 ≤ n ∧ n < 16384 ∧ d + STZ G L n < 16384 ∧ r = d + STZ G L n + 4 ∨ 1024 ≤ n ∧ (16384 ≤ n ∨ 16384 ≤ d + STZ G L n) ∧ r = d + STZ G L n + 5) := by
  rcases h with ⟨q, _⟩ | q
  · exact absurd q hr
  · exact q
theorem su_le11 {f : Int → Int} (h : ∀ i, f i ≤ 11) : ∀ {n : Nat}, su f n ≤ 11 * (n : Int)
  | 0 => by show (0 : Int) ≤ 11 * ((0 : Nat) : Int); omega
  | n + 1 => by
    show su f n + f (n : Int) ≤ 11 * ((n + 1 : Nat) : Int)
    have a := su_le11 h (n := n)
    have b := h (n : Int)
    omega
theorem z1F_b {G L : Int → Int} {a b : Int} (h : ∀ k, 0 ≤ G (L k) ∧ G (L k) ≤ 11) (hab : a ≤ b) : 1 ≤ z1F G L a b ∧ 8 * z1F G L a b ≤ 15 + 11 * (b - a) := by
  have x := su_le11 (f := fun k => G (L (a + k))) (fun i => (h _).2) (n := (b - a).toNat)
  have y := szF_nn (G := G) (L := L) (a := a) (n := (b - a).toNat) (fun k => (h k).1)
  have x : szF G L a (b - a).toNat ≤ 11 * (((b - a).toNat : Nat) : Int) := x
  unfold z1F
  omega
theorem STZ_b {G L : Int → Int} {n : Int} (h : ∀ k, 0 ≤ G (L k) ∧ G (L k) ≤ 11) (hn : 0 ≤ n ∧ n ≤ 16384) : 1 ≤ STZ G L n ∧ STZ G L n ≤ 30000 := by
  by_cases q : n < 1024
  · have a := z1F_b (a := 0) (b := n) h hn.1
    rw [STZ_1 q]
    omega
  · have a := z1F_b (a := 0) (b := (n + 3) / 4) h (by omega)
    have b := z1F_b (a := (n + 3) / 4) (b := 2 * ((n + 3) / 4)) h (by omega)
    have c := z1F_b (a := 2 * ((n + 3) / 4)) (b := 3 * ((n + 3) / 4)) h (by omega)
    have d := z1F_b (a := 3 * ((n + 3) / 4)) (b := n) h (by omega)
    rw [STZ_4 (by omega)]
    omega

theorem HCL {n b l head w : Int} (hb : 0 ≤ b ∧ b < 262144) (h : n < 1024 ∧ head = 3 ∧ l = 0 ∧ w = 10 ∨ 1024 ≤ n ∧ n < 16384 ∧ b < 16384 ∧ head = 4 ∧ l = 2 ∧ w = 14 ∨ 1024 ≤ n ∧ (16384 ≤ n ∨ 16384 ≤ b) ∧ head = 5 ∧ l = 3 ∧ w = 18) : l = hlF n b ∧ w = wdF l ∧ head = hbF l ∧ (0 ≤ l ∧ l ≤ 3) := by
  rcases h with ⟨a, c, d, e⟩ | ⟨a, a2, a3, c, d, e⟩ | ⟨a, a2, c, d, e⟩
  · exact ⟨by unfold hlF; rw [if_pos a]; exact d, wdF_e (.inl ⟨by omega, e⟩), hbF_e (.inl ⟨by omega, c⟩), by omega⟩
  · exact ⟨by unfold hlF; rw [if_neg (by omega), if_pos ⟨a2, a3⟩]; exact d, wdF_e (.inr (.inl ⟨by omega, e⟩)), hbF_e (.inr (.inl ⟨by omega, c⟩)), by omega⟩
  · exact ⟨by unfold hlF; rw [if_neg (by omega), if_neg (by omega)]; exact d, wdF_e (.inr (.inr ⟨by omega, e⟩)), hbF_e (.inr (.inr ⟨by omega, c⟩)), by omega⟩

noncomputable def S1 (G : Int → Int) (T : Int) (L : Int → Int) (n c : Int) (k : Nat) : List Int := ((List.range k).map (fun i : Nat => byw (stm G T L ((i : Int) * c) (mnI n (((i : Int) + 1) * c))))).flatten
theorem S1_0 {G L : Int → Int} {T n c k : Int} (h : k ≤ 0) : S1 G T L n c k.toNat = [] := by
  rw [show k.toNat = 0 by omega]
  rfl
theorem S1_s {G L : Int → Int} {T n c k m a b : Int} (h : 0 ≤ k) (e : m = k + 1) (ha : a = k * c) (hb : b = mnI n ((k + 1) * c)) : S1 G T L n c m.toNat = S1 G T L n c k.toNat ++ byw (stm G T L a b) := by
  subst e ha hb
  unfold S1
  rw [show (k + 1).toNat = k.toNat + 1 by omega, List.range_succ, List.map_append, List.flatten_append, List.map_cons, List.map_nil, List.flatten_cons, List.flatten_nil, List.append_nil, show ((k.toNat : Nat) : Int) = k by omega]
theorem S1_1 {G L : Int → Int} {T n : Int} (h : n < 1024) : S1 G T L n n (1 : Int).toNat = F1 G T L n := by
  unfold F1
  rw [if_pos h]
  show byw (stm G T L (((0 : Nat) : Int) * n) (mnI n ((((0 : Nat) : Int) + 1) * n))) ++ [] = _
  rw [mnI_l (by omega), show ((0 : Nat) : Int) * n = 0 by omega, List.append_nil]
theorem S1_4 {G L : Int → Int} {T n c : Int} (h : 1024 ≤ n) (hc : c = (n + 3) / 4) : N4 G L c (3 : Int).toNat ++ S1 G T L n c (4 : Int).toNat = F1 G T L n := by
  subst hc
  unfold F1 F4
  rw [if_neg (by omega), S1_s (k := 3) (m := 4) (a := 3 * ((n + 3) / 4)) (b := n) (by decide) rfl rfl (by rw [mnI_l (by omega)])]
  congr 2
  unfold S1 S4
  congr 1
  refine List.map_congr_left (fun i hi => ?_)
  have hi := List.mem_range.mp hi
  have hi : i < 3 := hi
  rw [mnI_r (by
    rcases (show i = 0 ∨ i = 1 ∨ i = 2 by omega) with q | q | q <;> rw [q] <;> omega)]
  congr 2
  rw [Int.add_mul, Int.one_mul]
theorem PSZ_c {G L : Int → Int} {a b r : Int} (h : PSZ G L a b r) (hc : ∀ k, a ≤ k → k < b → G (L k) ≠ 0) : r = z1F G L a b := by
  rcases h with ⟨_, k, x, y, z⟩ | ⟨q, _⟩
  · exact absurd z (hc k x y)
  · unfold z1F
    omega
theorem HPW {n w : Int} (h : w = 10 ∧ n < 1024 ∨ w = 14 ∧ n < 16384 ∨ w = 18 ∧ n < 262144) : n < p2 w := by
  rcases h with ⟨q, r⟩ | ⟨q, r⟩ | ⟨q, r⟩
  · rw [q, show p2 10 = 1024 by decide]; exact r
  · rw [q, show p2 14 = 16384 by decide]; exact r
  · rw [q, show p2 18 = 262144 by decide]; exact r
theorem slI_4 {l : Int} (h : 0 ≤ l ∧ l ≤ 3) : slI l 2 = 4 * l := by
  rw [slI_v (by decide) ⟨by rw [show p2 2 = 4 by decide]; omega, by rw [show p2 2 = 4 by decide]; omega⟩, show p2 2 = 4 by decide]
  omega


end
section
/-! 19o -/
section LCG
variable {G H L M : Int → Int} {T n a b d : Int}
theorem z1F_cg (hG : ∀ i, 0 ≤ i → i < 256 → G i = H i) (hL : ∀ k, 0 ≤ k → k < n → L k = M k ∧ 0 ≤ L k ∧ L k < 256) (ha : 0 ≤ a) (hb : b ≤ n) : z1F G L a b = z1F H M a b := by
  unfold z1F
  rw [szF_cg hG (fun k x y => hL k (by omega) (by omega))]
theorem STZ_cg (hG : ∀ i, 0 ≤ i → i < 256 → G i = H i) (hL : ∀ k, 0 ≤ k → k < n → L k = M k ∧ 0 ≤ L k ∧ L k < 256) : STZ G L n = STZ H M n := by
  by_cases q : n < 1024
  · rw [STZ_1 q, STZ_1 q]
    exact z1F_cg hG hL (Int.le_refl 0) (Int.le_refl n)
  · rw [STZ_4 (by omega), STZ_4 (by omega), z1F_cg hG hL (a := 0) (b := (n + 3) / 4) (by omega) (by omega), z1F_cg hG hL (a := (n + 3) / 4) (b := 2 * ((n + 3) / 4)) (by omega) (by omega), z1F_cg hG hL (a := 2 * ((n + 3) / 4)) (b := 3 * ((n + 3) / 4)) (by omega) (by omega), z1F_cg hG hL (a := 3 * ((n + 3) / 4)) (b := n) (by omega) (by omega)]
theorem CZN_cg (hG : ∀ i, 0 ≤ i → i < 256 → G i = H i) (hL : ∀ k, 0 ≤ k → k < n → L k = M k ∧ 0 ≤ L k ∧ L k < 256) : CZN G L n d = CZN H M n d := by
  have e : (∃ k, 0 ≤ k ∧ k < n ∧ G (L k) = 0) ↔ (∃ k, 0 ≤ k ∧ k < n ∧ H (M k) = 0) := ⟨fun ⟨k, x, y, z⟩ => ⟨k, x, y, by have h := hL k x y; rw [← h.1, ← hG _ h.2.1 h.2.2]; exact z⟩, fun ⟨k, x, y, z⟩ => ⟨k, x, y, by have h := hL k x y; rw [hG _ h.2.1 h.2.2, h.1]; exact z⟩⟩
  unfold CZN
  rw [STZ_cg hG hL]
  by_cases q : ∃ k, 0 ≤ k ∧ k < n ∧ G (L k) = 0
  · rw [if_pos q, if_pos (e.mp q)]
  · rw [if_neg q, if_neg (fun z => q (e.mpr z))]
theorem F1_cg (hG : ∀ i, 0 ≤ i → i < 256 → G i = H i) (hn : 0 ≤ n) (hL : ∀ k, 0 ≤ k → k < n → L k = M k ∧ 0 ≤ L k ∧ L k < 256) : F1 G T L n = F1 H T M n := by
  unfold F1
  by_cases q : n < 1024
  · rw [if_pos q, if_pos q, stm_cg hG hn (fun k x y => hL k x y)]
  · rw [if_neg q, if_neg q]
    have s : ∀ i : Nat, i < 3 → (0 : Int) ≤ (i : Int) * ((n + 3) / 4) ∧ (i : Int) * ((n + 3) / 4) + (n + 3) / 4 ≤ n := fun i hi => by
      rcases (show i = 0 ∨ i = 1 ∨ i = 2 by omega) with r | r | r <;> rw [r] <;> omega
    unfold F4
    congr 1
    · unfold N4
      congr 1
      refine List.map_congr_left (fun i hi => ?_)
      have k := s i (List.mem_range.mp hi)
      rw [z1F_cg hG hL k.1 k.2]
    · congr 1
      · unfold S4
        congr 1
        refine List.map_congr_left (fun i hi => ?_)
        have k := s i (List.mem_range.mp hi)
        rw [stm_cg hG (by omega) (fun x y z => hL x (by omega) (by omega))]
      · rw [stm_cg hG (by omega) (fun x y z => hL x (by omega) (by omega))]
end LCG
theorem hfG_cg {L M : Int → Int} {n : Int} (h : ∀ k, 0 ≤ k → k < n → L k = M k) : hfG L n = hfG M n ∧ hfT L n = hfT M n := by
  unfold hfG hfT
  rw [ctF_cg h]
  exact ⟨rfl, rfl⟩
theorem ALK_cg {L M : Int → Int} {n : Int} (h : ∀ k, 0 ≤ k → k < n → L k = M k) (q : ALK L n) : ALK M n := ⟨q.1, fun k a b => by rw [← h k a b, ← h 0 (Int.le_refl 0) q.1]; exact q.2 k a b⟩
section LWG
variable {L M : Int → Int} {n : Int} {cod : Option (Int × (Int → Int))}
theorem l1F_cg (h : ∀ k, 0 ≤ k → k < n → L k = M k) : l1F L n = l1F M n := by
  have a : ALK L n ↔ ALK M n := ⟨ALK_cg h, ALK_cg (fun k x y => (h k x y).symm)⟩
  unfold l1F
  by_cases q : ALK L n ∧ hN n + 1 < hN n + n
  · rw [if_pos q, if_pos ⟨a.mp q.1, q.2⟩]
  · rw [if_neg q, if_neg (fun z => q ⟨a.mpr z.1, z.2⟩)]
theorem l3F_cg {x : LS2} (h : ∀ k, 0 ≤ k → k < n → L k = M k ∧ 0 ≤ L k ∧ L k < 256) : l3F cod L n x = l3F cod M n x := by
  unfold l3F
  cases cod with
  | none => rfl
  | some c =>
    show (if 0 < CZN c.2 L n 0 ∧ CZN c.2 L n 0 < x.1 then (CZN c.2 L n 0, 3) else x) = (if 0 < CZN c.2 M n 0 ∧ CZN c.2 M n 0 < x.1 then (CZN c.2 M n 0, 3) else x)
    rw [CZN_cg (H := c.2) (fun _ _ _ => rfl) h]
theorem dscF_cg (h : ∀ k, 0 ≤ k → k < n → L k = M k) : dscF L n = dscF M n := by
  unfold dscF
  rw [(hfG_cg h).1, (hfG_cg h).2]
theorem l2F_cg {x : LS2} (h : ∀ k, 0 ≤ k → k < n → L k = M k ∧ 0 ≤ L k ∧ L k < 256) : l2F L n x = l2F M n x := by
  have h1 : ∀ k, 0 ≤ k → k < n → L k = M k := fun k a b => (h k a b).1
  have a : ALK L n ↔ ALK M n := ⟨ALK_cg h1, ALK_cg (fun k x y => (h1 k x y).symm)⟩
  have c : ∀ d, CZN (hfG L n) L n d = CZN (hfG M n) M n d := fun d => by
    rw [(hfG_cg h1).1]
    exact CZN_cg (fun _ _ _ => rfl) h
  unfold l2F
  rw [dscF_cg h1]
  by_cases q : 1 < n ∧ ¬ ALK L n
  · rw [if_pos q, if_pos ⟨q.1, fun z => q.2 (a.mpr z)⟩]
    cases dscF M n with
    | none => rfl
    | some D =>
      dsimp only
      rw [c]
  · rw [if_neg q, if_neg (fun z => q ⟨z.1, fun y => z.2 (a.mp y)⟩)]
theorem lwF_cg (h : ∀ k, 0 ≤ k → k < n → L k = M k ∧ 0 ≤ L k ∧ L k < 256) : lwF cod L n = lwF cod M n := by
  unfold lwF
  rw [l1F_cg (fun k a b => (h k a b).1), l3F_cg h, l2F_cg h]
end LWG


end
section
/-! 19q -/
def cdO (t : Int) (g : Int → Int) : Option (Int × (Int → Int)) := if 0 < t then some (t, cutP 256 g) else none
theorem cdO_y {t : Int} {g : Int → Int} (h : 0 < t) : cdO t g = some (t, cutP 256 g) := if_pos h
theorem cdO_n {t : Int} {g : Int → Int} (h : t ≤ 0) : cdO t g = none := if_neg (by omega)
theorem cut256 {g h : Int → Int} (e : ∀ i, 0 ≤ i → i < 256 → g i = h i) : cutP 256 g = cutP 256 h := by
  funext i
  unfold cutP
  by_cases q : 0 ≤ i ∧ i < 256
  · rw [if_pos q, if_pos q, e i q.1 q.2]
  · rw [if_neg q, if_neg q]
theorem cdO_cg {t t2 : Int} {g g2 : Int → Int} (e : t = t2) (h : ∀ i, 0 ≤ i → i < 256 → g i = g2 i) : cdO t g = cdO t2 g2 := by
  subst e
  unfold cdO
  rw [cut256 h]
def NCD (t : Int) (g L : Int → Int) (n : Int) : Prop := t ≤ 0 ∨ ∃ k, 0 ≤ k ∧ k < n ∧ g (L k) = 0
theorem hN_e {n r : Int} (h : n < 32 ∧ r = 1 ∨ 32 ≤ n ∧ n < 4096 ∧ r = 2 ∨ 4096 ≤ n ∧ r = 3) : r = hN n := by
  unfold hN
  rcases h with ⟨a, b⟩ | ⟨a, c, b⟩ | ⟨a, b⟩
  · rw [if_pos a, b]
  · rw [if_neg (by omega), if_pos c, b]
  · rw [if_neg (by omega), if_neg (by omega), b]
theorem rwN_e {n k r : Int} (h : n < 32 ∧ r = n * 8 + k ∨ 32 ≤ n ∧ n < 4096 ∧ r = n * 16 + 4 + k ∨ 4096 ≤ n ∧ r = n * 16 + 12 + k) : r = rwN n k := by
  unfold rwN
  rcases h with ⟨a, b⟩ | ⟨a, c, b⟩ | ⟨a, b⟩
  · rw [if_pos a, b]
  · rw [if_neg (by omega), if_pos c, b]
  · rw [if_neg (by omega), if_neg (by omega), b]
theorem hbF_r {l : Int} : 3 ≤ hbF l ∧ hbF l ≤ 5 := by
  unfold hbF
  split
  · omega
  · split <;> omega
section LIT
variable {L : Int → Int} {n : Int} {cod : Option (Int × (Int → Int))} {x : LS2}
theorem nALK (h : n ≤ 0 ∨ DIFF L n) : ¬ ALK L n := fun q => by
  rcases h with h | ⟨k, a, b, c⟩
  · have := q.1
    omega
  · exact c (q.2 k a b)
theorem l1F_y {hd : Int} (h : ALK L n) (e : hd = hN n) (q : hd + 1 < hd + n) : l1F L n = ((hd + 1, 1) : LS2) := by
  subst e
  exact if_pos ⟨h, q⟩
theorem l1F_n {hd : Int} (e : hd = hN n) (h : ¬ ALK L n ∨ hd + n ≤ hd + 1) : l1F L n = ((hd + n, 0) : LS2) := by
  subst e
  exact if_neg (fun q => by
    rcases h with h | h
    · exact h q.1
    · have := q.2
      omega)
theorem l3F_some {T : Int} {G : Int → Int} : l3F (some (T, G)) L n x = if 0 < CZN G L n 0 ∧ CZN G L n 0 < x.1 then (CZN G L n 0, 3) else x := rfl
theorem CZN_cut {g : Int → Int} {d : Int} (hr : ∀ k, 0 ≤ k → k < n → 0 ≤ L k ∧ L k < 256) : CZN (cutP 256 g) L n d = CZN g L n d := CZN_cg (fun i a b => cutP_in ⟨a, b⟩) (fun k a b => ⟨rfl, hr k a b⟩)
theorem STZ_cut {g : Int → Int} (hr : ∀ k, 0 ≤ k → k < n → 0 ≤ L k ∧ L k < 256) : STZ (cutP 256 g) L n = STZ g L n := STZ_cg (fun i a b => cutP_in ⟨a, b⟩) (fun k a b => ⟨rfl, hr k a b⟩)
theorem F1_cut {g : Int → Int} {T : Int} (hn : 0 ≤ n) (hr : ∀ k, 0 ≤ k → k < n → 0 ≤ L k ∧ L k < 256) : F1 (cutP 256 g) T L n = F1 g T L n := F1_cg (fun i a b => cutP_in ⟨a, b⟩) hn (fun k a b => ⟨rfl, hr k a b⟩)
section L3
variable {t b l r r2 m k : Int} {g : Int → Int}
theorem l3_y (ht : 0 < t) (hc : ∀ k, 0 ≤ k → k < n → g (L k) ≠ 0) (hr : ∀ k, 0 ≤ k → k < n → 0 ≤ L k ∧ L k < 256) (hb : b = 0 + STZ g L n) (hh : HOF n b l) (h0 : 0 ≤ l) (e : r = hbF l) (e2 : r2 = hbF l) (hp : 0 ≤ b) (h1 : r + b < m) : l3F (cdO t g) L n ((m, k) : LS2) = ((r2 + b, 3) : LS2) := by
  have z : CZN g L n 0 = hbF l + b := by
    rw [hb] at hh ⊢
    exact HOF_z hh hc h0
  have w := hbF_r (l := l)
  rw [cdO_y ht, l3F_some, CZN_cut hr, z, if_pos ⟨by omega, by show hbF l + b < m; omega⟩, e2]
theorem l3_0 (ht : t ≤ 0) : l3F (cdO t g) L n x = x := by
  rw [cdO_n ht]
  rfl
theorem l3_z (hr : ∀ k, 0 ≤ k → k < n → 0 ≤ L k ∧ L k < 256) (h : CZN g L n 0 = 0 ∨ x.1 ≤ CZN g L n 0) : l3F (cdO t g) L n x = x := by
  by_cases ht : 0 < t
  · rw [cdO_y ht, l3F_some, CZN_cut hr, if_neg (fun q => by have := q.1; have := q.2; omega)]
  · exact l3_0 (by omega)
theorem l3_u (hr : ∀ k, 0 ≤ k → k < n → 0 ≤ L k ∧ L k < 256) (h : t ≤ 0 ∨ ∃ k, 0 ≤ k ∧ k < n ∧ g (L k) = 0) : l3F (cdO t g) L n x = x := by
  rcases h with h | h
  · exact l3_0 h
  · exact l3_z hr (.inl (CZN_u h))
theorem l3_m (hr : ∀ k, 0 ≤ k → k < n → 0 ≤ L k ∧ L k < 256) (hb : b = 0 + STZ g L n) (hh : HOF n b l) (h0 : l < 0) (h1 : b < 262144) : l3F (cdO t g) L n x = x := l3_z hr (.inl (HOF_n (d := 0) (G := g) (by rw [← hb]; exact hh) (by omega) h0))
theorem l3_b (hc : ∀ k, 0 ≤ k → k < n → g (L k) ≠ 0) (hr : ∀ k, 0 ≤ k → k < n → 0 ≤ L k ∧ L k < 256) (hb : b = 0 + STZ g L n) (hh : HOF n b l) (h0 : 0 ≤ l) (e : r = hbF l) (h1 : m ≤ r + b) : l3F (cdO t g) L n ((m, k) : LS2) = ((m, k) : LS2) := by
  have z : CZN g L n 0 = hbF l + b := by
    rw [hb] at hh ⊢
    exact HOF_z hh hc h0
  exact l3_z hr (.inr (by rw [z]; show m ≤ hbF l + b; omega))
end L3
theorem lzN_cg {a b : Int → Int} : ∀ {n : Nat}, (∀ i, 0 ≤ i → i < (n : Int) → a i = b i) → lzN a n = lzN b n
  | 0, _ => rfl
  | n + 1, h => by
    show (if a (n : Int) ≠ 0 then (n : Int) else lzN a n) = (if b (n : Int) ≠ 0 then (n : Int) else lzN b n)
    rw [h n (by omega) (by omega), lzN_cg (fun i x y => h i x (by omega))]
theorem lzN_lt {a : Int → Int} : ∀ {n : Nat}, lzN a n ≤ (n : Int)
  | 0 => Int.le_refl 0
  | n + 1 => by
    show (if a (n : Int) ≠ 0 then (n : Int) else lzN a n) ≤ ((n + 1 : Nat) : Int)
    have ih := lzN_lt (a := a) (n := n)
    split <;> omega
theorem hfG_of {dr : Int → Int} (h : ∀ s, 0 ≤ s → s < 256 → dr s = dpH (hvF (ctF L n) (LBT (ctF L n))) s) : ∀ i, 0 ≤ i → i < 256 → dr i = hfG L n i := fun i a b => by
  rw [h i a b]
  exact (cutP_in (P := fun s => dpH (hvF (ctF L n) (LBT (ctF L n))) s) ⟨a, b⟩).symm
theorem dscF_of {dr : Int → Int} {t : Int} (g : ∀ i, 0 ≤ i → i < 256 → dr i = hfG L n i) (e : t = hfT L n) : DSC (wtF dr t) (lzN dr 256) = dscF L n := by
  unfold dscF
  rw [lzN_cg (n := 256) (b := hfG L n) (fun i a b => g i a (by omega)), e]
  have q := lzN_lt (a := hfG L n) (n := 256)
  exact DSC_cg (fun i a b => by unfold wtF; rw [g i a (by omega)])
theorem l2F_some {D : List Int} (h1 : 1 < n) (h2 : ¬ ALK L n) (hD : dscF L n = some D) : l2F L n x = if 0 < CZN (hfG L n) L n (D.length : Int) ∧ CZN (hfG L n) L n (D.length : Int) < x.1 then (CZN (hfG L n) L n (D.length : Int), 2) else x := by
  unfold l2F
  rw [if_pos ⟨h1, h2⟩]
  simp only [hD]
  by_cases q : 0 < CZN (hfG L n) L n (D.length : Int) ∧ CZN (hfG L n) L n (D.length : Int) < x.1
  · rw [if_pos q, if_pos q]
  · rw [if_neg q, if_neg q]
theorem l2F_none (h1 : 1 < n) (h2 : ¬ ALK L n) (hD : dscF L n = none) : l2F L n x = x := by
  unfold l2F
  rw [if_pos ⟨h1, h2⟩]
  simp only [hD]
theorem lw_n {m k : Int} (h : l3F cod L n (l1F L n) = ((m, k) : LS2)) (q : n ≤ 1 ∨ ALK L n) : lwF cod L n = k := by
  unfold lwF
  rw [h]
  unfold l2F
  rw [if_neg (fun z => by
    rcases q with q | q
    · have := z.1
      omega
    · exact z.2 q)]
theorem lw_0 {m k : Int} (h : l3F cod L n (l1F L n) = ((m, k) : LS2)) (h1 : 1 < n) (h2 : ¬ ALK L n) (hD : dscF L n = none) : lwF cod L n = k := by
  unfold lwF
  rw [h, l2F_none h1 h2 hD]
section L2
variable {m k r b l : Int} {dr : Int → Int} {D : List Int}
theorem CZN_dr (hg : ∀ i, 0 ≤ i → i < 256 → dr i = hfG L n i) (hr : ∀ k, 0 ≤ k → k < n → 0 ≤ L k ∧ L k < 256) {d : Int} : CZN (hfG L n) L n d = CZN dr L n d := CZN_cg (fun i a b => (hg i a b).symm) (fun k a b => ⟨rfl, hr k a b⟩)
theorem STZ_dr (hg : ∀ i, 0 ≤ i → i < 256 → dr i = hfG L n i) (hr : ∀ k, 0 ≤ k → k < n → 0 ≤ L k ∧ L k < 256) : STZ (hfG L n) L n = STZ dr L n := STZ_cg (fun i a b => (hg i a b).symm) (fun k a b => ⟨rfl, hr k a b⟩)
theorem lw_y (h : l3F cod L n (l1F L n) = ((m, k) : LS2)) (h1 : 1 < n) (h2 : ¬ ALK L n) (hD : dscF L n = some D) (hg : ∀ i, 0 ≤ i → i < 256 → dr i = hfG L n i) (hr : ∀ k, 0 ≤ k → k < n → 0 ≤ L k ∧ L k < 256) (hc : ∀ k, 0 ≤ k → k < n → dr (L k) ≠ 0) (hb : b = (D.length : Int) + STZ dr L n) (hh : HOF n b l) (h0 : 0 ≤ l) (e : r = hbF l) (hp : 0 ≤ b) (hl : r + b < m) : lwF cod L n = 2 := by
  have z : CZN dr L n (D.length : Int) = hbF l + b := by
    rw [hb] at hh ⊢
    exact HOF_z hh hc h0
  have w := hbF_r (l := l)
  unfold lwF
  rw [h, l2F_some h1 h2 hD, CZN_dr hg hr, z, if_pos ⟨by omega, by show hbF l + b < m; omega⟩]
theorem lw_k (h : l3F cod L n (l1F L n) = ((m, k) : LS2)) (h1 : 1 < n) (h2 : ¬ ALK L n) (hD : dscF L n = some D) (hg : ∀ i, 0 ≤ i → i < 256 → dr i = hfG L n i) (hr : ∀ k, 0 ≤ k → k < n → 0 ≤ L k ∧ L k < 256) (hc : ∀ k, 0 ≤ k → k < n → dr (L k) ≠ 0) (hb : b = (D.length : Int) + STZ dr L n) (hh : HOF n b l) (hx : l < 0 ∧ b < 262144 ∨ 0 ≤ l ∧ r = hbF l ∧ m ≤ r + b) : lwF cod L n = k := by
  unfold lwF
  rw [h, l2F_some h1 h2 hD, CZN_dr hg hr]
  rcases hx with ⟨a, c⟩ | ⟨a, c, d⟩
  · rw [HOF_n (d := (D.length : Int)) (G := dr) (by rw [← hb]; exact hh) (by omega) a, if_neg (fun q => by have := q.1; omega)]
  · have z : CZN dr L n (D.length : Int) = hbF l + b := by
      rw [hb] at hh ⊢
      exact HOF_z hh hc a
    rw [z, if_neg (fun q => by have w : hbF l + b < m := q.2; omega)]
end L2
theorem l1F_2 : (l1F L n).2 = 1 ∨ (l1F L n).2 = 0 := by
  unfold l1F
  by_cases h : ALK L n ∧ hN n + 1 < hN n + n
  · rw [if_pos h]; exact .inl rfl
  · rw [if_neg h]; exact .inr rfl
theorem l2F_2 : (l2F L n x).2 = 2 ∨ l2F L n x = x := by
  unfold l2F
  by_cases h : 1 < n ∧ ¬ ALK L n
  · rw [if_pos h]
    cases dscF L n with
    | none => exact .inr rfl
    | some D =>
      dsimp only
      by_cases q : 0 < CZN (hfG L n) L n (D.length : Int) ∧ CZN (hfG L n) L n (D.length : Int) < x.1
      · rw [if_pos q]; exact .inl rfl
      · rw [if_neg q]; exact .inr rfl
  · rw [if_neg h]; exact .inr rfl
theorem lw3 (h : lwF cod L n = 3) : ∃ T G, cod = some (T, G) ∧ 0 < CZN G L n 0 := by
  have a := l2F_2 (L := L) (n := n) (x := l3F cod L n (l1F L n))
  have b : (l2F L n (l3F cod L n (l1F L n))).2 = 3 := h
  have c : (l3F cod L n (l1F L n)).2 = 3 := by
    rcases a with a | a
    · rw [a] at b; exact absurd b (by decide)
    · rw [a] at b; exact b
  have d := l1F_2 (L := L) (n := n)
  cases cod with
  | none =>
    have c : (l1F L n).2 = 3 := c
    omega
  | some p =>
    obtain ⟨T, G⟩ := p
    rw [l3F_some] at c
    by_cases q : 0 < CZN G L n 0 ∧ CZN G L n 0 < (l1F L n).1
    · exact ⟨T, G, rfl, q.1⟩
    · rw [if_neg q] at c
      omega
theorem lw3_l {t b l : Int} {g : Int → Int} (h : lwF (cdO t g) L n = 3) (hr : ∀ k, 0 ≤ k → k < n → 0 ≤ L k ∧ L k < 256) (hb : b = 0 + STZ g L n) (hh : HOF n b l) (h1 : b < 262144) : 0 ≤ l ∧ cdO t g = some (t, cutP 256 g) := by
  obtain ⟨T, G, e, q⟩ := lw3 h
  by_cases ht : 0 < t
  · rw [cdO_y ht] at e ⊢
    have e := Option.some.inj e
    have e2 : cutP 256 g = G := congrArg Prod.snd e
    rw [← e2, CZN_cut hr] at q
    refine ⟨?_, rfl⟩
    by_cases w : 0 ≤ l
    · exact w
    · rw [HOF_n (d := 0) (G := g) (by rw [← hb]; exact hh) (by omega) (by omega)] at q
      omega
  · rw [cdO_n (by omega)] at e
    exact absurd e (by simp)

def hdK (k n B : Int) : List Int := nb (HDV k (hlF n B) n B (wdF (hlF n B))) (hbF (hlF n B))
theorem hdK_of {k b l : Int} (h : HOF n b l) (h0 : 0 ≤ l) : nb (HDV k l n b (wdF l)) (hbF l) = hdK k n b := by
  rw [HOF_y h h0]
  rfl
noncomputable def hd2 (L : Int → Int) (n k : Int) : List Int := if k = 2 then hdK 2 n ((((dscF L n).getD []).length : Int) + STZ (hfG L n) L n) ++ (dscF L n).getD [] else []
noncomputable def hdL (cod : Option (Int × (Int → Int))) (L : Int → Int) (n k : Int) : List Int := if k = 2 then hd2 L n 2 else match cod with
  | none => []
  | some (_, G) => hdK 3 n (STZ G L n)
theorem hd2_n {k : Int} (h : k ≠ 2) : hd2 L n k = [] := if_neg h
theorem hd2_y {D : List Int} (hD : dscF L n = some D) : hd2 L n 2 = hdK 2 n ((D.length : Int) + STZ (hfG L n) L n) ++ D := by
  unfold hd2
  rw [if_pos rfl]
  simp only [hD, Option.getD_some]
theorem hdL_2 : hdL cod L n 2 = hd2 L n 2 := if_pos rfl
theorem hdL_3 {T : Int} {G : Int → Int} : hdL (some (T, G)) L n 3 = hdK 3 n (STZ G L n) := rfl
theorem ltB_0 : ltB cod L n 0 = nb (rwN n 0) (hN n) ++ (List.range n.toNat).map (fun i : Nat => L (i : Int)) := if_pos rfl
theorem ltB_1 : ltB cod L n 1 = nb (rwN n 1) (hN n) ++ [L 0] := rfl
theorem ltC_2 : ltC cod L n 2 = some (hfT L n, hfG L n) := if_pos rfl
theorem ltC_n {k : Int} (h : k ≠ 2) : ltC cod L n k = cod := if_neg h
theorem lt_end {T k : Int} {G : Int → Int} (h : k = 2 ∨ k = 3) (hc : ltC cod L n k = some (T, G)) : ltB cod L n k = hdL cod L n k ++ F1 G T L n := by
  rcases h with h | h
  · subst h
    rw [ltC_2] at hc
    have hc := Option.some.inj hc
    have e1 : hfT L n = T := congrArg Prod.fst hc
    have e2 : hfG L n = G := congrArg Prod.snd hc
    rw [← e1, ← e2, hdL_2]
    show hdK 2 n ((((dscF L n).getD []).length : Int) + STZ (hfG L n) L n) ++ ((dscF L n).getD [] ++ F1 (hfG L n) (hfT L n) L n) = (hdK 2 n ((((dscF L n).getD []).length : Int) + STZ (hfG L n) L n) ++ (dscF L n).getD []) ++ F1 (hfG L n) (hfT L n) L n
    rw [List.append_assoc]
  · subst h
    rw [ltC_n (by decide)] at hc
    rw [hc]
    rfl
theorem cdO_hf {t : Int} {g : Int → Int} (ht : 0 < t) (e : t = hfT L n) (hg : ∀ i, 0 ≤ i → i < 256 → g i = hfG L n i) : cdO t g = ltC cod L n 2 := by
  rw [cdO_y ht, ltC_2, e, cut256 hg]
  congr 2
  unfold hfG
  exact cut256 (fun i a b => cutP_in ⟨a, b⟩)

theorem DRF_X {r m : Int} {o : Option (List Int)} {g : Int → Int} (h : DRF r o g m) : MDX g m := by
  rcases h with ⟨_, _, h⟩ | ⟨C, _, h, _⟩
  · exact h
  · exact ⟨C, h⟩
theorem DRF_D {r m : Int} {o : Option (List Int)} {g : Int → Int} (h : DRF r o g m) (h0 : 0 < r) : ∃ D, o = some D ∧ r = (D.length : Int) ∧ MBY g m D := by
  rcases h with ⟨a, _, _⟩ | ⟨C, a, b, c, d⟩
  · omega
  · have l := b.1
    refine ⟨byw C, a, ?_, C, b, by omega, rfl⟩
    rw [byw_len]
    omega
theorem DRF_n {r m : Int} {o : Option (List Int)} {g : Int → Int} (h : DRF r o g m) (h0 : r ≤ 0) : o = none := by
  rcases h with ⟨_, a, _⟩ | ⟨C, a, b, c, d⟩
  · exact a
  · omega

theorem sc_rng (hr : ∀ k, 0 ≤ k → k < n → 0 ≤ L k ∧ L k < 256) : sc L 0 n = (List.range n.toNat).map (fun i : Nat => L (i : Int)) := by
  rw [sc_e]
  unfold sc0
  rw [Int.sub_zero]
  refine List.map_congr_left (fun i hi => ?_)
  have hi := List.mem_range.mp hi
  have q := hr (i : Int) (by omega) (by omega)
  show u8 (L (0 + (i : Int))) = L (i : Int)
  rw [Int.zero_add]
  exact u8_id (by omega)
theorem lt_pl {k j : Int} {X : List Int} (hr : ∀ k, 0 ≤ k → k < n → 0 ≤ L k ∧ L k < 256) (hX : X = nb (rwN n k) (hN n) ++ sc L 0 j) (h : k = 0 ∧ j = n ∨ k = 1 ∧ j = 1 ∧ 1 ≤ n) : X = ltB cod L n k := by
  rcases h with ⟨a, b⟩ | ⟨a, b, c⟩
  · subst a b
    rw [hX, ltB_0, sc_rng hr]
  · subst a b
    rw [hX, ltB_1, sc_rng (n := 1) (fun k x y => hr k x (by omega))]
    rfl
end LIT

def LTP (cod : Option (Int × (Int → Int))) (L : Int → Int) (n r t : Int) (g mg : Int → Int) (mb : Int) (X : List Int → Prop) : Prop := r = lwF cod L n ∧ X (ltB cod L n r) ∧ cdO t g = ltC cod L n r ∧ MDX mg mb


end
section
/-! 19r -/
theorem lkF_LM {kn is_ : Int → Int} {but : Int} : ∀ m : Nat, LM kn is_ (m : Int) but (lkF kn is_ but m)
  | 0 => fun k a b => absurd b (by omega)
  | m + 1 => by
    have q := lkF_n (kn := kn) (is_ := is_) (but := but) m
    refine LM_next (lkF_LM m) (by omega) (fun a b c => ?_) (fun a => ?_)
    · rcases q with ⟨_, q⟩ | ⟨q, e⟩
      · rw [q]; exact ⟨by omega, Int.le_refl _⟩
      · rw [e]
        by_cases z : lkF kn is_ but m < 0
        · exact absurd ⟨a, b, c, .inl z⟩ q
        · refine ⟨by omega, ?_⟩
          by_cases y : kn (m : Int) < kn (lkF kn is_ but m)
          · exact absurd ⟨a, b, c, .inr y⟩ q
          · omega
    · rcases q with ⟨⟨_, _, _, q⟩, e⟩ | ⟨_, e⟩
      · rw [e]; exact ⟨by omega, by omega⟩
      · rw [e]; exact ⟨a, Int.le_refl _⟩
section HTC
variable {h : Int → Int} {tot : Int}
theorem HTR_1 {kn is_ : Int → Int} {n : Int} (ho : HTO h kn is_ n) (ht : TR kn is_ n tot) (hk : ∀ i, 0 ≤ i → i < 256 → kn i = h i) (h2 : 256 < n ∨ TWO h ∧ n = 256 ∧ ∀ i, 0 ≤ i → i < 256 → is_ i < 0) : (HTR h = (kn, is_, n) ∧ 256 < n ∧ (∀ k, 0 ≤ k → k < n → 0 < kn k → is_ k < 0 → k = n - 1)) ∨ (n ≤ 510 ∧ ∃ kc ic, HTO h kc ic (n + 1) ∧ TR kc ic (n + 1) tot ∧ ∀ i, 0 ≤ i → i < 256 → kc i = h i) := by
  have B := TR_B ht
  have n0 : ((n.toNat : Nat) : Int) = n := by omega
  have a1 := lkF_LM (kn := kn) (is_ := is_) (but := -1) n.toNat
  rw [n0] at a1
  obtain ⟨o, hqo⟩ : ∃ o, lkF kn is_ (-1) n.toNat = o := ⟨_, rfl⟩
  rw [hqo] at a1
  have a2 := lkF_LM (kn := kn) (is_ := is_) (but := o) n.toNat
  rw [n0] at a2
  obtain ⟨t, hqt⟩ : ∃ t, lkF kn is_ o n.toNat = t := ⟨_, rfl⟩
  rw [hqt] at a2
  by_cases c : t < 0
  · left
    have hn : 256 < n := by
      rcases h2 with q | ⟨⟨x, y, x0, x1, y0, y1, xy, hx, hy⟩, q, hi⟩
      · exact q
      · exfalso
        by_cases e : x = o
        · have := (a2 y y0 (by omega) (fun z => xy (by omega)) (by rw [hk y y0 y1]; exact hy) (hi y y0 y1)).1
          omega
        · have := (a2 x x0 (by omega) e (by rw [hk x x0 x1]; exact hx) (hi x x0 x1)).1
          omega
    exact ⟨HTO_e ho hqo hqt c, hn, TR_unique ht hn a2 c⟩
  · right
    have r := lk_o hqt hqo (by omega) (by omega)
    have e1 := lkF_el (kn := kn) (is_ := is_) (but := -1) n.toNat (by rw [hqo]; exact r.1)
    rw [hqo] at e1
    have e2 := lkF_el (kn := kn) (is_ := is_) (but := o) n.toNat (by rw [hqt]; omega)
    rw [hqt] at e2
    have st := TR_step ht r.1 r.2.1 e1.2.1 e1.2.2 (by omega) r.2.2 e2.2.1 e2.2.2 e2.1 (fun k x y z w => (a1 k x y (by omega) z w).2) (fun k x y z w v => (a2 k x y z w v).2)
    exact ⟨st.1, _, _, HTO_s ho hqo hqt (by omega) rfl rfl, st.2.2, fun i x y => by rw [upd1_o (by omega)]; exact hk i x y⟩
theorem HTR_run : ∀ (f : Nat) (kn is_ : Int → Int) (n : Int), 512 - n ≤ (f : Int) → HTO h kn is_ n → TR kn is_ n tot → (∀ i, 0 ≤ i → i < 256 → kn i = h i) → (256 < n ∨ TWO h ∧ n = 256 ∧ ∀ i, 0 ≤ i → i < 256 → is_ i < 0) → ∃ kc ic N, HTR h = (kc, ic, N) ∧ TR kc ic N tot ∧ 256 < N ∧ (∀ k, 0 ≤ k → k < N → 0 < kc k → ic k < 0 → k = N - 1) ∧ (∀ i, 0 ≤ i → i < 256 → kc i = h i)
  | 0, kn, is_, n, hf, ho, ht, hk, h2 => by
    rcases HTR_1 ho ht hk h2 with ⟨e, a, b⟩ | ⟨a, _⟩
    · exact ⟨kn, is_, n, e, ht, a, b, hk⟩
    · omega
  | f + 1, kn, is_, n, hf, ho, ht, hk, h2 => by
    have B := TR_B ht
    rcases HTR_1 ho ht hk h2 with ⟨e, a, b⟩ | ⟨a, kc, ic, q1, q2, q3⟩
    · exact ⟨kn, is_, n, e, ht, a, b, hk⟩
    · exact HTR_run f kc ic (n + 1) (by omega) q1 q2 q3 (.inl (by omega))
end HTC
theorem mxN_le {d : Int → Int} : ∀ (n : Nat) (i : Int), 0 ≤ i → i < (n : Int) → d i ≤ mxN d n
  | 0, i, a, b => by omega
  | n + 1, i, a, b => by
    show d i ≤ if mxN d n < d (n : Int) then d (n : Int) else mxN d n
    by_cases e : i = (n : Int)
    · rw [e]
      split <;> omega
    · have ih := mxN_le (d := d) n i a (by omega)
      split <;> omega
theorem mxN_ex {d : Int → Int} : ∀ n : Nat, mxN d n = 0 ∨ ∃ i, 0 ≤ i ∧ i < (n : Int) ∧ d i = mxN d n
  | 0 => .inl rfl
  | n + 1 => by
    show (if mxN d n < d (n : Int) then d (n : Int) else mxN d n) = 0 ∨ ∃ i, 0 ≤ i ∧ i < ((n + 1 : Nat) : Int) ∧ d i = if mxN d n < d (n : Int) then d (n : Int) else mxN d n
    by_cases c : mxN d n < d (n : Int)
    · rw [if_pos c]
      exact .inr ⟨(n : Int), by omega, by omega, rfl⟩
    · rw [if_neg c]
      rcases mxN_ex (d := d) n with q | ⟨i, a, b, e⟩
      · exact .inl q
      · exact .inr ⟨i, a, by omega, e⟩
theorem HTR_CI {h : Int → Int} (h0 : ∀ i, 0 ≤ i → i < 256 → 0 ≤ h i) (h2 : TWO h) (hm : mxF h ≤ 11) : CI (dpH h) (mxF h) ∧ ∀ k, (0 : Int) ≤ k → k < 256 → 0 < h k → 1 ≤ dpH h k := by
  have t0 := TR_0 (kn := cutP 256 h) (is_ := fun _ => -1) (fun k a b => by rw [cutP_in ⟨a, b⟩]; exact h0 k a b) (fun _ _ _ => rfl)
  obtain ⟨kc, ic, N, e, t, hN, hu, hk⟩ := HTR_run 256 (cutP 256 h) (fun _ => -1) 256 (by omega) HTO_0 t0 (fun i a b => cutP_in ⟨a, b⟩) (.inr ⟨h2, rfl, fun i _ _ => by decide⟩)
  have hd : ∀ k, dpH h k = dp ic k := fun k => by
    unfold dpH
    rw [e]
  have c := TR_CI (dr := dpH h) (T := mxF h) t hN hu (fun k _ _ => hd k) (fun k a b => mxN_le 256 k a (by omega)) (by
    rcases mxN_ex (d := dpH h) 256 with q | ⟨i, a, b, z⟩
    · refine ⟨0, by omega, by omega, ?_⟩
      have x := mxN_le (d := dpH h) 256 0 (by omega) (by omega)
      have y := dp_nn (is_ := ic) 0
      rw [← hd 0] at y
      show dpH h 0 = mxN (dpH h) 256
      omega
    · exact ⟨i, a, by omega, z⟩) hm
  exact ⟨c.1, fun k a b q => c.2 k a b (by rw [hk k a b]; exact q)⟩
theorem hv_pos {co : Int → Int} {t s : Int} (h : 1 ≤ co s) : 1 ≤ hvF co t s := by
  have p := p2_pos t
  unfold hvF
  exact Int.le_ediv_of_mul_le (by omega) (by omega)
theorem hv_nn {co : Int → Int} {t s : Int} (h : 0 ≤ co s) : 0 ≤ hvF co t s := by
  have p := p2_pos t
  unfold hvF
  exact Int.ediv_nonneg (by omega) (by omega)
theorem ctF_nn {L : Int → Int} {n s : Int} : 0 ≤ ctF L n s := su_nonneg (fun i _ _ => by have := eqs_eq L s i; omega)
theorem ctF_pos {L : Int → Int} {n k s : Int} (a : 0 ≤ k) (b : k < n) (e : L k = s) : 1 ≤ ctF L n s := by
  have q := su_oneR (f := eqs L s) (i := k) (n := n.toNat) (fun i _ _ => by have := eqs_eq L s i; omega) a (by omega)
  have w := eqs_eq L s k
  show 1 ≤ su (eqs L s) n.toNat
  omega
section HFC
variable {L : Int → Int} {n : Int}
theorem hf_CI (hr : ∀ k, 0 ≤ k → k < n → 0 ≤ L k ∧ L k < 256) (hd : DIFF L n) (hm : hfT L n ≤ 11) : CI (hfG L n) (hfT L n) ∧ ∀ k, 0 ≤ k → k < n → hfG L n (L k) ≠ 0 := by
  obtain ⟨k, k0, k1, ne⟩ := hd
  have rk := hr k k0 k1
  have r0 := hr 0 (by omega) (by omega)
  have tw : TWO (hvF (ctF L n) (LBT (ctF L n))) := ⟨L k, L 0, rk.1, rk.2, r0.1, r0.2, ne, by have := hv_pos (t := LBT (ctF L n)) (ctF_pos (L := L) k0 k1 rfl); omega, by have := hv_pos (t := LBT (ctF L n)) (ctF_pos (L := L) (n := n) (k := 0) (by omega) (by omega) rfl); omega⟩
  have c := HTR_CI (h := hvF (ctF L n) (LBT (ctF L n))) (fun i _ _ => hv_nn ctF_nn) tw hm
  refine ⟨CI_congr c.1 (fun i a b => cutP_in (P := fun s => dpH (hvF (ctF L n) (LBT (ctF L n))) s) ⟨a, b⟩), fun j j0 j1 => ?_⟩
  have rj := hr j j0 j1
  have w := c.2 (L j) rj.1 rj.2 (by have := hv_pos (t := LBT (ctF L n)) (ctF_pos (L := L) j0 j1 rfl); omega)
  have e : hfG L n (L j) = dpH (hvF (ctF L n) (LBT (ctF L n))) (L j) := cutP_in (P := fun s => dpH (hvF (ctF L n) (LBT (ctF L n))) s) rj
  omega
end HFC
theorem LBT_cg {a b : Int → Int} (e : ∀ i, 0 ≤ i → i < 256 → a i = b i) : LBT a = LBT b := by
  have k : ∀ t, ∀ i, 0 ≤ i → i < 256 → hvF a t i = hvF b t i := fun t i x y => by unfold hvF; rw [e i x y]
  have f : LBs a = LBs b := by
    funext t
    unfold LBs
    rw [mxF_cg (k t)]
  unfold LBT
  rw [f]
section HCL2
variable {L a G : Int → Int} {n T : Int}
theorem hfG_cl (e : ∀ s, 0 ≤ s → s < 256 → a s = ctF L n s) (hG : ∀ s, 0 ≤ s → s < 256 → G s = dpH (hvF a (LBT a)) s) : ∀ i, 0 ≤ i → i < 256 → G i = hfG L n i := fun i x y => by
  rw [hG i x y, LBT_cg e]
  unfold dpH
  rw [HTR_cg (g := hvF (ctF L n) (LBT (ctF L n))) (fun i x y => by unfold hvF; rw [e i x y])]
  exact (cutP_in (P := fun s => dpH (hvF (ctF L n) (LBT (ctF L n))) s) ⟨x, y⟩).symm
theorem hfT_cl (e : ∀ s, 0 ≤ s → s < 256 → a s = ctF L n s) (hT : T = mxF (hvF a (LBT a))) : T = hfT L n := by
  rw [hT, LBT_cg e]
  exact mxF_cg (fun i x y => by unfold hvF; rw [e i x y])
end HCL2
theorem DSC_len {w : Int → Int} {k : Int} {D : List Int} (h : DSC w k = some D) (h0 : 0 ≤ k) : 1 ≤ (D.length : Int) ∧ (D.length : Int) ≤ 128 := by
  by_cases c : k ≤ 128 ∧ (¬ BYS w k ∨ (k + 1) / 2 ≤ ((stB w k).length : Int))
  · rw [DSC_d c.1 c.2] at h
    have h := Option.some.inj h
    rw [← h]
    unfold drB
    rw [List.length_append, List.length_map, List.length_range]
    show 1 ≤ ((1 + ((k + 1) / 2).toNat : Nat) : Int) ∧ ((1 + ((k + 1) / 2).toNat : Nat) : Int) ≤ 128
    omega
  · by_cases d : BYS w k
    · have q : 128 < k ∨ ((stB w k).length : Int) < (k + 1) / 2 := by
        by_cases z : 128 < k
        · exact .inl z
        · refine .inr ?_
          by_cases y : ((stB w k).length : Int) < (k + 1) / 2
          · exact y
          · exact absurd ⟨by omega, .inr (by omega)⟩ c
      rw [DSC_s d q] at h
      have h := Option.some.inj h
      have l := d.2.2
      rw [← h, List.length_append]
      show 1 ≤ ((1 + (stB w k).length : Nat) : Int) ∧ ((1 + (stB w k).length : Nat) : Int) ≤ 128
      omega
    · have q : 128 < k := by
        by_cases z : 128 < k
        · exact z
        · exact absurd ⟨by omega, .inl d⟩ c
      rw [DSC_n d q] at h
      exact absurd h (by simp)
theorem lzN_nn {a : Int → Int} : ∀ {n : Nat}, 0 ≤ lzN a n
  | 0 => Int.le_refl 0
  | n + 1 => by
    show 0 ≤ (if a (n : Int) ≠ 0 then (n : Int) else lzN a n)
    have ih := lzN_nn (a := a) (n := n)
    split <;> omega

def CWO (cod : Option (Int × (Int → Int))) (T : Int) (G ce co : Int → Int) : Prop := cod = cdO T G ∧ CI G T ∧ CDX G T ce co
section CLW
variable {L G : Int → Int} {n m k s T c w : Int} {cod : Option (Int × (Int → Int))} {D : List Int}
theorem l3c_y (hc : cod = cdO T G) (ht : 0 < T) (hr : ∀ k, 0 ≤ k → k < n → 0 ≤ L k ∧ L k < 256) (h : CZF G L n 0 s) (h0 : 0 < s) (h1 : s < m) : l3F cod L n ((m, k) : LS2) = ((s, 3) : LS2) := by
  have e := CZN_e h
  rw [hc, cdO_y ht, l3F_some, CZN_cut hr, ← e, if_pos ⟨h0, h1⟩]
theorem l3c_n (hc : cod = cdO T G) (hr : ∀ k, 0 ≤ k → k < n → 0 ≤ L k ∧ L k < 256) (h : CZF G L n 0 s) (h1 : s ≤ 0 ∨ m ≤ s) : l3F cod L n ((m, k) : LS2) = ((m, k) : LS2) := by
  have e := CZN_e h
  rw [hc]
  by_cases ht : 0 < T
  · rw [cdO_y ht, l3F_some, CZN_cut hr, ← e, if_neg (fun q => by have q1 := q.1; have q2 : s < m := q.2; omega)]
  · exact l3_0 (by omega)
theorem lwc_y (h : l3F cod L n (l1F L n) = ((m, k) : LS2)) (h1 : 1 < n) (h2 : ¬ ALK L n) (hD : dscF L n = some D) (hg : ∀ i, 0 ≤ i → i < 256 → G i = hfG L n i) (hr : ∀ k, 0 ≤ k → k < n → 0 ≤ L k ∧ L k < 256) (hc : c = (D.length : Int)) (hz : CZF G L n c s) (h0 : 0 < s) (hl : s < m) : lwF cod L n = 2 := by
  subst hc
  have e := CZN_e hz
  unfold lwF
  rw [h, l2F_some h1 h2 hD, CZN_dr hg hr, ← e, if_pos ⟨h0, hl⟩]
theorem lwc_k (h : l3F cod L n (l1F L n) = ((m, k) : LS2)) (h1 : 1 < n) (h2 : ¬ ALK L n) (hD : dscF L n = some D) (hg : ∀ i, 0 ≤ i → i < 256 → G i = hfG L n i) (hr : ∀ k, 0 ≤ k → k < n → 0 ≤ L k ∧ L k < 256) (hc : c = (D.length : Int)) (hz : CZF G L n c s) (hl : s ≤ 0 ∨ m ≤ s) : lwF cod L n = k := by
  subst hc
  have e := CZN_e hz
  unfold lwF
  rw [h, l2F_some h1 h2 hD, CZN_dr hg hr, ← e, if_neg (fun q => by have q1 := q.1; have q2 : s < m := q.2; omega)]
theorem lt_c2 (hw : w = 2) (hD : dscF L n = some D) (hc : c = (D.length : Int)) (hg : ∀ i, 0 ≤ i → i < 256 → G i = hfG L n i) (hT : T = hfT L n) (hn : 0 ≤ n) (hr : ∀ k, 0 ≤ k → k < n → 0 ≤ L k ∧ L k < 256) : (nb (HDV w (hlF n (dlF w c + STZ G L n)) n (dlF w c + STZ G L n) (wdF (hlF n (dlF w c + STZ G L n)))) (hbF (hlF n (dlF w c + STZ G L n))) ++ DLs w D) ++ F1 G T L n = ltB cod L n w := by
  subst hw hc
  rw [lt_end (.inl rfl) ltC_2, hdL_2, hd2_y hD, dlF_2 rfl, DLs_2 rfl, STZ_dr hg hr, hT, F1_cg (H := G) (fun i a b => (hg i a b).symm) hn (fun k a b => ⟨rfl, hr k a b⟩)]
  rfl
theorem lt_c3 (hw : w = 3) (hc : cod = cdO T G) (ht : 0 < T) (hn : 0 ≤ n) (hr : ∀ k, 0 ≤ k → k < n → 0 ≤ L k ∧ L k < 256) : (nb (HDV w (hlF n (dlF w c + STZ G L n)) n (dlF w c + STZ G L n) (wdF (hlF n (dlF w c + STZ G L n)))) (hbF (hlF n (dlF w c + STZ G L n))) ++ DLs w D) ++ F1 G T L n = ltB cod L n w := by
  subst hw
  rw [cdO_y ht] at hc
  subst hc
  rw [lt_end (.inr rfl) (ltC_n (by decide)), hdL_3, dlF_3 (by decide), DLs_3 (by decide), STZ_cut hr, F1_cut hn hr, Int.zero_add, List.append_nil]
  rfl
end CLW
theorem DIFu {d : Int → Int} {n : Int} (h : ∃ i, 0 < i ∧ i < n ∧ d i ≠ d 0) (hb : ∀ i, -128 ≤ d i ∧ d i ≤ 127) : DIFF (ub8 d) n := by
  obtain ⟨i, a, b, c⟩ := h
  refine ⟨i, by omega, b, ?_⟩
  have x := hb i
  have y := hb 0
  show d i % 256 ≠ d 0 % 256
  omega
theorem ALKu {d : Int → Int} {n : Int} (h0 : 0 < n) (h : ∀ k, 0 ≤ k → k < n → d k = d 0) : ALK (ub8 d) n := ⟨h0, fun k a b => by show u8 (d k) = u8 (d 0); rw [h k a b]⟩
theorem rwI {n s f w : Int} (hn : 0 ≤ n ∧ n ≤ 65536) (hw : 0 ≤ w ∧ w ≤ 1) (h : n < 32 ∧ s = 3 ∧ f = 0 ∨ 32 ≤ n ∧ n < 4096 ∧ s = 4 ∧ f = 4 ∨ 4096 ≤ n ∧ s = 4 ∧ f = 12) : orI (orI (slI n s) f) w = rwN n w := by
  have e3 : p2 3 = 8 := by decide
  have e4 : p2 4 = 16 := by decide
  have e2 : p2 2 = 4 := by decide
  rcases h with ⟨a, b, c⟩ | ⟨a, a2, b, c⟩ | ⟨a, b, c⟩
  · rw [b, c, slI_v (by decide) ⟨by rw [e3]; omega, by rw [e3]; omega⟩, orI_al (by decide) ⟨by decide, by decide⟩ hn.1 (by rw [e3]; omega), Int.zero_add, orI_al (by decide) ⟨hw.1, by rw [e3]; omega⟩ hn.1 (by rw [e3]; omega)]
    exact rwN_e (.inl ⟨a, by rw [e3]; omega⟩)
  · rw [b, c, slI_v (by decide) ⟨by rw [e4]; omega, by rw [e4]; omega⟩, orI_al (by decide) ⟨by decide, by decide⟩ hn.1 (by rw [e4]; omega), show 4 + n * p2 4 = (1 + n * 4) * p2 2 by rw [e4, e2]; omega, orI_al (by decide) ⟨hw.1, by rw [e2]; omega⟩ (by omega) (by rw [e2]; omega)]
    exact rwN_e (.inr (.inl ⟨a, a2, by rw [e2]; omega⟩))
  · rw [b, c, slI_v (by decide) ⟨by rw [e4]; omega, by rw [e4]; omega⟩, orI_al (by decide) ⟨by decide, by decide⟩ hn.1 (by rw [e4]; omega), show 12 + n * p2 4 = (3 + n * 4) * p2 2 by rw [e4, e2]; omega, orI_al (by decide) ⟨hw.1, by rw [e2]; omega⟩ (by omega) (by rw [e2]; omega)]
    exact rwN_e (.inr (.inr ⟨a, by rw [e2]; omega⟩))


end
section
/-! 19s -/
def HDS (P S : Int → Int) (n : Int) : Prop := ∀ j, 0 ≤ j → j < n → P (S j) ≠ 0

noncomputable def csW (X : Tb) (S : Int → Int) (n : Int) : Nat → Int × Int
  | 0 => (loF X (S (n - 1)), X.1)
  | k + 1 => (ldF X (S (n - 2 - (k : Int))) (csW X S n k).1, (csW X S n k).2 + (tsF X (ldF X (S (n - 2 - (k : Int))) (csW X S n k).1)).2.1)
noncomputable def cstF (X : Tb) (S : Int → Int) (n : Int) : Int := (csW X S n (n - 1).toNat).2
noncomputable def rcF (P : Int → Int) (L : Int) (S : Int → Int) (n : Int) : Int := haveI : ∀ p : Prop, Decidable p := Classical.propDecidable; if HDS P S n then cstF ((L, 64, P) : Tb) S n else -1
section RCx
variable {P P2 S S2 sy bi ba : Int → Int} {L n c : Int}
theorem CHN_cg (e : ∀ j, 0 ≤ j → j < n → S j = S2 j) : ∀ {k : Nat} {st c : Int}, (k : Int) + 1 ≤ n → CHN sy bi ba L S n k st c → CHN sy bi ba L S2 n k st c
  | 0, st, c, hk, h => by
    refine ⟨?_, h.2⟩
    rw [← e (n - 1) (by omega) (by omega)]
    exact h.1
  | k + 1, st, c, hk, h => by
    obtain ⟨x, y, q1, q2, q3⟩ := h
    refine ⟨x, y, CHN_cg e (by omega) q1, ?_, q3⟩
    rw [← e (n - 2 - (k : Int)) (by omega) (by omega)]
    exact q2
theorem COST_cg (hn : 1 ≤ n) (e : ∀ j, 0 ≤ j → j < n → S j = S2 j) (h : COST P L S n c) : COST P L S2 n c := by
  obtain ⟨sy, bi, ba, st, d1, d2⟩ := h
  exact ⟨sy, bi, ba, st, d1, CHN_cg e (by omega) d2⟩
theorem COST_cut {P S : Int → Int} {L n c : Int} (hn : 1 ≤ n) (h : COST P L S n c) : COST P L (cutP n S) n c := COST_cg hn (fun j a b => (cutP_in ⟨a, b⟩).symm) h
theorem csW_e {X : Tb} (h : TBX X L sy bi ba) : ∀ {k : Nat} {st c : Int}, CHN sy bi ba L S n k st c → csW X S n k = (st, c)
  | 0, st, c, q => by
    show (loF X (S (n - 1)), X.1) = (st, c)
    rw [loF_e h q.1, h.1, q.2]
  | k + 1, st, c, q => by
    obtain ⟨x, y, q1, q2, q3⟩ := q
    show (ldF X (S (n - 2 - (k : Int))) (csW X S n k).1, (csW X S n k).2 + (tsF X (ldF X (S (n - 2 - (k : Int))) (csW X S n k).1)).2.1) = (st, c)
    rw [csW_e h q1]
    show (ldF X (S (n - 2 - (k : Int))) x, y + (tsF X (ldF X (S (n - 2 - (k : Int))) x)).2.1) = (st, c)
    rw [ldF_e h q2, h.2 st q2.1 q2.2.1, q3]
theorem TBX_64 (hL : 5 ≤ L ∧ L ≤ 9) (h : LD P 64 L sy bi ba) : TBX ((L, 64, P) : Tb) L sy bi ba := TBX_LD h hL (by decide) (fun _ _ _ => rfl) (fun i a b => absurd b (by omega))
theorem rcF_y (hL : 5 ≤ L ∧ L ≤ 9) (hn : 1 ≤ n) (h : COST P L S n c) : rcF P L S n = c := by
  have q : HDS P S n := COST_nz hL h hn
  obtain ⟨sy, bi, ba, st, d1, d2⟩ := h
  unfold rcF
  rw [if_pos q]
  unfold cstF
  rw [csW_e (TBX_64 hL d1) d2]
theorem CH_p {R : Type} {d : R} {p : R → Prop} (h : ∃ r, p r) : p (CH d p) := by
  unfold CH
  rw [dif_pos h]
  exact Classical.choose_spec h
theorem CH_n {R : Type} {d : R} {p : R → Prop} (h : ¬ ∃ r, p r) : CH d p = d := by
  unfold CH
  rw [dif_neg h]
theorem ts_nn (X : Tb) (k : Int) : 0 ≤ (tsF X k).2.1 := by
  unfold tsF
  by_cases h : ∃ R : Int × Int × Int, TST X.2.2 X.2.1 X.1 k R.1 R.2.1 R.2.2
  · have q := CH_p (d := ((0, 0, 0) : Int × Int × Int)) h
    obtain ⟨sy, _, _, ⟨b0, _⟩, _⟩ := q
    exact b0
  · rw [CH_n h]
    exact Int.le_refl 0
theorem csW_ge (X : Tb) : ∀ k : Nat, X.1 ≤ (csW X S n k).2
  | 0 => Int.le_refl _
  | k + 1 => by
    have a := csW_ge X k
    have b := ts_nn X (ldF X (S (n - 2 - (k : Int))) (csW X S n k).1)
    show X.1 ≤ (csW X S n k).2 + (tsF X (ldF X (S (n - 2 - (k : Int))) (csW X S n k).1)).2.1
    omega
theorem rcF_ge (h : HDS P S n) : L ≤ rcF P L S n := by
  unfold rcF
  rw [if_pos h]
  exact csW_ge _ _
theorem rcF_z (h : ¬ HDS P S n) : rcF P L S n = -1 := by
  unfold rcF
  exact if_neg h
end RCx

noncomputable def shP (S : Int → Int) (n l : Int) : Int → Int := dvP (ctF S n) n (p2 l)
noncomputable def shB (S : Int → Int) (n l : Int) : List Int := byw (STB (shP S n l) l)
noncomputable def shC (S : Int → Int) (n l : Int) : Int := 8 * ((shB S n l).length : Int) + rcF (shP S n l) l S n
def dfN (S : Int → Int) (n : Int) : Int := su (fun s => pos1 (ctF S n s)) 64
section SHG
variable {S S2 co P : Int → Int} {n l c b : Int}
theorem shP_e (hc : ∀ i, 0 ≤ i → i < 64 → co i = ctF S n i) (h : DVF co n (p2 l) P) : shP S n l = cutP 64 P := by
  unfold shP
  rw [← dvP_cg (co := co) hc]
  exact dvP_e h
theorem shP_c {N : Int} (hc : ∀ i, 0 ≤ i → i < 64 → co i = ctF S n i) (hN : N ≤ 64) (h : DVF co n (p2 l) (cutP N P)) : shP S n l = cutP N P := by
  rw [shP_e hc h, cutP_cut hN]
theorem AG_cut : AG P (cutP 64 P) := fun s a b => (cutP_in ⟨a, b⟩).symm
theorem shC_e (hl : 5 ≤ l ∧ l ≤ 9) (hn : 1 ≤ n) (hP : shP S n l = cutP 64 P) (hb : b = 8 * ((byw (STB (cutP 64 P) l)).length : Int)) (h : COST P l S n c) : b + c = shC S n l := by
  unfold shC shB
  rw [hP, ← hb, rcF_y hl hn (COST_agree hl h AG_cut)]
theorem dfN_e (hc : ∀ i, 0 ≤ i → i < 64 → co i = ctF S n i) : su (fun i => pos1 (co i)) 64 = dfN S n := su_congr (fun i a b => by show pos1 (co i) = pos1 (ctF S n i); rw [hc i a (by omega)])
end SHG

noncomputable def boS (S : Int → Int) (n d : Int) (x : Int × Int) (l : Int) : Int × Int := if p2 l < d then x else if x.1 < 0 ∨ shC S n l < x.2 then (l, shC S n l) else x
noncomputable def boN (S : Int → Int) (n d : Int) : Nat → Int × Int
  | 0 => (-1, 0)
  | k + 1 => boS S n d (boN S n d k) (5 + (k : Int))
def hiO (t : Int) : Int := if t = 1 then 8 else 9
noncomputable def boF (t : Int) (S : Int → Int) (n : Int) : Int × Int := boN S n (dfN S n) (hiO t - 4).toNat
section BOx
variable {S S2 : Int → Int} {n d l l2 b c v : Int}
theorem boN_s {x : Int × Int} (h : boN S n d (l - 5).toNat = x) (hl : 5 ≤ l) (e : l2 = l + 1) : boN S n d (l2 - 5).toNat = boS S n d x l := by
  subst e
  rw [show (l + 1 - 5).toNat = (l - 5).toNat + 1 by omega]
  show boS S n d (boN S n d (l - 5).toNat) (5 + (((l - 5).toNat : Nat) : Int)) = _
  rw [h, show 5 + (((l - 5).toNat : Nat) : Int) = l by omega]
theorem boS_k {x : Int × Int} (h : p2 l < d) : boS S n d x l = x := if_pos h
theorem boS_y {x : Int × Int} (h : d ≤ p2 l) (hc : c = shC S n l) (q : x.1 < 0 ∨ c < x.2) : boS S n d x l = (l, c) := by
  subst hc
  unfold boS
  rw [if_neg (by omega), if_pos q]
theorem boS_n {x : Int × Int} (h : d ≤ p2 l) (hc : c = shC S n l) (q : 0 ≤ x.1 ∧ x.2 ≤ c) : boS S n d x l = x := by
  subst hc
  unfold boS
  rw [if_neg (by omega), if_neg (by omega)]

def BOL (x : Int × Int) (lim b c : Int) : Prop := 0 ≤ x.1 ∧ x.2 < lim ∧ b = x.1 ∧ c = x.2 ∨ (x.1 < 0 ∨ lim ≤ x.2) ∧ b = 0 ∧ c = lim
theorem BOL_0 {lim : Int} : BOL (-1, 0) lim 0 lim := .inr ⟨.inl (by decide), rfl, rfl⟩
theorem BOL_k {x : Int × Int} {lim : Int} (h : BOL x lim b c) (q : p2 l < d) : BOL (boS S n d x l) lim b c := by
  rw [boS_k q]
  exact h
theorem BOL_y {x : Int × Int} {lim : Int} (h : BOL x lim b c) (q : d ≤ p2 l) (hv : v = shC S n l) (hx : -1 ≤ x.1) (hl : 0 ≤ l) (w : v < c) : BOL (boS S n d x l) lim l v := by
  rcases h with ⟨a1, a2, a3, a4⟩ | ⟨a1, a2, a3⟩
  · rw [boS_y q hv (.inr (by omega))]
    exact .inl ⟨hl, by show v < lim; omega, rfl, rfl⟩
  · rw [boS_y q hv (by omega)]
    exact .inl ⟨hl, by show v < lim; omega, rfl, rfl⟩
theorem BOL_n {x : Int × Int} {lim : Int} (h : BOL x lim b c) (q : d ≤ p2 l) (hv : v = shC S n l) (hl : 0 ≤ l) (w : c ≤ v) : BOL (boS S n d x l) lim b c := by
  by_cases z : x.1 < 0 ∨ v < x.2
  · rw [boS_y q hv z]
    rcases h with ⟨a1, a2, a3, a4⟩ | ⟨a1, a2, a3⟩
    · omega
    · exact .inr ⟨.inr (by show lim ≤ v; omega), a2, a3⟩
  · rw [boS_n q hv (by omega)]
    exact h
theorem boS_1 {x : Int × Int} (hx : -1 ≤ x.1) (hl : 0 ≤ l) : -1 ≤ (boS S n d x l).1 := by
  unfold boS
  by_cases q : p2 l < d
  · rw [if_pos q]; exact hx
  · rw [if_neg q]
    by_cases r : x.1 < 0 ∨ shC S n l < x.2
    · rw [if_pos r]; show -1 ≤ l; omega
    · rw [if_neg r]; exact hx
theorem boN_1 : ∀ k : Nat, -1 ≤ (boN S n d k).1
  | 0 => Int.le_refl _
  | k + 1 => boS_1 (boN_1 k) (by omega)
end BOx

abbrev TSt := Int × (Int → Int)
noncomputable def aswF (B : TSt) (S : Int → Int) (n : Int) : Int := haveI : ∀ p : Prop, Decidable p := Classical.propDecidable; if B.1 < 0 then -1 else if 0 < B.1 then rcF B.2 B.1 S n else if dfN S n = 1 ∧ B.2 (S 0) = 1 then 0 else -1
noncomputable def kcF (t : Int) (S : Int → Int) (n : Int) : Int := rcF (KK t) (kO t) S n
noncomputable def m1F (t : Int) (S : Int → Int) (n : Int) : Int × Int := if dfN S n = 1 ∧ 8 < kcF t S n then (1, 8) else (0, kcF t S n)
noncomputable def m2F (t : Int) (S : Int → Int) (n : Int) : Int × Int := if shC S n (boF t S n).1 < (m1F t S n).2 then (2, shC S n (boF t S n).1) else m1F t S n
noncomputable def mwF (t : Int) (S : Int → Int) (n : Int) (B : TSt) : Int := if 0 ≤ aswF B S n ∧ aswF B S n < (m2F t S n).2 then 3 else (m2F t S n).1
noncomputable def tnF (t : Int) (S : Int → Int) (n : Int) (B : TSt) (m : Int) : TSt := if m = 0 then (kO t, cutP 64 (KK t)) else if m = 1 then (0, cutP 64 (on0 (S 0))) else if m = 2 then ((boF t S n).1, shP S n (boF t S n).1) else B
noncomputable def ttB (t : Int) (S : Int → Int) (n m : Int) : List Int := if m = 1 then [S 0] else if m = 2 then shB S n (boF t S n).1 else []
section MDx
variable {S : Int → Int} {t n m b c l x : Int} {B : TSt}
theorem m1F_e (h : kcF t S n = c) (q : dfN S n = 1 ∧ 8 < c ∧ m = 1 ∧ b = 8 ∨ (dfN S n ≠ 1 ∨ c ≤ 8) ∧ m = 0 ∧ b = c) : m1F t S n = (m, b) := by
  subst h
  unfold m1F
  rcases q with ⟨q1, q2, q3, q4⟩ | ⟨q1, q2, q3⟩
  · rw [if_pos ⟨q1, q2⟩, q3, q4]
  · rw [if_neg (by omega), q2, q3]
theorem m2F_e {m0 b0 : Int} (h : m1F t S n = (m0, b0)) (hl : (boF t S n).1 = l) (hc : shC S n l = c) (q : c < b0 ∧ m = 2 ∧ b = c ∨ b0 ≤ c ∧ m = m0 ∧ b = b0) : m2F t S n = (m, b) := by
  subst hl hc
  unfold m2F
  rw [h]
  rcases q with ⟨q1, q2, q3⟩ | ⟨q1, q2, q3⟩
  · rw [if_pos q1, q2, q3]
  · rw [if_neg (show ¬ shC S n (boF t S n).1 < b0 by omega), q2, q3]
theorem mwF_e {m0 b0 : Int} (h : m2F t S n = (m0, b0)) (ha : aswF B S n = x) (q : 0 ≤ x ∧ x < b0 ∧ m = 3 ∨ (x < 0 ∨ b0 ≤ x) ∧ m = m0) : mwF t S n B = m := by
  subst ha
  unfold mwF
  rw [h]
  rcases q with ⟨q1, q2, q3⟩ | ⟨q1, q2⟩
  · rw [if_pos ⟨q1, q2⟩, q3]
  · rw [if_neg (show ¬ (0 ≤ aswF B S n ∧ aswF B S n < b0) by omega), q2]
theorem aswF_0 (h : B.1 < 0) : aswF B S n = -1 := by
  unfold aswF
  rw [if_pos h]
theorem aswF_c (h : 0 < B.1) : aswF B S n = rcF B.2 B.1 S n := by
  unfold aswF
  rw [if_neg (by omega), if_pos h]
theorem aswF_1 (h : B.1 = 0) (q : dfN S n = 1 ∧ B.2 (S 0) = 1) : aswF B S n = 0 := by
  unfold aswF
  rw [if_neg (by omega), if_neg (by omega), if_pos q]
theorem aswF_n (h : B.1 = 0) (q : ¬ (dfN S n = 1 ∧ B.2 (S 0) = 1)) : aswF B S n = -1 := by
  unfold aswF
  rw [if_neg (by omega), if_neg (by omega), if_neg q]
theorem tnF_0 : tnF t S n B 0 = (kO t, cutP 64 (KK t)) := if_pos rfl
theorem tnF_1 : tnF t S n B 1 = (0, cutP 64 (on0 (S 0))) := rfl
theorem tnF_2 (hl : (boF t S n).1 = l) : tnF t S n B 2 = (l, shP S n l) := by
  subst hl
  rfl
theorem tnF_3 : tnF t S n B 3 = B := rfl
theorem ttB_1 : ttB t S n 1 = [S 0] := rfl
theorem ttB_2 (hl : (boF t S n).1 = l) : ttB t S n 2 = shB S n l := by
  subst hl
  rfl
theorem ttB_n (h : m ≠ 1 ∧ m ≠ 2) : ttB t S n m = [] := by
  unfold ttB
  rw [if_neg h.1, if_neg h.2]
end MDx
theorem ct_cut {co S : Int → Int} {n : Int} (h : ∀ i, (0 : Int) ≤ i → i < 64 → co i = su (eqs S i) n.toNat) : ∀ i, 0 ≤ i → i < 64 → co i = ctF (cutP n S) n i := fun i a b => by
  rw [h i a b]
  show su (eqs S i) n.toNat = su (eqs (cutP n S) i) n.toNat
  exact su_congr (fun k x y => by unfold eqs; rw [cutP_in (n := n) (P := S) ⟨x, by omega⟩])
theorem MBY_n {g : Int → Int} {n : Int} {S : List Int} (h : MBY g n S) : n = 8 * (S.length : Int) := by
  obtain ⟨C, c1, c2, c3⟩ := h
  have l := c1.1
  rw [← c3, byw_len]
  omega
theorem hiO_e (t : Int) : t = 1 ∧ hiO t = 8 ∨ t ≠ 1 ∧ hiO t = 9 := by
  unfold hiO
  by_cases h : t = 1
  · rw [if_pos h]; exact .inl ⟨h, rfl⟩
  · rw [if_neg h]; exact .inr ⟨h, rfl⟩

noncomputable def btS (o : Int) (P : Int → Int) : TSt := if o < 0 then (-1, fun _ => 0) else (o, cutP 64 P)
section BTx
variable {P Q S : Int → Int} {o n t d f r m b : Int}
theorem btS_n (h : o < 0) : (btS o P).1 < 0 := by
  unfold btS
  rw [if_pos h]
  decide
theorem btS_y (h : 0 ≤ o) : btS o P = (o, cutP 64 P) := if_neg (by omega)
theorem btS_e (h : 0 ≤ o) (hP : ∀ k, 0 ≤ k → k < 64 → P k = Q k) : btS o P = (o, cutP 64 Q) := by
  rw [btS_y h, cutP_cg hP]
theorem asw_c (hn : 1 ≤ n) (ho : 5 ≤ o ∧ o ≤ 9) (hS : ∀ j, 0 ≤ j → j < n → 0 ≤ S j ∧ S j < 64) (h1 : r ≠ -1 → COST P o S n r) (h2 : (∀ j, 0 ≤ j → j < n → P (S j) ≠ 0) → r ≠ -1) : r = aswF (btS o P) (cutP n S) n := by
  rw [btS_y (by omega), aswF_c (show (0 : Int) < o by omega)]
  show r = rcF (cutP 64 P) o (cutP n S) n
  by_cases q : r = -1
  · rw [q]
    refine (rcF_z (fun z => h2 (fun j a b => ?_) q)).symm
    have w := z j a b
    rw [cutP_in (n := n) ⟨a, b⟩, cutP_in (hS j a b)] at w
    exact w
  · exact (rcF_y ho hn (COST_cut hn (COST_agree ho (h1 q) AG_cut))).symm
theorem asw_1 (hn : 1 ≤ n) (ho : o = 0) (hf : S 0 = f ∧ 0 ≤ f ∧ f < 64) (hd : d = dfN (cutP n S) n) (hx : d = 1) (hp : P f = 1) : 0 = aswF (btS o P) (cutP n S) n := by
  rw [btS_y (by omega)]
  refine (aswF_1 ho ⟨by omega, ?_⟩).symm
  show cutP 64 P (cutP n S 0) = 1
  rw [cutP_in (n := n) ⟨by omega, by omega⟩, hf.1, cutP_in ⟨hf.2.1, hf.2.2⟩]
  exact hp
theorem asw_0 (hn : 1 ≤ n) (ho : o = 0) (hf : S 0 = f ∧ 0 ≤ f ∧ f < 64) (hd : d = dfN (cutP n S) n) (hx : d ≠ 1 ∨ P f ≠ 1) : -1 = aswF (btS o P) (cutP n S) n := by
  rw [btS_y (by omega)]
  refine (aswF_n ho (fun q => ?_)).symm
  have q2 : cutP 64 P (cutP n S 0) = 1 := q.2
  rw [cutP_in (n := n) ⟨by omega, by omega⟩, hf.1, cutP_in ⟨hf.2.1, hf.2.2⟩] at q2
  have := q.1
  omega
def t1B (m f : Int) : List Int := if m = 1 then btw f 8 else []
theorem t1B_1 (h : m = 1) : t1B m f = btw f 8 := if_pos h
theorem t1B_n (h : m ≠ 1) : t1B m f = [] := if_neg h
theorem byw_1 (h : 0 ≤ f ∧ f < 256) : byw (btw f 8) = [f] := by
  unfold byw
  rw [bl8_bt (by decide), btw_lenI (by decide), show p2 8 = 256 by decide, Int.emod_eq_of_lt h.1 h.2]
  show [u8 (f / p2 (8 * 0))] = [f]
  rw [show p2 (8 * 0) = 1 by decide, Int.ediv_one, u8_id (by omega)]
theorem ttM_1 {g : Int → Int} (hm : m = 1) (hn : 1 ≤ n) (hf : S 0 = f ∧ 0 ≤ f ∧ f < 64) (h : MDB g b (t1B m f)) : MBY g b (ttB t (cutP n S) n m) := by
  rw [t1B_1 hm] at h
  subst hm
  rw [ttB_1, cutP_in (n := n) ⟨by omega, by omega⟩, hf.1]
  exact ⟨_, h, by rw [btw_len]; decide, byw_1 (by omega)⟩
theorem ttM_n {g : Int → Int} (hm : m ≠ 1 ∧ m ≠ 2) (h : MDB g b (t1B m f)) : MBY g b (ttB t S n m) := by
  rw [t1B_n hm.1] at h
  rw [ttB_n hm]
  exact ⟨[], h, rfl, rfl⟩

def TTP (t : Int) (S : Int → Int) (n : Int) (B B2 : TSt) (r : Int) (mg : Int → Int) (mb : Int) : Prop := r = mwF t S n B ∧ MBY mg mb (ttB t S n r) ∧ B2 = tnF t S n B r
theorem on0_cut {k : Int} (h : 1 ≤ n) : on0 (cutP n S 0) k = on0 (S 0) k := by rw [cutP_in (n := n) ⟨by omega, by omega⟩]
end BTx


end
section
/-! 19t -/
def NHL (co P : Int → Int) (N m : Int) : Prop := ∃ s, 0 ≤ s ∧ s < m ∧ 0 < co s ∧ (N ≤ s ∨ P s = 0)
section TCx
variable {co S P : Int → Int} {n d t N l : Int}
theorem ctF_none {s : Int} (h : ∀ j, 0 ≤ j → j < n → S j ≠ s) : ctF S n s = 0 := su_eqs0 (fun k a b => h k a (by omega))
theorem ctF_some {s : Int} (h : 0 < ctF S n s) : ∃ j, 0 ≤ j ∧ j < n ∧ S j = s := by
  obtain ⟨j, a, b, c⟩ := su_some (f := eqs S s) (n := n.toNat) (by have h : 0 < su (eqs S s) n.toNat := h; omega)
  have w := eqs_eq S s j
  exact ⟨j, a, by omega, by omega⟩
theorem ct_cut_e {i : Int} : ctF (cutP n S) n i = ctF S n i := by
  rw [ctF_cg (fun j a b => cutP_in ⟨a, b⟩)]
theorem cnC (h : ∀ s, 0 ≤ s → s < 53 → co s = su (eqs S s) n.toNat) (hr : ∀ j, 0 ≤ j → j < n → 0 ≤ S j ∧ S j < N) (hN : N ≤ 53) : ∀ i, 0 ≤ i → i < 64 → cutP N co i = ctF (cutP n S) n i := fun i a b => by
  rw [ct_cut_e]
  by_cases c : i < N
  · rw [cutP_in ⟨a, c⟩]
    exact h i a (by omega)
  · rw [cutP_z (by omega), ctF_none (fun j x y => by have := hr j x y; omega)]
theorem dfN_c (h : ∀ s, 0 ≤ s → s < 53 → co s = su (eqs S s) n.toNat) (hr : ∀ j, 0 ≤ j → j < n → 0 ≤ S j ∧ S j < 53) : su (fun i => pos1 (co i)) 53 = dfN (cutP n S) n := by
  unfold dfN
  have e := su_split (f := fun s => pos1 (ctF (cutP n S) n s)) (n := 53) (k := 11) (fun i x y => by
    show pos1 (ctF (cutP n S) n i) = 0
    rw [ct_cut_e, ctF_none (fun j a b => by have := hr j a b; omega)]
    rfl)
  have e : su (fun s => pos1 (ctF (cutP n S) n s)) 64 = su (fun s => pos1 (ctF (cutP n S) n s)) 53 := e
  rw [e]
  exact su_congr (fun i a b => by
    show pos1 (co i) = pos1 (ctF (cutP n S) n i)
    rw [ct_cut_e, h i a (by omega)]
    rfl)
theorem pos1_nn (x : Int) : 0 ≤ pos1 x := by
  have := pos1_eq x
  omega
theorem df_two {i j : Int} (hr : ∀ j, 0 ≤ j → j < n → 0 ≤ S j ∧ S j < 64) (a : 0 ≤ i ∧ i < n) (b : 0 ≤ j ∧ j < n) (c : S i ≠ S j) : 2 ≤ dfN S n := by
  have p := ctF_pos (L := S) (n := n) (k := i) a.1 a.2 rfl
  have q := ctF_pos (L := S) (n := n) (k := j) b.1 b.2 rfl
  have x := hr i a.1 a.2
  have y := hr j b.1 b.2
  have w := su_two (f := fun s => pos1 (ctF S n s)) (i := S i) (j := S j) (n := 64) (fun s => pos1_nn _) x.1 (by omega) y.1 (by omega) c
  have e1 := pos1_eq (ctF S n (S i))
  have e2 := pos1_eq (ctF S n (S j))
  have w : pos1 (ctF S n (S i)) + pos1 (ctF S n (S j)) ≤ dfN S n := w
  omega
theorem df_one {a : Int} (hn : 1 ≤ n) (ha : 0 ≤ a ∧ a < 64) (h : ∀ j, 0 ≤ j → j < n → S j = a) : dfN S n = 1 := by
  have w := su_only (f := fun s => pos1 (ctF S n s)) (r := a) (n := 64) ha.1 (by omega) (fun i x y z => by
    show pos1 (ctF S n i) = 0
    rw [ctF_none (fun j u v => by rw [h j u v]; exact fun e => z e.symm)]
    rfl)
  have p := ctF_pos (L := S) (n := n) (k := 0) (s := a) (by omega) (by omega) (h 0 (by omega) (by omega))
  have e := pos1_eq (ctF S n a)
  have w : dfN S n = pos1 (ctF S n a) := w
  omega
theorem boS_0 {x : Int × Int} (h : d ≤ p2 l) (hl : 0 ≤ l) : 0 ≤ (boS S n d x l).1 := by
  unfold boS
  rw [if_neg (by omega)]
  by_cases q : x.1 < 0 ∨ shC S n l < x.2
  · rw [if_pos q]; exact hl
  · rw [if_neg q]; omega
theorem boS_m {x : Int × Int} (h : 0 ≤ x.1) (hl : 0 ≤ l) : 0 ≤ (boS S n d x l).1 := by
  unfold boS
  by_cases p : p2 l < d
  · rw [if_pos p]; exact h
  · rw [if_neg p]
    by_cases q : x.1 < 0 ∨ shC S n l < x.2
    · rw [if_pos q]; exact hl
    · rw [if_neg q]; exact h
theorem boN_0 (hd : d ≤ 64) : ∀ j : Nat, 0 ≤ (boN S n d (j + 2)).1
  | 0 => boS_0 (show d ≤ p2 (5 + ((1 : Nat) : Int)) by rw [show p2 (5 + ((1 : Nat) : Int)) = 64 by decide]; exact hd) (by decide)
  | j + 1 => boS_m (boN_0 hd j) (by omega)
theorem boN_v : ∀ k : Nat, (boN S n d k).1 = -1 ∨ 5 ≤ (boN S n d k).1 ∧ (boN S n d k).1 < 5 + (k : Int) ∧ d ≤ p2 (boN S n d k).1 ∧ (boN S n d k).2 = shC S n (boN S n d k).1
  | 0 => .inl rfl
  | k + 1 => by
    have ih := boN_v k
    show (boS S n d (boN S n d k) (5 + (k : Int))).1 = -1 ∨ 5 ≤ (boS S n d (boN S n d k) (5 + (k : Int))).1 ∧ (boS S n d (boN S n d k) (5 + (k : Int))).1 < 5 + ((k + 1 : Nat) : Int) ∧ d ≤ p2 (boS S n d (boN S n d k) (5 + (k : Int))).1 ∧ (boS S n d (boN S n d k) (5 + (k : Int))).2 = shC S n (boS S n d (boN S n d k) (5 + (k : Int))).1
    unfold boS
    by_cases p : p2 (5 + (k : Int)) < d
    · rw [if_pos p]
      rcases ih with ih | ⟨a, b, c, e⟩
      · exact .inl ih
      · exact .inr ⟨a, by omega, c, e⟩
    · rw [if_neg p]
      by_cases q : (boN S n d k).1 < 0 ∨ shC S n (5 + (k : Int)) < (boN S n d k).2
      · rw [if_pos q]
        exact .inr ⟨by show 5 ≤ 5 + (k : Int); omega, by show 5 + (k : Int) < _; omega, by show d ≤ p2 (5 + (k : Int)); omega, rfl⟩
      · rw [if_neg q]
        rcases ih with ih | ⟨a, b, c, e⟩
        · exact .inl ih
        · exact .inr ⟨a, by omega, c, e⟩
theorem boF_v (hd : dfN S n ≤ 64) : 5 ≤ (boF t S n).1 ∧ (boF t S n).1 ≤ hiO t ∧ dfN S n ≤ p2 (boF t S n).1 ∧ (boF t S n).2 = shC S n (boF t S n).1 := by
  have h := hiO_e t
  have a := boN_0 (S := S) (n := n) (d := dfN S n) hd ((hiO t - 4).toNat - 2)
  rw [show (hiO t - 4).toNat - 2 + 2 = (hiO t - 4).toNat by omega] at a
  have v := boN_v (S := S) (n := n) (d := dfN S n) (hiO t - 4).toNat
  unfold boF
  rcases v with v | ⟨v1, v2, v3, v4⟩
  · omega
  · exact ⟨v1, by omega, v3, v4⟩
theorem m2F_b {m0 lim o c m b : Int} (h1 : m1F t S n = (m0, lim)) (hb : BOL (boF t S n) lim o c) (hd : dfN S n ≤ 64) (q : 0 < o ∧ m = 2 ∧ b = c ∨ o ≤ 0 ∧ m = m0 ∧ b = lim) : m2F t S n = (m, b) := by
  have v := boF_v (t := t) hd
  refine m2F_e h1 rfl v.2.2.2.symm ?_
  rcases hb with ⟨a1, a2, a3, a4⟩ | ⟨a1, a2, a3⟩ <;> omega

def TOK (B : TSt) : Prop := B.1 = 0 → ∃ a, 0 ≤ a ∧ a < 64 ∧ B.2 = cutP 64 (on0 a)
theorem on0_eq (a k : Int) : k = a ∧ on0 a k = 1 ∨ k ≠ a ∧ on0 a k = 0 := by
  unfold on0
  by_cases h : k = a
  · rw [if_pos h]; exact .inl ⟨h, rfl⟩
  · rw [if_neg h]; exact .inr ⟨h, rfl⟩
theorem asC_n {B : TSt} (hn : 1 ≤ n) (hr : ∀ j, 0 ≤ j → j < n → 0 ≤ S j ∧ S j < 64) (hb : 0 ≤ B.1) (ht : TOK B) (h : ∃ j, 0 ≤ j ∧ j < n ∧ B.2 (S j) = 0) : aswF B S n = -1 := by
  obtain ⟨j, j0, j1, e⟩ := h
  by_cases z : B.1 = 0
  · refine aswF_n z (fun q => ?_)
    obtain ⟨a, a0, a1, w⟩ := ht z
    rw [w] at e q
    have r0 := hr 0 (by omega) (by omega)
    have rj := hr j j0 j1
    rw [cutP_in ⟨rj.1, rj.2⟩] at e
    have q2 := q.2
    rw [cutP_in ⟨r0.1, r0.2⟩] at q2
    have x := on0_eq a (S j)
    have y := on0_eq a (S 0)
    have k := df_two hr (i := j) (j := 0) ⟨j0, j1⟩ ⟨by omega, by omega⟩ (by omega)
    have := q.1
    omega
  · rw [aswF_c (by omega)]
    exact rcF_z (fun w => w j j0 j1 e)
theorem asC_0 {B : TSt} (hn : 1 ≤ n) (hr : ∀ j, 0 ≤ j → j < n → 0 ≤ S j ∧ S j < 64) (hb : B.1 = 0) (ht : TOK B) (h : ∀ j, 0 ≤ j → j < n → B.2 (S j) ≠ 0) : aswF B S n = 0 := by
  obtain ⟨a, a0, a1, w⟩ := ht hb
  have k : ∀ j, 0 ≤ j → j < n → S j = a := fun j x y => by
    have r := hr j x y
    have e := h j x y
    rw [w, cutP_in ⟨r.1, r.2⟩] at e
    have z := on0_eq a (S j)
    omega
  refine aswF_1 hb ⟨df_one hn ⟨a0, a1⟩ k, ?_⟩
  rw [w, k 0 (by omega) (by omega), cutP_in ⟨a0, a1⟩]
  have z := on0_eq a a
  omega
theorem COST_0 {c : Int} (h : COST P 0 S n c) : c = 0 := by
  obtain ⟨sy, bi, ba, st, d1, d2⟩ := h
  have b0 : bi 0 = 0 := by
    obtain ⟨r, r0, r1, _, _, r4, _⟩ := d1.2.2 0 (by omega) (by decide)
    omega
  have key : ∀ (k : Nat) (st c : Int), CHN sy bi ba 0 S n k st c → c = 0 := fun k => by
    induction k with
    | zero => intro st c q; exact q.2
    | succ k ih =>
      intro st c q
      obtain ⟨x, y, q1, q2, q3⟩ := q
      have e := ih x y q1
      have s0 := q2.1
      have s1 := q2.2.1
      rw [show p2 0 = 1 by decide] at s1
      rw [show st = 0 by omega, b0] at q3
      omega
  exact key _ _ _ d2
theorem asC_c {B : TSt} {o c : Int} (hn : 1 ≤ n) (hr : ∀ j, 0 ≤ j → j < n → 0 ≤ S j ∧ S j < 64) (ho : o = 0 ∨ 5 ≤ o ∧ o ≤ 9) (hb : B.1 = o) (ht : TOK B) (h : ∀ j, 0 ≤ j → j < n → B.2 (S j) ≠ 0) (hc : COST B.2 o S n c) : aswF B S n = c := by
  rcases ho with z | z
  · rw [z] at hc
    rw [asC_0 hn hr (by omega) ht h, COST_0 hc]
  · rw [aswF_c (by omega), hb]
    exact rcF_y z hn hc
theorem kc_c {o c : Int} {Q : Int → Int} (ht : 0 ≤ t ∧ t ≤ 2) (hn : 1 ≤ n) (ho : o = kO t) (hP : AG Q (KK t)) (hc : COST Q o S n c) : kcF t (cutP n S) n = c := by
  subst ho
  have h5 : 5 ≤ kO t ∧ kO t ≤ 9 := by have := kO_eq t; omega
  exact rcF_y h5 hn (COST_cut hn (COST_agree h5 hc hP))
theorem KNp_ag {pts : Int → Int} (ht : 0 ≤ t ∧ t < 3) (hN : KNn t ≤ N ∧ N ≤ 64) (h : ∀ i, 0 ≤ i → i < N → KK t i = pts i) : AG (cutP N pts) (KK t) := fun s a b => by
  by_cases c : s < N
  · rw [cutP_in ⟨a, c⟩]
    exact (h s a c).symm
  · rw [cutP_z (by omega), KK_z ht (by omega) b]
theorem AG_c64 {Q : Int → Int} (h : AG (cutP N P) Q) (hN : N ≤ 64) : cutP N P = cutP 64 Q := by
  rw [← cutP_cut hN]
  exact cutP_cg (fun i a b => h i a b)
end TCx
section TDx
variable {co S P pts : Int → Int} {n N t o l a m : Int} {B : TSt}
theorem nhl_j (hct : ∀ s, 0 ≤ s → s < 53 → co s = su (eqs S s) n.toNat) (h : NHL co P N 53) : ∃ j, 0 ≤ j ∧ j < n ∧ cutP N P (cutP n S j) = 0 := by
  obtain ⟨s, s0, s1, c, d⟩ := h
  rw [hct s s0 s1] at c
  obtain ⟨j, j0, j1, e⟩ := ctF_some (S := S) (n := n) (s := s) c
  refine ⟨j, j0, j1, ?_⟩
  rw [cutP_in (n := n) ⟨j0, j1⟩, e]
  by_cases q : s < N
  · rw [cutP_in ⟨s0, q⟩]
    omega
  · exact cutP_z (by omega)
theorem KNn_lS (ht : 0 ≤ t ∧ t ≤ 2) : lS t < KNn t ∧ KNn t ≤ 64 := by
  unfold lS KNn
  rcases (show t = 0 ∨ t = 1 ∨ t = 2 by omega) with q | q | q <;> subst q <;> decide
theorem kn_nz (ht : 0 ≤ t ∧ t ≤ 2) (hN : KNn t = N) (hP : ∀ i, 0 ≤ i → i < N → KK t i = pts i) (hS : ∀ j, 0 ≤ j → j < n → 0 ≤ S j ∧ S j ≤ lS t) : ∀ j, 0 ≤ j → j < n → cutP N pts (cutP n S j) ≠ 0 := fun j a b => by
  have h := hS j a b
  have k := KNn_lS ht
  rw [cutP_in (n := n) ⟨a, b⟩, cutP_in ⟨h.1, by omega⟩, ← hP _ h.1 (by omega)]
  refine KK_nz ht.1 ht.2 h.1 ?_
  exact h.2
theorem kn_holds (ht : 0 ≤ t ∧ t ≤ 2) (hN : KNn t = N) (hP : ∀ i, 0 ≤ i → i < N → KK t i = pts i) (hS : ∀ j, 0 ≤ j → j < n → 0 ≤ S j ∧ S j ≤ lS t) (hct : ∀ s, 0 ≤ s → s < 53 → co s = su (eqs S s) n.toNat) (h : NHL co pts N 53) : False := by
  obtain ⟨j, j0, j1, e⟩ := nhl_j hct h
  exact kn_nz ht hN hP hS j j0 j1 e
theorem rw_hd (h : ∀ j, 0 ≤ j → j < n → 0 ≤ S j ∧ S j < N ∧ P (S j) ≠ 0) : ∀ j, 0 ≤ j → j < n → cutP N P (cutP n S j) ≠ 0 := fun j x y => by
  have k := h j x y
  rw [cutP_in (n := n) ⟨x, y⟩, cutP_in ⟨k.1, k.2.1⟩]
  exact k.2.2
theorem r64 (h : ∀ j, 0 ≤ j → j < n → 0 ≤ S j ∧ S j < N) (hN : N ≤ 64) : ∀ j, 0 ≤ j → j < n → 0 ≤ cutP n S j ∧ cutP n S j < 64 := fun j x y => by
  have k := h j x y
  rw [cutP_in ⟨x, y⟩]
  omega
theorem tn0 (ho : o = kO t) (h : AG (cutP N pts) (KK t)) (hN : N ≤ 64) : tnF t S n B 0 = ((o, cutP N pts) : TSt) := by
  rw [tnF_0, ho, AG_c64 h hN]
theorem tn1 (hn : 1 ≤ n) (ho : o = 0) (ha : S 0 = a) (h0 : 0 ≤ a ∧ a < N) (hN : N ≤ 64) (h : ∀ i, 0 ≤ i → i < N → pts i = on0 a i) : tnF t (cutP n S) n B 1 = ((o, cutP N pts) : TSt) := by
  rw [tnF_1, ho, cutP_in (n := n) ⟨by omega, by omega⟩, ha]
  congr 1
  rw [← cutP_cut hN]
  refine cutP_cg (fun i x y => ?_)
  by_cases q : i < N
  · rw [cutP_in ⟨x, q⟩, h i x q]
  · rw [cutP_z (by omega)]
    have := on0_eq a i
    omega
theorem tn2 (hb : (boF t S n).1 = l) (ho : o = l) (h : shP S n l = cutP N pts) : tnF t S n B 2 = ((o, cutP N pts) : TSt) := by
  rw [tnF_2 hb, h, ho]
theorem BOL_b {x : Int × Int} {lim b c : Int} (h : BOL x lim b c) (q : 0 < b) : x.1 = b := by
  rcases h with ⟨_, _, e, _⟩ | ⟨_, e, _⟩ <;> omega
theorem TOK_k (h : B.1 ≠ 0) : TOK B := fun q => absurd q h
theorem BB_k (ht : 0 ≤ t ∧ t ≤ 2) (hB : B = ((kO t, cutP 64 (KK t)) : TSt)) (ho : o = kO t) (hN : KNn t = N) (hP : ∀ i, 0 ≤ i → i < N → KK t i = pts i) : B = ((o, cutP N pts) : TSt) := by
  have k := KNn_lS ht
  rw [hB, ho, AG_c64 (KNp_ag ⟨ht.1, by omega⟩ ⟨by omega, by omega⟩ hP) (by omega)]
end TDx


end
section
/-! 19u -/
def tbX (B : TSt) : Tb := (B.1, 64, B.2)
noncomputable def slS (B : TSt) (S : Int → Int) (n : Int) : Int := if B.1 = 0 then 0 else loF (tbX B) (S (n - 1))
noncomputable def nxS (B : TSt) (s st : Int) : Int × List Int := if B.1 = 0 then (0, []) else (ldF (tbX B) s st, btw st (tsF (tbX B) (ldF (tbX B) s st)).2.1)
abbrev SSt := Int × Int × Int × List Int
noncomputable def stP (B : Int → TSt) (S : Int → Int → Int) (XB : Int → List Int) (i : Int) (p : SSt) : SSt := ((nxS (B 0) (S 0 i) p.1).1, (nxS (B 1) (S 1 i) p.2.1).1, (nxS (B 2) (S 2 i) p.2.2.1).1, p.2.2.2 ++ ((nxS (B 1) (S 1 i) p.2.1).2 ++ ((nxS (B 2) (S 2 i) p.2.2.1).2 ++ ((nxS (B 0) (S 0 i) p.1).2 ++ XB i))))
noncomputable def stS (B : Int → TSt) (S : Int → Int → Int) (XB : Int → List Int) (n : Int) : Nat → SSt
  | 0 => (slS (B 0) (S 0) n, slS (B 1) (S 1) n, slS (B 2) (S 2) n, XB (n - 1))
  | k + 1 => stP B S XB (n - 2 - (k : Int)) (stS B S XB n k)
noncomputable def stE (B : Int → TSt) (p : SSt) : List Int := p.2.2.2 ++ (btw p.2.2.1 (B 2).1 ++ (btw p.2.1 (B 1).1 ++ (btw p.1 (B 0).1 ++ btw 1 1)))
noncomputable def strB (B : Int → TSt) (S : Int → Int → Int) (XB : Int → List Int) (n : Int) : List Int := byw (stE B (stS B S XB n (n - 1).toNat))
section STx
variable {B : Int → TSt} {S S2 : Int → Int → Int} {XB XB2 : Int → List Int} {n k m i : Int}
theorem stS_s {p : SSt} (h : stS B S XB n k.toNat = p) (h0 : 0 ≤ k) (e : m = k + 1) (hi : i = n - 2 - k) : stS B S XB n m.toNat = stP B S XB i p := by
  subst e hi h
  rw [show (k + 1).toNat = k.toNat + 1 by omega]
  show stP B S XB (n - 2 - ((k.toNat : Nat) : Int)) (stS B S XB n k.toNat) = _
  rw [show ((k.toNat : Nat) : Int) = k by omega]
end STx
section SLx
variable {B : TSt} {S sy bi ba : Int → Int} {n s st r o b : Int}
theorem slS_0 (h : B.1 = 0) : slS B S n = 0 := if_pos h
theorem nxS_0 (h : B.1 = 0) : nxS B s st = (0, []) := if_pos h
theorem slS_y (h : B.1 ≠ 0) (hT : TBX (tbX B) o sy bi ba) (q : LOW sy bi o (S (n - 1)) 0 r) : slS B S n = r := by
  unfold slS
  rw [if_neg h]
  exact loF_e hT q
theorem nxS_y (h : B.1 ≠ 0) (hT : TBX (tbX B) o sy bi ba) (q : LEAD sy bi ba o s st r) (hb : bi r = b) : nxS B s st = (r, btw st b) := by
  unfold nxS
  rw [if_neg h, ldF_e hT q, hT.2 r q.1 q.2.1]
  show (r, btw st (bi r)) = _
  rw [hb]
theorem tbX_LD {P : Int → Int} (hL : 5 ≤ o ∧ o ≤ 9) (h : LD P 64 o sy bi ba) : TBX (tbX ((o, cutP 64 P) : TSt)) o sy bi ba := TBX_64 hL (LD_agree hL h AG_cut)
theorem tbX_bt {P : Int → Int} (hL : 5 ≤ o ∧ o ≤ 9) (h : LD P 64 o sy bi ba) : TBX (tbX (btS o P)) o sy bi ba := by
  rw [btS_y (by omega)]
  exact tbX_LD hL h
theorem btS_1 {P : Int → Int} (h : 0 ≤ o) : (btS o P).1 = o := by
  rw [btS_y h]
end SLx

theorem CHN_sub {sy bi ba : Int → Int} {L : Int} {row : Int → Int} {n : Int} (hb : ∀ k, 0 ≤ k → k < p2 L → 0 ≤ bi k) : ∀ (m k : Nat) {st c : Int}, k ≤ m → CHN sy bi ba L row n m st c → ∃ st2 c2, CHN sy bi ba L row n k st2 c2 ∧ c2 ≤ c
  | 0, k, st, c, h, q => by
    rw [show k = 0 by omega]
    exact ⟨st, c, q, Int.le_refl c⟩
  | m + 1, k, st, c, h, q => by
    by_cases e : k = m + 1
    · subst e
      exact ⟨st, c, q, Int.le_refl c⟩
    · obtain ⟨x, y, q1, q2, q3⟩ := q
      obtain ⟨u, v, w1, w2⟩ := CHN_sub hb m k (by omega) q1
      have z := hb st q2.1 q2.2.1
      exact ⟨u, v, w1, by omega⟩
theorem LD_nn {P sy bi ba : Int → Int} {n L : Int} (h : LD P n L sy bi ba) : ∀ k, 0 ≤ k → k < p2 L → 0 ≤ bi k := fun k a b => by
  obtain ⟨r, r0, r1, _, _, r4, _⟩ := h.2.2 k a b
  omega
theorem STI_le {po or_ pS pB pA row : Int → Int} {t n d st x : Int} (h : STI po or_ pS pB pA row t n d st x) (hT : TBL po or_ row t n) (hn : 1 ≤ n) (hd : 0 ≤ d ∧ d ≤ n - 1) (hk : 0 ≤ kO t * n) : x + or_ t ≤ kO t * n := by
  by_cases q : 1 ≤ or_ t
  · obtain ⟨a, b⟩ := h.2 q
    obtain ⟨s, c, hc, hC⟩ := hT.2.2 q
    obtain ⟨sy, bi, ba, st2, l1, l2⟩ := hC
    obtain ⟨u, v, w1, w2⟩ := CHN_sub (LD_nn l1) (n - 1).toNat d.toNat (by omega) l2
    have e := (CHN_uniq (LD_uniq ⟨s.1, s.2.1⟩ (by omega) l1 a) w1 b).2
    omega
  · have := (h.1 (by omega)).2
    have := hT.1
    omega
def XR (mo mb : Int → Int) : Int → List Int := fun i => btw (mo (8001 * 0 + i)) (mb (8001 * 0 + i)) ++ (btw (mo (8001 * 2 + i)) (mb (8001 * 2 + i)) ++ btw (mo (8001 * 1 + i)) (mb (8001 * 1 + i)))
noncomputable def BR (po or_ : Int → Int) : Int → TSt := fun t => btS (or_ t) (sh po (64 * t))


end
section
/-! 19v -/
section SLN
variable {P M B S sy X pl Sf : Int → Int} {n L r s st b nn : Int}
theorem sl_low (h : SL P n L M B S sy X pl) (h0 : 0 ≤ r ∧ r < p2 L) (hs : sy r = s) (hx : XN P sy r = mass (P s)) (e : Sf (nn - 1) = s) : r = slS ((L, cutP n P) : TSt) Sf nn := by
  rcases h.1.1 with q | q
  · rw [slS_0 (show ((L, cutP n P) : TSt).1 = 0 from q)]
    have h1 := h0.2
    rw [q, show p2 0 = 1 by decide] at h1
    omega
  · obtain ⟨bi, ba, hLD, _⟩ := SL_LD h
    exact (slS_y (show ((L, cutP n P) : TSt).1 ≠ 0 from by show L ≠ 0; omega) (TBX_64 q hLD) (by rw [e]; exact SL_LOW h0 hs hx)).symm
theorem btw_z {v : Int} : btw v 0 = [] := rfl
theorem sl_nx (h : SL P n L M B S sy X pl) (h0 : 0 ≤ r ∧ r < p2 L) (hs : sy r = s) (hst : 0 ≤ st ∧ st < p2 L) (hb : BA (mass (P s)) L st b) (hx : XN P sy r = (st + p2 L) / p2 b) : nxS ((L, cutP n P) : TSt) s st = (r, btw st b) := by
  rcases h.1.1 with q | q
  · rw [nxS_0 (show ((L, cutP n P) : TSt).1 = 0 from q)]
    have h1 := h0.2
    rw [q, show p2 0 = 1 by decide] at h1
    have b0 := hb.1
    have b1 := hb.2.1
    rw [show r = 0 by omega, show b = 0 by omega, btw_z]
  · obtain ⟨bi, ba, hLD, hBI⟩ := SL_LD h
    have w := SL_LEAD h hBI h0 hs hst hb hx
    exact nxS_y (show ((L, cutP n P) : TSt).1 ≠ 0 from by show L ≠ 0; omega) (TBX_64 q hLD) w.1 w.2
end SLN

def XC (ll ml nu s0 s1 s2 : Int → Int) : Int → List Int := fun i => btw (ll i - lBs (s0 i)) (lB (s0 i)) ++ (btw (ml i - mBs (s2 i)) (mB (s2 i)) ++ btw (nu i) (s1 i))
theorem sbI_v {a b : Int} (h : inr (a - b)) : sbI a b = a - b := by
  unfold sbI
  have e : rop 1 (Int32.ofInt a) (Int32.ofInt b) = Int32.ofInt (a - b) := by
    show Int32.ofInt a - Int32.ofInt b = Int32.ofInt (a - b)
    rw [Int32.ofInt_sub]
  rw [e]
  exact toI_ofI h
def SF3 (a b c : Int → Int) : Int → Int → Int := fun t => if t = 0 then a else if t = 1 then b else c
theorem SF3_0 {a b c : Int → Int} : SF3 a b c 0 = a := rfl
theorem SF3_1 {a b c : Int → Int} : SF3 a b c 1 = b := rfl
theorem SF3_2 {a b c : Int → Int} : SF3 a b c 2 = c := rfl
theorem stS_cg3 {B : Int → TSt} {S S2 : Int → Int → Int} {XB XB2 : Int → List Int} {n : Int} (e0 : ∀ j, 0 ≤ j → j < n → S 0 j = S2 0 j) (e1 : ∀ j, 0 ≤ j → j < n → S 1 j = S2 1 j) (e2 : ∀ j, 0 ≤ j → j < n → S 2 j = S2 2 j) (f : ∀ j, 0 ≤ j → j < n → XB j = XB2 j) : ∀ q : Nat, (q : Int) + 1 ≤ n → stS B S XB n q = stS B S2 XB2 n q
  | 0, h => by
    show (slS (B 0) (S 0) n, slS (B 1) (S 1) n, slS (B 2) (S 2) n, XB (n - 1)) = (slS (B 0) (S2 0) n, slS (B 1) (S2 1) n, slS (B 2) (S2 2) n, XB2 (n - 1))
    unfold slS
    rw [e0 (n - 1) (by omega) (by omega), e1 (n - 1) (by omega) (by omega), e2 (n - 1) (by omega) (by omega), f (n - 1) (by omega) (by omega)]
  | q + 1, h => by
    show stP B S XB (n - 2 - (q : Int)) (stS B S XB n q) = stP B S2 XB2 (n - 2 - (q : Int)) (stS B S2 XB2 n q)
    rw [stS_cg3 e0 e1 e2 f q (by omega)]
    unfold stP
    rw [e0 _ (by omega) (by omega), e1 _ (by omega) (by omega), e2 _ (by omega) (by omega), f _ (by omega) (by omega)]
theorem strB_cg3 {B : Int → TSt} {S S2 : Int → Int → Int} {XB XB2 : Int → List Int} {n : Int} (hn : 1 ≤ n) (e0 : ∀ j, 0 ≤ j → j < n → S 0 j = S2 0 j) (e1 : ∀ j, 0 ≤ j → j < n → S 1 j = S2 1 j) (e2 : ∀ j, 0 ≤ j → j < n → S 2 j = S2 2 j) (f : ∀ j, 0 ≤ j → j < n → XB j = XB2 j) : strB B S XB n = strB B S2 XB2 n := by
  unfold strB
  rw [stS_cg3 e0 e1 e2 f _ (by omega)]

theorem mdv_e {a b c : Int} (ha : 0 ≤ a ∧ a ≤ 3) (hb : 0 ≤ b ∧ b ≤ 3) (hc : 0 ≤ c ∧ c ≤ 3) : orI (orI (slI a 6) (slI b 4)) (slI c 2) = 64 * a + 16 * b + 4 * c := by
  have key : ∀ x y z : Fin 4, orI (orI (slI (x.val : Int) 6) (slI (y.val : Int) 4)) (slI (z.val : Int) 2) = 64 * (x.val : Int) + 16 * (y.val : Int) + 4 * (z.val : Int) := by decide +kernel
  have w := key ⟨a.toNat, by omega⟩ ⟨b.toNat, by omega⟩ ⟨c.toNat, by omega⟩
  rw [show (((⟨a.toNat, by omega⟩ : Fin 4).val : Nat) : Int) = a from by show ((a.toNat : Nat) : Int) = a; omega, show (((⟨b.toNat, by omega⟩ : Fin 4).val : Nat) : Int) = b from by show ((b.toNat : Nat) : Int) = b; omega, show (((⟨c.toNat, by omega⟩ : Fin 4).val : Nat) : Int) = c from by show ((c.toNat : Nat) : Int) = c; omega] at w
  exact w
theorem rwN_1 {n k h r : Int} (hh : h = hN n) (q : h = 1) (e : r = n * 8 + k) : r = rwN n k := by
  refine rwN_e (.inl ⟨?_, e⟩)
  unfold hN at hh
  by_cases c : n < 32
  · exact c
  · rw [if_neg c] at hh
    by_cases d : n < 4096
    · rw [if_pos d] at hh; omega
    · rw [if_neg d] at hh; omega
theorem rwN_2 {n k h r : Int} (hh : h = hN n) (q : h = 2) (e : r = n * 16 + 4 + k) : r = rwN n k := by
  unfold hN at hh
  by_cases c : n < 32
  · rw [if_pos c] at hh; omega
  · rw [if_neg c] at hh
    by_cases d : n < 4096
    · exact rwN_e (.inr (.inl ⟨by omega, d, e⟩))
    · rw [if_neg d] at hh; omega
theorem rwN_3 {n k h r : Int} (hh : h = hN n) (q : h ≠ 1 ∧ h ≠ 2) (e : r = n * 16 + 12 + k) : r = rwN n k := by
  unfold hN at hh
  by_cases c : n < 32
  · rw [if_pos c] at hh; omega
  · rw [if_neg c] at hh
    by_cases d : n < 4096
    · rw [if_pos d] at hh; omega
    · exact rwN_e (.inr (.inr ⟨by omega, e⟩))
theorem HOF_w2 {n b l : Int} (h : HOF n b l) (h0 : 0 ≤ l) (hn : n < 262144) : b < 262144 ∧ n < p2 (wdF l) := by
  rcases h with q | q | q | q | q
  · refine ⟨by omega, HPW (.inl ⟨(wdF_e (.inl ⟨by omega, rfl⟩)).symm, by omega⟩)⟩
  · omega
  · refine ⟨by omega, HPW (.inr (.inl ⟨(wdF_e (.inr (.inl ⟨by omega, rfl⟩))).symm, by omega⟩))⟩
  · refine ⟨by omega, HPW (.inr (.inr ⟨(wdF_e (.inr (.inr ⟨by omega, rfl⟩))).symm, by omega⟩))⟩
  · omega


end
section
/-! 19w -/
section LBG
variable {L M : Int → Int} {n k : Int} {cod : Option (Int × (Int → Int))}
theorem ltC_cg (h : ∀ k, 0 ≤ k → k < n → L k = M k) : ltC cod L n k = ltC cod M n k := by
  unfold ltC
  rw [(hfG_cg h).1, (hfG_cg h).2]
theorem ltB_cg (hn : 0 ≤ n) (h : ∀ k, 0 ≤ k → k < n → L k = M k ∧ 0 ≤ L k ∧ L k < 256) (hk : k = 1 → 1 ≤ n) : ltB cod L n k = ltB cod M n k := by
  have h1 : ∀ k, 0 ≤ k → k < n → L k = M k := fun k a b => (h k a b).1
  have e2 : STZ (hfG L n) L n = STZ (hfG M n) M n := by
    rw [(hfG_cg h1).1]
    exact STZ_cg (fun _ _ _ => rfl) h
  have e3 : F1 (hfG L n) (hfT L n) L n = F1 (hfG M n) (hfT M n) M n := by
    rw [(hfG_cg h1).1, (hfG_cg h1).2]
    exact F1_cg (fun _ _ _ => rfl) hn h
  unfold ltB
  by_cases k0 : k = 0
  · rw [if_pos k0, if_pos k0]
    congr 1
    exact List.map_congr_left (fun i hi => by
      have hi := List.mem_range.mp hi
      exact h1 (i : Int) (by omega) (by omega))
  · rw [if_neg k0, if_neg k0]
    by_cases k1 : k = 1
    · rw [if_pos k1, if_pos k1, h1 0 (Int.le_refl 0) (by have := hk k1; omega)]
    · rw [if_neg k1, if_neg k1, dscF_cg h1, e2, e3]
      by_cases k2 : k = 2
      · rw [if_pos k2, if_pos k2]
      · rw [if_neg k2, if_neg k2]
        cases cod with
        | none => rfl
        | some c =>
          show nb (HDV 3 (hlF n (STZ c.2 L n)) n (STZ c.2 L n) (wdF (hlF n (STZ c.2 L n)))) (hbF (hlF n (STZ c.2 L n))) ++ F1 c.2 c.1 L n = nb (HDV 3 (hlF n (STZ c.2 M n)) n (STZ c.2 M n) (wdF (hlF n (STZ c.2 M n)))) (hbF (hlF n (STZ c.2 M n))) ++ F1 c.2 c.1 M n
          rw [STZ_cg (H := c.2) (fun _ _ _ => rfl) h, F1_cg (H := c.2) (fun _ _ _ => rfl) hn h]
theorem lw_1 (h : lwF cod L n = 1) : 1 ≤ n := by
  have a := l2F_2 (L := L) (n := n) (x := l3F cod L n (l1F L n))
  have b : (l2F L n (l3F cod L n (l1F L n))).2 = 1 := h
  have c : (l3F cod L n (l1F L n)).2 = 1 := by
    rcases a with a | a
    · rw [a] at b; exact absurd b (by decide)
    · rw [a] at b; exact b
  have d : (l1F L n).2 = 1 := by
    cases cod with
    | none => exact c
    | some p =>
      obtain ⟨T, G⟩ := p
      rw [l3F_some] at c
      by_cases q : 0 < CZN G L n 0 ∧ CZN G L n 0 < (l1F L n).1
      · rw [if_pos q] at c; exact absurd (show (3 : Int) = 1 from c) (by decide)
      · rw [if_neg q] at c; exact c
  unfold l1F at d
  by_cases q : ALK L n ∧ hN n + 1 < hN n + n
  · have := q.1.1; omega
  · rw [if_neg q] at d; exact absurd (show (0 : Int) = 1 from d) (by decide)
end LBG

abbrev Sqs := List (Int × Int × Int)
def qA (Q : Sqs) (j : Int) : Int × Int × Int := Q.getD j.toNat (0, 0, 0)
def qL (Q : Sqs) (j : Int) : Int := (qA Q j).1
def qM (Q : Sqs) (j : Int) : Int := (qA Q j).2.1
def qD (Q : Sqs) (j : Int) : Int := (qA Q j).2.2
theorem sq_len {li le di : Int → Int} {n : Int} : (sq li le di n).length = n.toNat := by
  unfold sq
  rw [List.length_map, List.length_range]
theorem qA_sq {li le di : Int → Int} {n j : Int} (h0 : 0 ≤ j) (h1 : j < n) : qA (sq li le di n) j = (li j, le j, di j) := by
  unfold qA sq
  rw [List.getD_eq_getElem?_getD, List.getElem?_map, List.getElem?_range (by omega)]
  show (li ((j.toNat : Nat) : Int), le ((j.toNat : Nat) : Int), di ((j.toNat : Nat) : Int)) = _
  rw [show ((j.toNat : Nat) : Int) = j by omega]
def SYc (Q : Sqs) (r : Int × Int × Int) : Int → Int → Int := fun t j => if t = 0 then gsB lBs (qL Q j) 36 else if t = 1 then gsB p2 (nuS (qL Q) (qD Q) r j) 31 else gsB mBs (qM Q j) 53
def Sc (Q : Sqs) (r : Int × Int × Int) (t : Int) : Int → Int := cutP (Q.length : Int) (SYc Q r t)
def XN_ (Q : Sqs) (r : Int × Int × Int) : Int → List Int := fun i => btw (qL Q i - lBs (SYc Q r 0 i)) (lB (SYc Q r 0 i)) ++ (btw (qM Q i - mBs (SYc Q r 2 i)) (mB (SYc Q r 2 i)) ++ btw (nuS (qL Q) (qD Q) r i) (SYc Q r 1 i))
def numB (n : Int) : List Int := if n < 128 then [n] else [128 + n / 256, n % 256]
noncomputable def mdQ (B : Int → TSt) (Q : Sqs) (r : Int × Int × Int) (t : Int) : Int := mwF t (Sc Q r t) (Q.length : Int) (B t)
noncomputable def bnQ (B : Int → TSt) (Q : Sqs) (r : Int × Int × Int) : Int → TSt := fun t => tnF t (Sc Q r t) (Q.length : Int) (B t) (mdQ B Q r t)
noncomputable def tqB (B : Int → TSt) (Q : Sqs) (r : Int × Int × Int) (t : Int) : List Int := ttB t (Sc Q r t) (Q.length : Int) (mdQ B Q r t)
noncomputable def sqB (B : Int → TSt) (Q : Sqs) (r : Int × Int × Int) : List Int := numB (Q.length : Int) ++ (if (Q.length : Int) = 0 then [] else [64 * mdQ B Q r 0 + 16 * mdQ B Q r 1 + 4 * mdQ B Q r 2] ++ (tqB B Q r 0 ++ tqB B Q r 1 ++ tqB B Q r 2 ++ strB (bnQ B Q r) (Sc Q r) (XN_ Q r) (Q.length : Int)))
noncomputable def bsQ (B : Int → TSt) (Q : Sqs) (r : Int × Int × Int) : Int → TSt := if (Q.length : Int) = 0 then B else bnQ B Q r
theorem nuS_cg {ll ll2 di di2 : Int → Int} {r : Int × Int × Int} {n j : Int} (h : ∀ i, 0 ≤ i → i < n → ll i = ll2 i ∧ di i = di2 i) (h0 : 0 ≤ j) (h1 : j < n) : nuS ll di r j = nuS ll2 di2 r j := by
  unfold nuS
  rw [laS_congr (n := j.toNat) (fun i a b => h i a (by omega)), (h j h0 h1).1, (h j h0 h1).2]
section SQG
variable {li le di : Int → Int} {n j : Int} {r : Int × Int × Int}
theorem qLD : ∀ i, 0 ≤ i → i < n → qL (sq li le di n) i = li i ∧ qD (sq li le di n) i = di i := fun i a b => by
  unfold qL qD
  rw [qA_sq a b]
  exact ⟨rfl, rfl⟩
theorem SYc_0 (h0 : 0 ≤ j) (h1 : j < n) : SYc (sq li le di n) r 0 j = gsB lBs (li j) 36 := by
  unfold SYc
  rw [if_pos rfl]
  rw [(qLD j h0 h1).1]
theorem SYc_2 (h0 : 0 ≤ j) (h1 : j < n) : SYc (sq li le di n) r 2 j = gsB mBs (le j) 53 := by
  unfold SYc
  rw [if_neg (by decide), if_neg (by decide)]
  unfold qM
  rw [qA_sq h0 h1]
theorem SYc_1 (h0 : 0 ≤ j) (h1 : j < n) : SYc (sq li le di n) r 1 j = gsB p2 (nuS li di r j) 31 := by
  unfold SYc
  rw [if_neg (by decide), if_pos rfl]
  rw [nuS_cg (n := n) qLD h0 h1]
theorem XN_e (h0 : 0 ≤ j) (h1 : j < n) : XN_ (sq li le di n) r j = btw (li j - lBs (gsB lBs (li j) 36)) (lB (gsB lBs (li j) 36)) ++ (btw (le j - mBs (gsB mBs (le j) 53)) (mB (gsB mBs (le j) 53)) ++ btw (nuS li di r j) (gsB p2 (nuS li di r j) 31)) := by
  unfold XN_
  rw [SYc_0 h0 h1, SYc_1 h0 h1, SYc_2 h0 h1, (qLD j h0 h1).1, nuS_cg (n := n) qLD h0 h1]
  unfold qM
  rw [qA_sq h0 h1]
theorem Sc_e {t : Int} {S : Int → Int} (hn : 0 ≤ n) (h : ∀ j, 0 ≤ j → j < n → S j = SYc (sq li le di n) r t j) : cutP n S = Sc (sq li le di n) r t := by
  unfold Sc
  rw [sq_len, show ((n.toNat : Nat) : Int) = n by omega]
  exact cutP_cg h

theorem TLW_Sc {sy mb mo : Int → Int} {t : Int} (hn : 0 ≤ n) (h : TLW sy mb mo li le di r n) (ht : t = 0 ∨ t = 1 ∨ t = 2) : cutP n (sh sy (8001 * t)) = Sc (sq li le di n) r t := Sc_e hn (fun j a b => by
  have w := h j a b
  rcases ht with q | q | q <;> subst q
  · rw [SYc_0 a b]; exact w.1.1
  · rw [SYc_1 a b]; exact w.2.2.1
  · rw [SYc_2 a b]; exact w.2.1.1)
theorem TLW_XR {sy mb mo : Int → Int} (h : TLW sy mb mo li le di r n) (a : 0 ≤ j) (b : j < n) (hs : 0 ≤ gsB p2 (nuS li di r j) 31) : XR mo mb j = XN_ (sq li le di n) r j := by
  obtain ⟨⟨_, w1, w2⟩, ⟨_, w3, w4⟩, ⟨_, w5, w6⟩⟩ := h j a b
  rw [XN_e a b]
  unfold XR
  rw [w1, w2, w3, w4, w5, w6]
  congr 2
  refine btw_congr ?_
  have e : nuS li di r j - p2 (gsB p2 (nuS li di r j) 31) = nuS li di r j + p2 (gsB p2 (nuS li di r j) 31) * (-1) := by omega
  rw [e, Int.add_mul_emod_self_left]
end SQG
theorem gsB_nn {f : Int → Int} {v : Int} : ∀ n : Nat, 0 ≤ gsB f v n
  | 0 => Int.le_refl 0
  | n + 1 => by
    show 0 ≤ if f (n : Int) ≤ v then (n : Int) else gsB f v n
    have ih := gsB_nn (f := f) (v := v) n
    split <;> omega


end
section
/-! 19x -/
noncomputable def tqU (B : Int → TSt) (Q : Sqs) (r : Int × Int × Int) : Nat → List Int
  | 0 => []
  | k + 1 => tqU B Q r k ++ tqB B Q r (k : Int)
noncomputable def mdU (B : Int → TSt) (Q : Sqs) (r : Int × Int × Int) : Nat → Int
  | 0 => 0
  | k + 1 => mdU B Q r k + mdQ B Q r (k : Int) * p2 (6 - 2 * (k : Int))
noncomputable def ntU (o : Int) (B : Int → TSt) (Q : Sqs) (r : Int × Int × Int) (f : Int → Int) : Nat → Int → Int
  | 0 => f
  | k + 1 => upd1 (ntU o B Q r f k) (o + mdQ B Q r (k : Int)) (adI (ntU o B Q r f k (o + mdQ B Q r (k : Int))) 1)
section QUx
variable {B B2 F : Int → TSt} {Q : Sqs} {r : Int × Int × Int} {f : Int → Int} {k m o : Int}
theorem tqU_s (h : 0 ≤ k) (e : m = k + 1) : tqU B Q r m.toNat = tqU B Q r k.toNat ++ tqB B Q r k := by
  subst e
  rw [show (k + 1).toNat = k.toNat + 1 by omega]
  show tqU B Q r k.toNat ++ tqB B Q r ((k.toNat : Nat) : Int) = _
  rw [show ((k.toNat : Nat) : Int) = k by omega]
theorem mdU_s (h : 0 ≤ k) (e : m = k + 1) : mdU B Q r m.toNat = mdU B Q r k.toNat + mdQ B Q r k * p2 (6 - 2 * k) := by
  subst e
  rw [show (k + 1).toNat = k.toNat + 1 by omega]
  show mdU B Q r k.toNat + mdQ B Q r ((k.toNat : Nat) : Int) * p2 (6 - 2 * ((k.toNat : Nat) : Int)) = _
  rw [show ((k.toNat : Nat) : Int) = k by omega]
theorem ntU_s (h : 0 ≤ k) (e : m = k + 1) : ntU o B Q r f m.toNat = upd1 (ntU o B Q r f k.toNat) (o + mdQ B Q r k) (adI (ntU o B Q r f k.toNat (o + mdQ B Q r k)) 1) := by
  subst e
  rw [show (k + 1).toNat = k.toNat + 1 by omega]
  show upd1 (ntU o B Q r f k.toNat) (o + mdQ B Q r ((k.toNat : Nat) : Int)) (adI (ntU o B Q r f k.toNat (o + mdQ B Q r ((k.toNat : Nat) : Int))) 1) = _
  rw [show ((k.toNat : Nat) : Int) = k by omega]
theorem tqU_3 : tqU B Q r (3 : Int).toNat = tqB B Q r 0 ++ tqB B Q r 1 ++ tqB B Q r 2 := by
  show (([] ++ tqB B Q r ((0 : Nat) : Int)) ++ tqB B Q r ((1 : Nat) : Int)) ++ tqB B Q r ((2 : Nat) : Int) = _
  rw [List.nil_append]
  rfl
theorem mdU_3 : mdU B Q r (3 : Int).toNat = 64 * mdQ B Q r 0 + 16 * mdQ B Q r 1 + 4 * mdQ B Q r 2 := by
  show ((0 + mdQ B Q r ((0 : Nat) : Int) * p2 (6 - 2 * ((0 : Nat) : Int))) + mdQ B Q r ((1 : Nat) : Int) * p2 (6 - 2 * ((1 : Nat) : Int))) + mdQ B Q r ((2 : Nat) : Int) * p2 (6 - 2 * ((2 : Nat) : Int)) = _
  rw [show p2 (6 - 2 * ((0 : Nat) : Int)) = 64 by decide, show p2 (6 - 2 * ((1 : Nat) : Int)) = 16 by decide, show p2 (6 - 2 * ((2 : Nat) : Int)) = 4 by decide]
  show 0 + mdQ B Q r 0 * 64 + mdQ B Q r 1 * 16 + mdQ B Q r 2 * 4 = _
  omega

theorem md_or {a v : Int} (hk : 0 ≤ k ∧ k ≤ 2) (hm : 0 ≤ m ∧ m ≤ 3) (ha : k = 0 ∧ a = 0 ∨ k = 1 ∧ a % 64 = 0 ∧ 0 ≤ a ∧ a ≤ 192 ∨ k = 2 ∧ a % 16 = 0 ∧ 0 ≤ a ∧ a ≤ 240) (hv : v = 6 - 2 * k) : orI a (slI m v) = a + m * p2 v := by
  subst hv
  have e6 : p2 6 = 64 := by decide
  have e4 : p2 4 = 16 := by decide
  have e2 : p2 2 = 4 := by decide
  rcases ha with ⟨q, w⟩ | ⟨q, w, w0, w1⟩ | ⟨q, w, w0, w1⟩ <;> subst q
  · subst w
    rw [show (6 : Int) - 2 * 0 = 6 by decide, slI_v (by decide) ⟨by rw [e6]; omega, by rw [e6]; omega⟩, orI_shk (by decide) ⟨by decide, by decide⟩ hm.1 (by rw [e6]; omega)]
  · have a1 : a = a / 64 * p2 6 := by rw [e6]; omega
    rw [show (6 : Int) - 2 * 1 = 4 by decide, slI_v (by decide) ⟨by rw [e4]; omega, by rw [e4]; omega⟩, a1, orI_al (by decide) ⟨by rw [e4]; omega, by rw [e4, e6]; omega⟩ (by omega) (by rw [e4, e6]; omega)]
    omega
  · have a1 : a = a / 16 * p2 4 := by rw [e4]; omega
    rw [show (6 : Int) - 2 * 2 = 2 by decide, slI_v (by decide) ⟨by rw [e2]; omega, by rw [e2]; omega⟩, a1, orI_al (by decide) ⟨by rw [e2]; omega, by rw [e2, e4]; omega⟩ (by omega) (by rw [e2, e4]; omega)]
    omega
theorem stS_B {S : Int → Int → Int} {XB : Int → List Int} {n : Int} (e0 : B 0 = B2 0) (e1 : B 1 = B2 1) (e2 : B 2 = B2 2) : ∀ q : Nat, stS B S XB n q = stS B2 S XB n q
  | 0 => by
    show (slS (B 0) (S 0) n, slS (B 1) (S 1) n, slS (B 2) (S 2) n, XB (n - 1)) = (slS (B2 0) (S 0) n, slS (B2 1) (S 1) n, slS (B2 2) (S 2) n, XB (n - 1))
    rw [e0, e1, e2]
  | q + 1 => by
    show stP B S XB (n - 2 - (q : Int)) (stS B S XB n q) = stP B2 S XB (n - 2 - (q : Int)) (stS B2 S XB n q)
    rw [stS_B e0 e1 e2 q]
    unfold stP
    rw [e0, e1, e2]
theorem strB_B {S : Int → Int → Int} {XB : Int → List Int} {n : Int} (e0 : B 0 = B2 0) (e1 : B 1 = B2 1) (e2 : B 2 = B2 2) : strB B S XB n = strB B2 S XB n := by
  unfold strB stE
  rw [stS_B e0 e1 e2, e0, e1, e2]

def BDO (F B : Int → TSt) (Q : Sqs) (r : Int × Int × Int) (k : Int) : Prop := (∀ t, 0 ≤ t → t < k → F t = bnQ B Q r t) ∧ (∀ t, k ≤ t → t < 3 → F t = B t)
theorem BDO_0 : BDO B B Q r 0 := ⟨fun t a b => absurd b (by omega), fun _ _ _ => rfl⟩
theorem BDO_s {G : Int → TSt} (h : BDO F B Q r k) (e : m = k + 1) (hk : G k = bnQ B Q r k) (ho : ∀ t, 0 ≤ t → t < 3 → t ≠ k → G t = F t) (k0 : 0 ≤ k ∧ k < 3) : BDO G B Q r m := by
  subst e
  refine ⟨fun t a b => ?_, fun t a b => ?_⟩
  · by_cases q : t = k
    · rw [q]; exact hk
    · rw [ho t a (by omega) q]; exact h.1 t a (by omega)
  · rw [ho t (by omega) b (by omega)]; exact h.2 t (by omega) b
theorem BR_o {po po2 or_ or2 : Int → Int} {t k : Int} (h1 : FRM po po2 (64 * k) (64 * k + 64)) (h2 : FRM or_ or2 k (k + 1)) (q : t ≠ k) : BR po2 or2 t = BR po or_ t := by
  unfold BR
  rw [h2 t (by omega)]
  unfold btS
  by_cases z : or_ t < 0
  · rw [if_pos z, if_pos z]
  · rw [if_neg z, if_neg z]
    congr 1
    exact cutP_cg (fun i a b => h1 (64 * t + i) (by omega))
end QUx

def SQW (B B2 : Int → TSt) (Q : Sqs) (r : Int × Int × Int) (f f2 mg : Int → Int) (mb : Int) (X : List Int → Prop) : Prop := X (sqB B Q r) ∧ (∀ t, 0 ≤ t → t < 3 → B2 t = bsQ B Q r t) ∧ f2 = (if (Q.length : Int) = 0 then f else ntU 8 B Q r f 3) ∧ MDX mg mb
theorem sqB_0 {B : Int → TSt} {Q : Sqs} {r : Int × Int × Int} (h : (Q.length : Int) = 0) : sqB B Q r = numB (Q.length : Int) := by
  unfold sqB
  rw [if_pos h, List.append_nil]
theorem numB_1 {n : Int} (h : n < 128) : numB n = [n] := if_pos h
theorem numB_2 {n : Int} (h : 128 ≤ n) : numB n = [128 + n / 256, n % 256] := if_neg (by omega)


end
section
/-! 19y -/
noncomputable def qsF (D : List Int) (w l way h : Int) : Sqs × Int := CH ([], 0) (fun p => GOS (MTL (ap D) (D.length : Int) w l way ((D.length : Int) - l)) (D.length : Int) h h p.1 p.2)
noncomputable def ltQ (D : List Int) (w l way h : Int) : List Int := LTS (ap D) h (qsF D w l way h).1 (qsF D w l way h).2
abbrev WSt := Option (Int × (Int → Int)) × (Int → TSt) × (Int × Int × Int) × (Int → Int)
noncomputable def pkW (st : WSt) (T : List Int) : Int := lwF st.1 (ap T) (T.length : Int)
noncomputable def pkP (st : WSt) (T : List Int) (Q : Sqs) : List Int := ltB st.1 (ap T) (T.length : Int) (pkW st T) ++ sqB st.2.1 Q st.2.2.1
def c1U (c : Int → Int) (i v : Int) : Int → Int := upd1 c i (adI (c i) v)
noncomputable def pkS (st : WSt) (T : List Int) (Q : Sqs) : WSt := (ltC st.1 (ap T) (T.length : Int) (pkW st T), bsQ st.2.1 Q st.2.2.1, laS (qL Q) (qD Q) st.2.2.1 Q.length, c1U (c1U (c1U (if (Q.length : Int) = 0 then st.2.2.2 else ntU 8 st.2.1 Q st.2.2.1 st.2.2.2 3) 2 1) 3 (Q.length : Int)) (4 + pkW st T) 1)
def cnS (st : WSt) (i : Int) : WSt := (st.1, st.2.1, st.2.2.1, c1U st.2.2.2 i 1)
def OND (D : List Int) (h : Int) : Prop := h < (D.length : Int) ∧ ∀ k, h ≤ k → k < (D.length : Int) → ap D k = ap D h
noncomputable def blF (D : List Int) (w l way h last : Int) (st : WSt) : List Int × WSt := haveI : ∀ p : Prop, Decidable p := Classical.propDecidable
  if OND D h then (nb (8 * ((D.length : Int) - h) + 2 + last) 3 ++ [ap D h], cnS st 1)
  else if ((pkP st (ltQ D w l way h) (qsF D w l way h).1).length : Int) < (D.length : Int) - h then (nb (8 * ((pkP st (ltQ D w l way h) (qsF D w l way h).1).length : Int) + 4 + last) 3 ++ pkP st (ltQ D w l way h) (qsF D w l way h).1, pkS st (ltQ D w l way h) (qsF D w l way h).1)
  else (nb (8 * ((D.length : Int) - h) + last) 3 ++ sc (ap D) h (D.length : Int), cnS st 0)
section BLx
variable {D T : List Int} {w l way h last : Int} {st : WSt} {P : List Int} {Q : Sqs}
theorem blF_1 (q : OND D h) : blF D w l way h last st = (nb (8 * ((D.length : Int) - h) + 2 + last) 3 ++ [ap D h], cnS st 1) := if_pos q
theorem blF_2 (q : ¬ OND D h) (eQ : (qsF D w l way h).1 = Q) (eT : ltQ D w l way h = T) (eP : pkP st T Q = P) (c : (P.length : Int) < (D.length : Int) - h) : blF D w l way h last st = (nb (8 * (P.length : Int) + 4 + last) 3 ++ P, pkS st T Q) := by
  subst eQ eT eP
  unfold blF
  rw [if_neg q, if_pos c]
theorem blF_3 (q : ¬ OND D h) (eQ : (qsF D w l way h).1 = Q) (eT : ltQ D w l way h = T) (eP : pkP st T Q = P) (c : (D.length : Int) - h ≤ (P.length : Int)) : blF D w l way h last st = (nb (8 * ((D.length : Int) - h) + last) 3 ++ sc (ap D) h (D.length : Int), cnS st 0) := by
  subst eQ eT eP
  unfold blF
  rw [if_neg q, if_neg (by omega)]
end BLx

theorem LTS_c {f g : Int → Int} {n : Int} {M : Int → Int → Int → Prop} (e : ∀ k, 0 ≤ k → k < n → u8 (f k) = u8 (g k)) : ∀ {S : List (Int × Int × Int)} {p s t : Int}, GOS M n p s S t → 0 ≤ s → 0 ≤ t → s ≤ p → (∀ x ∈ S, 0 ≤ x.1) → LTS f s S t = LTS g s S t
  | [], p, s, t, h, h0, h1, h2, _ => sc_congr (fun k a b => e k (by omega) (by have := h.2.1; omega))
  | (a, b, d) :: S, p, s, t, h, h0, h1, h2, h3 => by
    obtain ⟨k1, k2, k3, k4, k5, k6⟩ := h
    have a0 := h3 (a, b, d) (List.mem_cons_self ..)
    have a0 : 0 ≤ a := a0
    show sc f s (s + a) ++ LTS f (s + a + b) S t = sc g s (s + a) ++ LTS g (s + a + b) S t
    rw [sc_congr (fun k x y => e k (by omega) (by omega)), LTS_c e k6 (by omega) h1 (Int.le_refl _) (fun x hx => h3 x (List.mem_cons_of_mem _ hx))]
theorem GOS_a {M : Int → Int → Int → Prop} {n : Int} : ∀ {S : List (Int × Int × Int)} {p s t : Int}, GOS M n p s S t → s ≤ p → ∀ x ∈ S, 0 ≤ x.1
  | [], _, _, _, _, _, x, hx => absurd hx (by simp)
  | (a, b, d) :: S, p, s, t, h, hp, x, hx => by
    obtain ⟨k1, k2, k3, k4, k5, k6⟩ := h
    rcases List.mem_cons.mp hx with e | e
    · rw [e]
      show 0 ≤ a
      omega
    · exact GOS_a k6 (Int.le_refl _) x e
theorem GOR_q {d li le di lt : Int → Int} {n h k lc w l way : Int} {D : List Int} (hl : 1 ≤ l) (hg : GOR (MTL d n w l way (n - l)) d n h li le di k lt lc) (hD : sc d 0 n = D) (hn : 0 ≤ n) (h0 : 0 ≤ h) (hf : BYI d) : (qsF D w l way h).1 = sq li le di k ∧ ltQ D w l way h = sc lt 0 lc := by
  obtain ⟨t, t0, g, e⟩ := hg
  have len : (D.length : Int) = n := by
    rw [← hD, sc_lenI hn]
    omega
  have c : CEQ d (ap D) n := by
    rw [← hD]
    exact CEQ_ap hf (Int.le_refl n)
  have g2 : GOS (MTL (ap D) n w l way (n - l)) n h h (sq li le di k) t := GOS_c (fun _ _ _ k => MTL_c c k) g
  have q : qsF D w l way h = (sq li le di k, t) := by
    refine CH_e (by rw [len]; exact g2) (fun p y => ?_)
    rw [len] at y
    have z := GOS_det (M := MTL (ap D) n w l way (n - l)) (fun p n1 d1 n2 d2 x y => MTL_det hl x y) y g2
    exact Prod.ext z.1 z.2
  refine ⟨by rw [q], ?_⟩
  unfold ltQ
  rw [q, e]
  refine (LTS_c (fun k a b => ?_) g h0 t0 (Int.le_refl h) (GOS_a g (Int.le_refl h))).symm
  rw [← hD, ap_sc a b, u8_id (u8_rng _)]

def STQ (st : WSt) (top : Int) (le po or_ la nt : Int → Int) : Prop := st.1 = cdO top le ∧ (∀ t, 0 ≤ t → t < 3 → st.2.1 t = BR po or_ t) ∧ st.2.2.1 = (la 0, la 1, la 2) ∧ ∀ i, 0 ≤ i → i < 12 → st.2.2.2 i = nt i
theorem mdQ_B {B B2 : Int → TSt} {Q : Sqs} {r : Int × Int × Int} {t : Int} (h : B t = B2 t) : mdQ B Q r t = mdQ B2 Q r t := by
  unfold mdQ
  rw [h]
theorem bnQ_B {B B2 : Int → TSt} {Q : Sqs} {r : Int × Int × Int} {t : Int} (h : B t = B2 t) : bnQ B Q r t = bnQ B2 Q r t := by
  show tnF t (Sc Q r t) (Q.length : Int) (B t) (mdQ B Q r t) = tnF t (Sc Q r t) (Q.length : Int) (B2 t) (mdQ B2 Q r t)
  rw [mdQ_B h, h]
theorem tqB_B {B B2 : Int → TSt} {Q : Sqs} {r : Int × Int × Int} {t : Int} (h : B t = B2 t) : tqB B Q r t = tqB B2 Q r t := by
  unfold tqB
  rw [mdQ_B h]
theorem sqB_B {B B2 : Int → TSt} {Q : Sqs} {r : Int × Int × Int} (h : ∀ t, 0 ≤ t → t < 3 → B t = B2 t) : sqB B Q r = sqB B2 Q r := by
  have h0 := h 0 (by decide) (by decide)
  have h1 := h 1 (by decide) (by decide)
  have h2 := h 2 (by decide) (by decide)
  unfold sqB
  rw [mdQ_B h0, mdQ_B h1, mdQ_B h2, tqB_B h0, tqB_B h1, tqB_B h2, strB_B (bnQ_B h0) (bnQ_B h1) (bnQ_B h2)]
theorem ntU_B {o : Int} {B B2 : Int → TSt} {Q : Sqs} {r : Int × Int × Int} {f : Int → Int} (h : ∀ t, 0 ≤ t → t < 3 → B t = B2 t) : ntU o B Q r f 3 = ntU o B2 Q r f 3 := by
  show upd1 (upd1 (upd1 f (o + mdQ B Q r ((0 : Nat) : Int)) _) (o + mdQ B Q r ((1 : Nat) : Int)) _) (o + mdQ B Q r ((2 : Nat) : Int)) _ = upd1 (upd1 (upd1 f (o + mdQ B2 Q r ((0 : Nat) : Int)) _) (o + mdQ B2 Q r ((1 : Nat) : Int)) _) (o + mdQ B2 Q r ((2 : Nat) : Int)) _
  have e0 : mdQ B Q r ((0 : Nat) : Int) = mdQ B2 Q r ((0 : Nat) : Int) := mdQ_B (h 0 (by decide) (by decide))
  have e1 : mdQ B Q r ((1 : Nat) : Int) = mdQ B2 Q r ((1 : Nat) : Int) := mdQ_B (h 1 (by decide) (by decide))
  have e2 : mdQ B Q r ((2 : Nat) : Int) = mdQ B2 Q r ((2 : Nat) : Int) := mdQ_B (h 2 (by decide) (by decide))
  have g1 : ntU o B Q r f 1 = ntU o B2 Q r f 1 := by
    show upd1 f (o + mdQ B Q r ((0 : Nat) : Int)) (adI (f (o + mdQ B Q r ((0 : Nat) : Int))) 1) = _
    rw [e0]
    rfl
  have g2 : ntU o B Q r f 2 = ntU o B2 Q r f 2 := by
    show upd1 (ntU o B Q r f 1) (o + mdQ B Q r ((1 : Nat) : Int)) (adI (ntU o B Q r f 1 (o + mdQ B Q r ((1 : Nat) : Int))) 1) = _
    rw [e1, g1]
    rfl
  show upd1 (ntU o B Q r f 2) (o + mdQ B Q r ((2 : Nat) : Int)) (adI (ntU o B Q r f 2 (o + mdQ B Q r ((2 : Nat) : Int))) 1) = upd1 (ntU o B2 Q r f 2) (o + mdQ B2 Q r ((2 : Nat) : Int)) (adI (ntU o B2 Q r f 2 (o + mdQ B2 Q r ((2 : Nat) : Int))) 1)
  rw [e2, g2]

theorem c1U_cg {f g : Int → Int} {i v : Int} (h : ∀ j, 0 ≤ j → j < 12 → f j = g j) : ∀ j, 0 ≤ j → j < 12 → c1U f i v j = c1U g i v j := fun j a b => by
  unfold c1U
  by_cases q : j = i
  · rw [q, upd1_s, upd1_s, ← q, h j a b]
  · rw [upd1_o q, upd1_o q, h j a b]
theorem ntU_cg {B : Int → TSt} {Q : Sqs} {r : Int × Int × Int} {f g : Int → Int} {o : Int} (h : ∀ j, 0 ≤ j → j < 12 → f j = g j) : ∀ (k : Nat) (j : Int), 0 ≤ j → j < 12 → ntU o B Q r f k j = ntU o B Q r g k j
  | 0, j, a, b => h j a b
  | k + 1, j, a, b => c1U_cg (i := o + mdQ B Q r (k : Int)) (v := 1) (fun j a b => ntU_cg h k j a b) j a b
theorem bsQ_B {B B2 : Int → TSt} {Q : Sqs} {r : Int × Int × Int} (h : ∀ t, 0 ≤ t → t < 3 → B t = B2 t) {t : Int} (a : 0 ≤ t) (b : t < 3) : bsQ B Q r t = bsQ B2 Q r t := by
  unfold bsQ
  by_cases q : (Q.length : Int) = 0
  · rw [if_pos q, if_pos q]; exact h t a b
  · rw [if_neg q, if_neg q]; exact bnQ_B (h t a b)

theorem lit_e {lt : Int → Int} {lc : Int} {T : List Int} (h : sc lt 0 lc = T) (h0 : 0 ≤ lc) (hr : ∀ k, 0 ≤ k → k < lc → 0 ≤ lt k ∧ lt k < 256) : (T.length : Int) = lc ∧ ∀ k, 0 ≤ k → k < lc → ap T k = lt k ∧ 0 ≤ ap T k ∧ ap T k < 256 := by
  subst h
  refine ⟨by rw [sc_lenI h0]; omega, fun k a b => ?_⟩
  have q := hr k a b
  rw [ap_sc a b, u8_id (by omega)]
  exact ⟨rfl, q⟩
theorem pk_lit {st : WSt} {lt : Int → Int} {lc r : Int} {T : List Int} (h : (T.length : Int) = lc) (h0 : 0 ≤ lc) (hr : ∀ k, 0 ≤ k → k < lc → ap T k = lt k ∧ 0 ≤ ap T k ∧ ap T k < 256) (e : r = lwF st.1 lt lc) : pkW st T = r ∧ ltB st.1 (ap T) (T.length : Int) (pkW st T) = ltB st.1 lt lc r ∧ ltC st.1 (ap T) (T.length : Int) (pkW st T) = ltC st.1 lt lc r := by
  have w : pkW st T = r := by
    unfold pkW
    rw [h, lwF_cg (M := lt) hr, e]
  rw [w, h]
  refine ⟨rfl, ltB_cg h0 hr (fun q => lw_1 (cod := st.1) (L := lt) (by rw [← e]; exact q)), ltC_cg (fun k a b => (hr k a b).1)⟩


end
section
/-! 19z -/
theorem MTL_d {f : Int → Int} {e w l way ls p n d : Int} (hl : 1 ≤ l) (h : MTL f e w l way ls p n d) (hn : 1 ≤ n) : 1 ≤ d := by
  have nr : ∀ {k n d : Int}, 1 ≤ n → NRQ f e w k p n d → 1 ≤ d := fun a q => by
    rcases q with ⟨z, _⟩ | ⟨_, z, _⟩
    · omega
    · exact z
  have lg : ∀ {k n d : Int}, 1 ≤ n → LGQ f e w k p n d → 1 ≤ d := fun a q => by
    rcases q with ⟨z, _⟩ | ⟨_, z, _⟩
    · omega
    · exact z
  rcases h with ⟨_, h⟩ | ⟨_, h⟩
  · rcases h with ⟨_, h⟩ | ⟨_, ⟨_, h⟩ | ⟨_, h⟩⟩ | ⟨_, h⟩ | ⟨_, n0, d0, u, v⟩
    · exact nr hn h
    · exact nr hn h
    · exact nr hn h
    · exact lg hn h
    · rcases v with ⟨_, v⟩ | ⟨_, ⟨_, v, x⟩ | ⟨_, n1, d1, _, ⟨_, v⟩ | ⟨_, v, x⟩⟩⟩
      · omega
      · rw [x]; exact lg (by omega) u
      · omega
      · rw [x]; exact lg (by omega) u
  · omega
theorem GOS_d {M : Int → Int → Int → Prop} {n : Int} (hM : ∀ p n d, M p n d → 1 ≤ n → 1 ≤ d) : ∀ {S : List (Int × Int × Int)} {p s t : Int}, GOS M n p s S t → ∀ x ∈ S, 1 ≤ x.2.2
  | [], _, _, _, _, x, hx => absurd hx (by simp)
  | (a, b, d) :: S, p, s, t, h, x, hx => by
    obtain ⟨k1, k2, k3, k4, k5, k6⟩ := h
    rcases List.mem_cons.mp hx with e | e
    · rw [e]
      exact hM _ _ _ k5 k1
    · exact GOS_d hM k6 x e
theorem GOR_d {d li le di lt : Int → Int} {n h k lc w l way ls e : Int} (hl : 1 ≤ l) (hg : GOR (MTL d e w l way ls) d n h li le di k lt lc) : DGE di k := fun j a b => by
  obtain ⟨t, t0, g, _⟩ := hg
  have m : (li j, le j, di j) ∈ sq li le di k := by
    unfold sq
    refine List.mem_map.mpr ⟨j.toNat, List.mem_range.mpr (by omega), ?_⟩
    rw [show ((j.toNat : Nat) : Int) = j by omega]
  exact GOS_d (fun p n d x y => MTL_d hl x y) g _ m

def ONQ (f : Int → Int) (a b n r : Int) : Prop := r = 1 ∧ a < n ∧ (∀ k, a ≤ k → k < b → f k = f a) ∨ r = 0 ∧ (n ≤ a ∨ ∃ k, a ≤ k ∧ k < b ∧ f k ≠ f a)
section ONx
variable {f dd : Int → Int} {a b b2 n r r2 ds : Int}
theorem ONQ_0 (h : a < n ∧ r = 1 ∨ n ≤ a ∧ r = 0) : ONQ f a a n r := by
  rcases h with ⟨h, e⟩ | ⟨h, e⟩
  · exact .inl ⟨e, h, fun k x y => by rw [show k = a by omega]⟩
  · exact .inr ⟨e, .inl h⟩
theorem ONQ_s (h : ONQ f a b n r) (hb : a ≤ b) (e : b2 = b + 1) (q : r = 1 ∧ f b = f a ∧ r2 = 1 ∨ (r = 0 ∨ f b ≠ f a) ∧ r2 = 0) : ONQ f a b2 n r2 := by
  rcases q with ⟨q1, q2, q3⟩ | ⟨q1, q3⟩
  · rcases h with ⟨h1, h2, h3⟩ | ⟨h1, _⟩
    · refine .inl ⟨q3, h2, fun k x y => ?_⟩
      by_cases z : k = b
      · rw [z]; exact q2
      · exact h3 k x (by omega)
    · omega
  · refine .inr ⟨q3, ?_⟩
    rcases h with ⟨h1, h2, h3⟩ | ⟨h1, h2⟩
    · rcases q1 with q1 | q1
      · omega
      · exact .inr ⟨b, hb, by omega, q1⟩
    · rcases h2 with h2 | ⟨k, x, y, z⟩
      · exact .inl h2
      · exact .inr ⟨k, x, by omega, z⟩
end ONx
section DDx
variable {dd dc f : Int → Int} {ds n : Int}
theorem DD_sc (d0 : 0 ≤ ds) (n0 : 0 ≤ n) (h1 : ∀ i, 0 ≤ i → i < ds → dd i = dc i) (h2 : ∀ i, 0 ≤ i → i < n → dd (ds + i) = f i) : sc dd 0 (ds + n) = sc dc 0 ds ++ sc f 0 n := by
  rw [sc_cat (b := ds) d0 (by omega), sc_same h1]
  congr 1
  have w := sc_shift (f := dd) (g := f) (a := ds) (b := 0) (n := n) (fun k a b => by rw [h2 k a b, Int.zero_add])
  rw [Int.zero_add] at w
  exact w
theorem DD_ap {D : List Int} {i : Int} (d0 : 0 ≤ ds) (hD : sc dd 0 (ds + n) = D) (h2 : ∀ i, 0 ≤ i → i < n → dd (ds + i) = f i) (hr : ∀ i, 0 ≤ f i ∧ f i ≤ 255) (a : 0 ≤ i) (b : i < n) : ap D (ds + i) = f i := by
  rw [← hD, ap_sc (by omega) (by omega), h2 i a b, u8_id (hr i)]
theorem ON_y {D : List Int} {a : Int} (hl : (D.length : Int) = ds + n) (hA : ∀ i, 0 ≤ i → i < n → ap D (ds + i) = f i) (a0 : 0 ≤ a) (h : a < n ∧ ∀ k, a ≤ k → k < n → f k = f a) : OND D (ds + a) := by
  refine ⟨by omega, fun k x y => ?_⟩
  have e := hA (k - ds) (by omega) (by omega)
  rw [show ds + (k - ds) = k by omega] at e
  rw [e, hA a a0 h.1]
  exact h.2 (k - ds) (by omega) (by omega)
theorem ON_n {D : List Int} {a : Int} (hl : (D.length : Int) = ds + n) (hA : ∀ i, 0 ≤ i → i < n → ap D (ds + i) = f i) (a0 : 0 ≤ a) (h : n ≤ a ∨ ∃ k, a ≤ k ∧ k < n ∧ f k ≠ f a) : ¬ OND D (ds + a) := fun q => by
  rcases h with h | ⟨k, x, y, z⟩
  · have := q.1; omega
  · have e := q.2 (ds + k) (by omega) (by omega)
    rw [hA k (by omega) y, hA a a0 (by omega)] at e
    exact z e
end DDx

section STE
variable {st : WSt} {top top2 : Int} {le po or_ la nt le2 po2 or2 la2 nt2 : Int → Int} {T : List Int} {Q : Sqs} {i : Int}
theorem STQ_c (h : STQ st top le po or_ la nt) (e1 : cdO top2 le2 = cdO top le) (e2 : ∀ t, 0 ≤ t → t < 3 → BR po2 or2 t = BR po or_ t) (e3 : ∀ i, 0 ≤ i → i < 3 → la2 i = la i) (e4 : ∀ j, 0 ≤ j → j < 12 → nt2 j = c1U nt i 1 j) : STQ (cnS st i) top2 le2 po2 or2 la2 nt2 := by
  obtain ⟨h1, h2, h3, h4⟩ := h
  refine ⟨h1.trans e1.symm, fun t a b => (h2 t a b).trans (e2 t a b).symm, ?_, fun j a b => ?_⟩
  · rw [e3 0 (by decide) (by decide), e3 1 (by decide) (by decide), e3 2 (by decide) (by decide)]; exact h3
  · rw [e4 j a b]; exact c1U_cg (fun k x y => h4 k x y) j a b
theorem STQ_p {r : Int} (h : STQ st top le po or_ la nt) (e1 : cdO top2 le2 = ltC st.1 (ap T) (T.length : Int) (pkW st T)) (e2 : ∀ t, 0 ≤ t → t < 3 → BR po2 or2 t = bsQ (BR po or_) Q (la 0, la 1, la 2) t) (e3 : laS (qL Q) (qD Q) (la 0, la 1, la 2) Q.length = (la2 0, la2 1, la2 2)) (hr : r = pkW st T) (e4 : ∀ j, 0 ≤ j → j < 12 → nt2 j = c1U (c1U (c1U (if (Q.length : Int) = 0 then nt else ntU 8 (BR po or_) Q (la 0, la 1, la 2) nt 3) 2 1) 3 (Q.length : Int)) (4 + r) 1 j) : STQ (pkS st T Q) top2 le2 po2 or2 la2 nt2 := by
  obtain ⟨h1, h2, h3, h4⟩ := h
  refine ⟨e1.symm, fun t a b => ?_, ?_, fun j a b => ?_⟩
  · show bsQ st.2.1 Q st.2.2.1 t = _
    rw [h3, e2 t a b]
    exact bsQ_B h2 a b
  · show laS (qL Q) (qD Q) st.2.2.1 Q.length = _
    rw [h3]
    exact e3
  · rw [e4 j a b, hr]
    show c1U (c1U (c1U (if (Q.length : Int) = 0 then st.2.2.2 else ntU 8 st.2.1 Q st.2.2.1 st.2.2.2 3) 2 1) 3 (Q.length : Int)) (4 + pkW st T) 1 j = _
    refine c1U_cg (fun j a b => c1U_cg (fun j a b => c1U_cg (fun j a b => ?_) j a b) j a b) j a b
    by_cases q : (Q.length : Int) = 0
    · rw [if_pos q, if_pos q]; exact h4 j a b
    · rw [if_neg q, if_neg q, h3, ntU_B h2]; exact ntU_cg (fun j a b => h4 j a b) 3 j a b
end STE
theorem ap_DD {dc f : Int → Int} {ds n i : Int} (d0 : 0 ≤ ds) (hr : ∀ i, 0 ≤ f i ∧ f i ≤ 255) (a : 0 ≤ i) (b : i < n) : ap (sc dc 0 ds ++ sc f 0 n) (ds + i) = f i := by
  have h1 : ∀ j, 0 ≤ j → j < ds → (fun j => if j < ds then dc j else f (j - ds)) j = dc j := fun j x y => if_pos y
  have h2 : ∀ j, 0 ≤ j → j < n → (fun j => if j < ds then dc j else f (j - ds)) (ds + j) = f j := fun j x y => by
    show (if ds + j < ds then dc (ds + j) else f (ds + j - ds)) = f j
    rw [if_neg (by omega), show ds + j - ds = j by omega]
  exact DD_ap d0 (DD_sc d0 (by omega) h1 h2) h2 hr a b
theorem DD_tail {D : List Int} {f : Int → Int} {ds n a : Int} (hA : ∀ i, 0 ≤ i → i < n → ap D (ds + i) = f i) (a0 : 0 ≤ a) (h : a ≤ n) : sc (ap D) (ds + a) (ds + n) = sc f a n := by
  have w := sc_shift (f := ap D) (g := f) (a := ds + a) (b := a) (n := n - a) (fun k x y => by rw [show ds + a + k = ds + (a + k) by omega, hA (a + k) (by omega) (by omega)])
  rw [show ds + a + (n - a) = ds + n by omega, show a + (n - a) = n by omega] at w
  exact w
theorem TLA_q {sy mb mo ll ml di la : Int → Int} {r : Int × Int × Int} {n : Int} (h : TLA sy mb mo ll ml di r n la) : laS (qL (sq ll ml di n)) (qD (sq ll ml di n)) r (sq ll ml di n).length = (la 0, la 1, la 2) := by
  rw [sq_len, laS_congr (ll2 := ll) (di2 := di) (fun i a b => qLD i a (by omega))]
  exact h.2.1
theorem mwF_r {t : Int} {S : Int → Int} {n : Int} {B : TSt} : 0 ≤ mwF t S n B ∧ mwF t S n B ≤ 3 := by
  have a : 0 ≤ (m1F t S n).1 ∧ (m1F t S n).1 ≤ 3 := by
    unfold m1F
    by_cases q : dfN S n = 1 ∧ 8 < kcF t S n
    · rw [if_pos q]; exact ⟨by show (0 : Int) ≤ 1; decide, by show (1 : Int) ≤ 3; decide⟩
    · rw [if_neg q]; exact ⟨by show (0 : Int) ≤ 0; decide, by show (0 : Int) ≤ 3; decide⟩
  have b : 0 ≤ (m2F t S n).1 ∧ (m2F t S n).1 ≤ 3 := by
    unfold m2F
    by_cases q : shC S n (boF t S n).1 < (m1F t S n).2
    · rw [if_pos q]; exact ⟨by show (0 : Int) ≤ 2; decide, by show (2 : Int) ≤ 3; decide⟩
    · rw [if_neg q]; exact a
  unfold mwF
  by_cases q : 0 ≤ aswF B S n ∧ aswF B S n < (m2F t S n).2
  · rw [if_pos q]; decide
  · rw [if_neg q]; exact b
theorem ntU_lo {B : Int → TSt} {Q : Sqs} {r : Int × Int × Int} {f : Int → Int} {i : Int} (a : 0 ≤ i) (b : i < 8) : ntU 8 B Q r f 3 i = f i := by
  have k : ∀ n : Nat, ntU 8 B Q r f n i = f i := fun n => by
    induction n with
    | zero => rfl
    | succ n ih =>
      have m := mwF_r (t := (n : Int)) (S := Sc Q r (n : Int)) (n := (Q.length : Int)) (B := B (n : Int))
      show upd1 (ntU 8 B Q r f n) (8 + mdQ B Q r (n : Int)) _ i = f i
      rw [upd1_o (by have m : 0 ≤ mdQ B Q r (n : Int) ∧ mdQ B Q r (n : Int) ≤ 3 := m; omega)]
      exact ih
  exact k 3
theorem BR_cg3 {po po2 or_ or2 : Int → Int} (h1 : ∀ i, 0 ≤ i → i < 192 → po2 i = po i) (h2 : ∀ i, 0 ≤ i → i < 3 → or2 i = or_ i) {t : Int} (a : 0 ≤ t) (b : t < 3) : BR po2 or2 t = BR po or_ t := by
  unfold BR
  rw [h2 t a b]
  unfold btS
  by_cases z : or_ t < 0
  · rw [if_pos z, if_pos z]
  · rw [if_neg z, if_neg z]
    congr 1
    exact cutP_cg (fun i x y => h1 (64 * t + i) (by omega) (by omega))


end
section
/-! 20a -/
def b4F (fl : Int) : Int := fl / 4 % 2
def b2F (fl : Int) : Int := fl / 2 % 2
def b8F (fl : Int) : Int := fl / 8 % 2
theorem fl_and {fl : Int} (h : 0 ≤ fl ∧ fl ≤ 15) : andI fl 1 = fl % 2 ∧ (andI fl 2 = 0 ∧ b2F fl = 0 ∨ andI fl 2 ≠ 0 ∧ b2F fl = 1) ∧ (andI fl 4 = 0 ∧ b4F fl = 0 ∨ andI fl 4 ≠ 0 ∧ b4F fl = 1) ∧ (andI fl 8 = 0 ∧ b8F fl = 0 ∨ andI fl 8 ≠ 0 ∧ b8F fl = 1) := by
  have key : ∀ x : Fin 16, andI (x.val : Int) 1 = (x.val : Int) % 2 ∧ (andI (x.val : Int) 2 = 0 ∧ b2F (x.val : Int) = 0 ∨ andI (x.val : Int) 2 ≠ 0 ∧ b2F (x.val : Int) = 1) ∧ (andI (x.val : Int) 4 = 0 ∧ b4F (x.val : Int) = 0 ∨ andI (x.val : Int) 4 ≠ 0 ∧ b4F (x.val : Int) = 1) ∧ (andI (x.val : Int) 8 = 0 ∧ b8F (x.val : Int) = 0 ∨ andI (x.val : Int) 8 ≠ 0 ∧ b8F (x.val : Int) = 1) := by decide +kernel
  have w := key ⟨fl.toNat, by omega⟩
  rw [show (((⟨fl.toNat, by omega⟩ : Fin 16).val : Nat) : Int) = fl from by show ((fl.toNat : Nat) : Int) = fl; omega] at w
  exact w
def tlF (fl : Int) : Int := if b4F fl = 1 ∨ b2F fl = 1 then 1 else 0
def ffF (fl n : Int) : Int := if tlF fl = 0 then 0 else if 256 ≤ n then 1 else if b4F fl = 1 then 0 else 2
def gfF (fl id : Int) : Int := if b8F fl = 0 ∨ id = 0 then 0 else if id < 256 then 1 else if id < 65536 then 2 else 3
def gbF (g : Int) : Int := if g = 3 then 4 else g
def nfF (f : Int) : Int := if f = 0 then 1 else if f = 1 then 2 else 4
def hdrF (fl e id n : Int) : List Int := nb 4247762216 4 ++ ([64 * ffF fl n + 32 * b4F fl + 4 * (fl % 2) + gfF fl id] ++ ((if b4F fl = 1 then [] else [8 * e]) ++ (nb id (gbF (gfF fl id)) ++ (if tlF fl = 0 then [] else nb (if ffF fl n = 1 then n - 256 else n) (nfF (ffF fl n))))))
def winF (fl e n : Int) : Int := if b4F fl = 1 then n else p2 (10 + e)
def mosF (w : Int) : Int := if w < 131072 then w else 131072
def stpF (cut most : Int) : Int := if cut < most ∨ most = 0 then cut else most
section FRH
variable {fl n id r e w cut most : Int}
theorem ffF_e (h : tlF fl = 0 ∧ r = 0 ∨ tlF fl ≠ 0 ∧ 256 ≤ n ∧ r = 1 ∨ tlF fl ≠ 0 ∧ n < 256 ∧ b4F fl = 1 ∧ r = 0 ∨ tlF fl ≠ 0 ∧ n < 256 ∧ b4F fl ≠ 1 ∧ r = 2) : r = ffF fl n := by
  unfold ffF
  rcases h with ⟨a, b⟩ | ⟨a, c, b⟩ | ⟨a, c, d, b⟩ | ⟨a, c, d, b⟩
  · rw [if_pos a, b]
  · rw [if_neg a, if_pos c, b]
  · rw [if_neg a, if_neg (by omega), if_pos d, b]
  · rw [if_neg a, if_neg (by omega), if_neg d, b]
theorem gfF_e (h : (b8F fl = 0 ∨ id = 0) ∧ r = 0 ∨ b8F fl ≠ 0 ∧ id ≠ 0 ∧ id < 256 ∧ r = 1 ∨ b8F fl ≠ 0 ∧ id ≠ 0 ∧ 256 ≤ id ∧ id < 65536 ∧ r = 2 ∨ b8F fl ≠ 0 ∧ id ≠ 0 ∧ 65536 ≤ id ∧ r = 3) : r = gfF fl id := by
  unfold gfF
  rcases h with ⟨a, b⟩ | ⟨a, c, d, b⟩ | ⟨a, c, d, f, b⟩ | ⟨a, c, d, b⟩
  · rw [if_pos a, b]
  · rw [if_neg (by omega), if_pos d, b]
  · rw [if_neg (by omega), if_neg (by omega), if_pos f, b]
  · rw [if_neg (by omega), if_neg (by omega), if_neg (by omega), b]
theorem winF_e (h : b4F fl = 1 ∧ r = n ∨ b4F fl ≠ 1 ∧ r = p2 (10 + e)) : r = winF fl e n := by
  unfold winF
  rcases h with ⟨a, b⟩ | ⟨a, b⟩
  · rw [if_pos a, b]
  · rw [if_neg a, b]
theorem mosF_e (h : w < 131072 ∧ r = w ∨ 131072 ≤ w ∧ r = 131072) : r = mosF w := by
  unfold mosF
  rcases h with ⟨a, b⟩ | ⟨a, b⟩
  · rw [if_pos a, b]
  · rw [if_neg (by omega), b]
theorem stpF_e (h : (cut < most ∨ most = 0) ∧ r = cut ∨ (most ≤ cut ∧ most ≠ 0) ∧ r = most) : r = stpF cut most := by
  unfold stpF
  rcases h with ⟨a, b⟩ | ⟨a, b⟩
  · rw [if_pos a, b]
  · rw [if_neg (by omega), b]
end FRH

abbrev FSt := Int × List Int × WSt
noncomputable def BKs (dc I : List Int) (w l way step : Int) (x : FSt) : FSt ⊕ (List Int × WSt) :=
  if mnI (x.1 + step) (I.length : Int) < (I.length : Int) then .inl (mnI (x.1 + step) (I.length : Int), x.2.1 ++ (blF (dc ++ I.take (mnI (x.1 + step) (I.length : Int)).toNat) w l way ((dc.length : Int) + x.1) 0 x.2.2).1, (blF (dc ++ I.take (mnI (x.1 + step) (I.length : Int)).toNat) w l way ((dc.length : Int) + x.1) 0 x.2.2).2)
  else .inr (x.2.1 ++ (blF (dc ++ I) w l way ((dc.length : Int) + x.1) 1 x.2.2).1, (blF (dc ++ I) w l way ((dc.length : Int) + x.1) 1 x.2.2).2)
noncomputable def bksF (dc I : List Int) (w l way step : Int) (st : WSt) : List Int × WSt := LPF ([], st) (BKs dc I w l way step) (0, [], st)
def BKW (dc I : List Int) (w l way step : Int) (st : WSt) (fr : Int) (B : List Int) (s : WSt) : Prop := bksF dc I w l way step st = LPF ([], st) (BKs dc I w l way step) (fr, B, s)
section BKx
variable {dc I D B : List Int} {w l way step fr to : Int} {st s : WSt}
theorem BKW_0 : BKW dc I w l way step st 0 [] st := rfl
theorem BKW_s (h : BKW dc I w l way step st fr B s) (e : to = mnI (fr + step) (I.length : Int)) (c : to < (I.length : Int)) (hD : dc ++ I.take to.toNat = D) : BKW dc I w l way step st to (B ++ (blF D w l way ((dc.length : Int) + fr) 0 s).1) (blF D w l way ((dc.length : Int) + fr) 0 s).2 := by
  subst e hD
  unfold BKW at h ⊢
  rw [h]
  refine LPF_s ?_
  unfold BKs
  exact if_pos c
theorem BKW_e (h : BKW dc I w l way step st fr B s) (c : (I.length : Int) ≤ fr + step) (hD : dc ++ I = D) : bksF dc I w l way step st = (B ++ (blF D w l way ((dc.length : Int) + fr) 1 s).1, (blF D w l way ((dc.length : Int) + fr) 1 s).2) := by
  subst hD
  unfold BKW at h
  rw [h]
  refine LPF_e ?_
  unfold BKs
  exact if_neg (by show ¬ mnI (fr + step) (I.length : Int) < _; rw [mnI_r c]; omega)
end BKx
noncomputable def sumB (fl : Int) (I : List Int) : List Int := if fl % 2 = 1 then nb (WDL I) 4 else []
noncomputable def frW (fl e cut id : Int) (dc I : List Int) (l way : Int) (st : WSt) : List Int × WSt := (hdrF fl e id (I.length : Int) ++ ((bksF dc I (winF fl e (I.length : Int)) l way (stpF cut (mosF (winF fl e (I.length : Int)))) st).1 ++ sumB fl I), (bksF dc I (winF fl e (I.length : Int)) l way (stpF cut (mosF (winF fl e (I.length : Int)))) st).2)

noncomputable def bgS (fm : Int) (dl dp do_ dla nt : Int → Int) : WSt := if fm = 0 then (none, (fun _ => btS (-1) (fun _ => 0)), (1, 4, 8), nt) else (cdO (mxN dl 256) dl, BR dp do_, (dla 0, dla 1, dla 2), nt)
theorem bgS_0 {fm top : Int} {dl dp do_ dla nt le po or_ la : Int → Int} (h : fm = 0) (ht : top = 0) (ho : ∀ t, 0 ≤ t → t < 3 → or_ t = -1) (hl : la 0 = 1 ∧ la 1 = 4 ∧ la 2 = 8) : STQ (bgS fm dl dp do_ dla nt) top le po or_ la nt := by
  unfold bgS
  rw [if_pos h]
  refine ⟨?_, fun t a b => ?_, ?_, fun _ _ _ => rfl⟩
  · rw [cdO_n (by omega)]
  · show btS (-1) (fun _ => 0) = btS (or_ t) (sh po (64 * t))
    rw [ho t a b]
    unfold btS
    rw [if_pos (by decide), if_pos (by decide)]
  · show ((1 : Int), (4 : Int), (8 : Int)) = (la 0, la 1, la 2)
    rw [hl.1, hl.2.1, hl.2.2]
theorem bgS_1 {fm top : Int} {dl dp do_ dla nt le po or_ la : Int → Int} (h : fm ≠ 0) (ht : top = mxN dl 256) (hl : ∀ i, 0 ≤ i → i < 256 → le i = dl i) (hp : ∀ i, 0 ≤ i → i < 192 → po i = dp i) (ho : ∀ i, 0 ≤ i → i < 3 → or_ i = do_ i) (ha : ∀ i, 0 ≤ i → i < 3 → la i = dla i) : STQ (bgS fm dl dp do_ dla nt) top le po or_ la nt := by
  unfold bgS
  rw [if_neg h]
  refine ⟨(cdO_cg ht hl).symm, fun t a b => (BR_cg3 hp ho a b).symm, ?_, fun _ _ _ => rfl⟩
  show (dla 0, dla 1, dla 2) = (la 0, la 1, la 2)
  rw [ha 0 (by decide) (by decide), ha 1 (by decide) (by decide), ha 2 (by decide) (by decide)]
theorem nb_and {x : Int} : nb (anJ x 4294967295) 4 = nb x 4 := by
  rw [anM]
  unfold nb
  refine List.map_congr_left (fun i hi => ?_)
  have hi : i < 4 := List.mem_range.mp hi
  unfold u8
  rcases (show i = 0 ∨ i = 1 ∨ i = 2 ∨ i = 3 by omega) with q | q | q | q <;> subst q
  · rw [show p2 (8 * ((0 : Nat) : Int)) = 1 by decide]; omega
  · rw [show p2 (8 * ((1 : Nat) : Int)) = 256 by decide]; omega
  · rw [show p2 (8 * ((2 : Nat) : Int)) = 65536 by decide]; omega
  · rw [show p2 (8 * ((3 : Nat) : Int)) = 16777216 by decide]; omega


end
section
/-! 20b -/
section FRB
variable {fl n id : Int}
theorem tlF_c : b4F fl = 1 ∧ tlF fl = 1 ∨ b4F fl ≠ 1 ∧ b2F fl = 1 ∧ tlF fl = 1 ∨ b4F fl ≠ 1 ∧ b2F fl ≠ 1 ∧ tlF fl = 0 := by
  unfold tlF
  by_cases a : b4F fl = 1
  · exact .inl ⟨a, if_pos (.inl a)⟩
  · by_cases b : b2F fl = 1
    · exact .inr (.inl ⟨a, b, if_pos (.inr b)⟩)
    · exact .inr (.inr ⟨a, b, if_neg (fun q => by rcases q with q | q; (exact a q); (exact b q))⟩)
theorem ffF_c : tlF fl = 0 ∧ ffF fl n = 0 ∨ tlF fl ≠ 0 ∧ 256 ≤ n ∧ ffF fl n = 1 ∨ tlF fl ≠ 0 ∧ n < 256 ∧ b4F fl = 1 ∧ ffF fl n = 0 ∨ tlF fl ≠ 0 ∧ n < 256 ∧ b4F fl ≠ 1 ∧ ffF fl n = 2 := by
  unfold ffF
  by_cases a : tlF fl = 0
  · exact .inl ⟨a, if_pos a⟩
  · rw [if_neg a]
    by_cases b : 256 ≤ n
    · exact .inr (.inl ⟨a, b, if_pos b⟩)
    · rw [if_neg b]
      by_cases c : b4F fl = 1
      · exact .inr (.inr (.inl ⟨a, by omega, c, if_pos c⟩))
      · exact .inr (.inr (.inr ⟨a, by omega, c, if_neg c⟩))
theorem gfF_c : b8F fl = 0 ∧ gfF fl id = 0 ∨ id = 0 ∧ gfF fl id = 0 ∨ b8F fl ≠ 0 ∧ id ≠ 0 ∧ id < 256 ∧ gfF fl id = 1 ∨ b8F fl ≠ 0 ∧ id ≠ 0 ∧ 256 ≤ id ∧ id < 65536 ∧ gfF fl id = 2 ∨ b8F fl ≠ 0 ∧ id ≠ 0 ∧ 65536 ≤ id ∧ gfF fl id = 3 := by
  unfold gfF
  by_cases a : b8F fl = 0
  · exact .inl ⟨a, if_pos (.inl a)⟩
  · by_cases b : id = 0
    · exact .inr (.inl ⟨b, if_pos (.inr b)⟩)
    · rw [if_neg (fun q => by rcases q with q | q; (exact a q); (exact b q))]
      by_cases c : id < 256
      · exact .inr (.inr (.inl ⟨a, b, c, if_pos c⟩))
      · rw [if_neg c]
        by_cases d : id < 65536
        · exact .inr (.inr (.inr (.inl ⟨a, b, by omega, d, if_pos d⟩)))
        · exact .inr (.inr (.inr (.inr ⟨a, b, by omega, if_neg d⟩)))
theorem gbF_e {g r : Int} (h : g = 3 ∧ r = 4 ∨ g ≠ 3 ∧ r = g) : r = gbF g := by
  unfold gbF
  rcases h with ⟨a, b⟩ | ⟨a, b⟩
  · rw [if_pos a, b]
  · rw [if_neg a, b]
theorem nfF_e {f r : Int} (h : f = 0 ∧ r = 1 ∨ f = 1 ∧ r = 2 ∨ f ≠ 0 ∧ f ≠ 1 ∧ r = 4) : r = nfF f := by
  unfold nfF
  rcases h with ⟨a, b⟩ | ⟨a, b⟩ | ⟨a, c, b⟩
  · rw [if_pos a, b]
  · rw [if_neg (by omega), if_pos a, b]
  · rw [if_neg a, if_neg c, b]
theorem hdrF_e {e : Int} : (((nb 4247762216 4 ++ [64 * ffF fl n + 32 * b4F fl + 4 * (fl % 2) + gfF fl id]) ++ (if b4F fl = 1 then [] else [8 * e])) ++ nb id (gbF (gfF fl id))) ++ (if tlF fl = 0 then [] else nb (if ffF fl n = 1 then n - 256 else n) (nfF (ffF fl n))) = hdrF fl e id n := by
  unfold hdrF
  simp only [List.append_assoc]
end FRB
theorem sc_tk {f : Int → Int} {n k : Int} (h0 : 0 ≤ k) (h1 : k ≤ n) : (sc f 0 n).take k.toNat = sc f 0 k := by
  rw [sc_cat h0 h1, List.take_append_of_le_length (by rw [sc_len]; omega), List.take_of_length_le (by rw [sc_len]; omega)]
def BLI (M0 M1 : Prop) (g0 g : Int → Int) (fs : Int) (H dc I : List Int) (w l way step : Int) (st0 : WSt) (fr fin top : Int) (le po or_ la nt : Int → Int) : Prop := ∃ B s, STQ s top le po or_ la nt ∧ IMP M0 (M1 ∧ QAP 65536 g0 0 g fs (H ++ B) ∧ (fin ≠ 0 ∧ BKW dc I w l way step st0 fr B s ∨ fin = 0 ∧ bksF dc I w l way step st0 = (B, s)))
section BLx
variable {M0 M1 M2 : Prop} {g0 g g2 : Int → Int} {fs fs2 : Int} {H dc I D B : List Int} {w l way step fr to fin fin2 top hb z : Int} {st0 s : WSt} {le po or_ la nt : Int → Int}
theorem STQ_x : ∃ s, STQ s top le po or_ la nt := ⟨(cdO top le, BR po or_, (la 0, la 1, la 2), nt), rfl, fun _ _ _ => rfl, rfl, fun _ _ _ => rfl⟩
theorem STQ_z {fm : Int} {dl dp do_ dla n0 : Int → Int} (h : STQ (bgS fm dl dp do_ dla n0) top le po or_ la nt) (hz : ∀ j, 0 ≤ j → j < 12 → nt j = 0) : STQ (bgS fm dl dp do_ dla (fun _ => 0)) top le po or_ la nt := by
  unfold bgS at h ⊢
  by_cases c : fm = 0
  · rw [if_pos c] at h ⊢
    exact ⟨h.1, h.2.1, h.2.2.1, fun j a b => (hz j a b).symm⟩
  · rw [if_neg c] at h ⊢
    exact ⟨h.1, h.2.1, h.2.2.1, fun j a b => (hz j a b).symm⟩
theorem BLI_0 (hS : STQ st0 top le po or_ la nt) (q : QAP 65536 g0 0 g fs H) (hf : fin ≠ 0) : BLI M0 M0 g0 g fs H dc I w l way step st0 0 fin top le po or_ la nt := ⟨[], st0, hS, fun m => ⟨m, by rw [List.append_nil]; exact q, .inl ⟨hf, BKW_0⟩⟩⟩
theorem BLI_s (hI : IMP M0 (M1 ∧ QAP 65536 g0 0 g fs (H ++ B) ∧ (fin ≠ 0 ∧ BKW dc I w l way step st0 fr B s ∨ fin = 0 ∧ bksF dc I w l way step st0 = (B, s)))) (hf : fin ≠ 0) (hP : IMP M1 (QAP 65536 g fs g2 fs2 (blF D w l way hb z s).1 ∧ STQ (blF D w l way hb z s).2 top le po or_ la nt ∧ M2)) (hh : hb = (dc.length : Int) + fr) (e : to = mnI (fr + step) (I.length : Int)) (hD : D = dc ++ I.take to.toNat) (hc : fin2 ≠ 0 ∧ z = 0 ∧ to < (I.length : Int) ∨ fin2 = 0 ∧ z = 1 ∧ (I.length : Int) ≤ fr + step) : BLI M0 M2 g0 g2 fs2 H dc I w l way step st0 to fin2 top le po or_ la nt := by
  by_cases m : M0
  · obtain ⟨m1, q, h⟩ := hI m
    have h : BKW dc I w l way step st0 fr B s := by
      rcases h with ⟨_, h⟩ | ⟨h, _⟩
      · exact h
      · exact absurd h hf
    obtain ⟨x, sq, m2⟩ := hP m1
    refine ⟨B ++ (blF D w l way hb z s).1, (blF D w l way hb z s).2, sq, fun _ => ⟨m2, by rw [← List.append_assoc]; exact QAP_trans q x, ?_⟩⟩
    subst hh
    rcases hc with ⟨f2, z0, c⟩ | ⟨f2, z1, c⟩
    · subst z0
      exact .inl ⟨f2, BKW_s h e c hD.symm⟩
    · subst z1
      refine .inr ⟨f2, BKW_e h c ?_⟩
      rw [hD, e, mnI_r c, Int.toNat_natCast, List.take_length]
  · obtain ⟨s2, h2⟩ := STQ_x (top := top) (le := le) (po := po) (or_ := or_) (la := la) (nt := nt)
    exact ⟨[], s2, h2, fun q => absurd q m⟩
theorem BLI_e (h : BLI M0 M1 g0 g fs H dc I w l way step st0 fr fin top le po or_ la nt) (hf : fin = 0) : IMP M0 (M1 ∧ QAP 65536 g0 0 g fs (H ++ (bksF dc I w l way step st0).1) ∧ ∀ j, 0 ≤ j → j < 12 → (bksF dc I w l way step st0).2.2.2.2 j = nt j) := fun m => by
  obtain ⟨B, s, hS, hI⟩ := h
  obtain ⟨m1, q, h⟩ := hI m
  have h : bksF dc I w l way step st0 = (B, s) := by
    rcases h with ⟨h, _⟩ | ⟨_, h⟩
    · exact absurd hf h
    · exact h
  rw [h]
  exact ⟨m1, q, hS.2.2.2⟩
end BLx
def PRQ (F : List Int × WSt) (ret os : Int) (out shown : Int → Int) : Prop := (ret = -1 ∧ 65536 < (F.1.length : Int) ∨ ret = (F.1.length : Int) ∧ (F.1.length : Int) ≤ 65536 ∧ os = ret ∧ sc out 0 ret = F.1) ∧ (0 ≤ ret → ∀ j, 0 ≤ j → j < 12 → shown j = F.2.2.2.2 j)
theorem PRQ_e {F : List Int × WSt} {ret os fs : Int} {g0 g out shown nt : Int → Int} (q : QAP 65536 g0 0 g fs F.1) (hr : ret = -1 ∧ 65536 < fs ∨ ret = fs ∧ fs ≤ 65536 ∧ os = fs) (hc : IMP ((0 : Int) ≤ ret) (CPY g out 0 0 fs)) (hn : ∀ j, 0 ≤ j → j < 12 → F.2.2.2.2 j = nt j) (hs : IMP ((0 : Int) ≤ ret) (∀ j, 0 ≤ j → j < 12 → shown j = nt j)) : PRQ F ret os out shown := by
  have hl := QAP_len q (Int.le_refl 0)
  refine ⟨?_, fun h j a b => by rw [hs h j a b, hn j a b]⟩
  rcases hr with ⟨a, b⟩ | ⟨a, b, c⟩
  · exact .inl ⟨a, by omega⟩
  · refine .inr ⟨by omega, by omega, by omega, ?_⟩
    have h1 := QAP_sc (a := 0) q ⟨Int.le_refl 0, Int.le_refl 0⟩ b
    rw [sc_nil (Int.le_refl 0), List.nil_append] at h1
    rw [a, ← h1]
    refine sc_same (fun k x y => ?_)
    have := hc (by omega) k x (by omega)
    rw [Int.zero_add] at this
    exact this
section FWx
variable {fl e cut id l way n : Int} {dc I : List Int} {st : WSt}
theorem frW_n (hn : (I.length : Int) = n) (h : ¬ fl % 2 = 1) : hdrF fl e id n ++ (bksF dc I (winF fl e n) l way (stpF cut (mosF (winF fl e n))) st).1 = (frW fl e cut id dc I l way st).1 := by
  subst hn
  unfold frW sumB
  rw [if_neg h, List.append_nil]
theorem frW_y (hn : (I.length : Int) = n) (h : fl % 2 = 1) : (hdrF fl e id n ++ (bksF dc I (winF fl e n) l way (stpF cut (mosF (winF fl e n))) st).1) ++ nb (WDL I) 4 = (frW fl e cut id dc I l way st).1 := by
  subst hn
  unfold frW sumB
  rw [if_pos h, List.append_assoc]
theorem frW_2 (hn : (I.length : Int) = n) : (frW fl e cut id dc I l way st).2 = (bksF dc I (winF fl e n) l way (stpF cut (mosF (winF fl e n))) st).2 := by
  subst hn
  rfl
end FWx


end
section
/-! 20c -/
noncomputable def mkT (t : Int) (Q : Sqs) : List Int := shB (Sc Q (1, 4, 8) t) (Q.length : Int) (boF t (Sc Q (1, 4, 8) t) (Q.length : Int)).1
def mtK (i : Int) : Int := if i = 0 then 1 else if i = 1 then 2 else 0
theorem mtK_e {i r : Int} (h : i = 0 ∧ r = 1 ∨ i = 1 ∧ r = 2 ∨ i ≠ 0 ∧ i ≠ 1 ∧ r = 0) : r = mtK i := by
  unfold mtK
  rcases h with ⟨a, b⟩ | ⟨a, b⟩ | ⟨a, c, b⟩
  · rw [if_pos a, b]
  · rw [if_neg (by omega), if_pos a, b]
  · rw [if_neg a, if_neg c, b]
noncomputable def mkU (Q : Sqs) : Nat → List Int
  | 0 => []
  | k + 1 => mkU Q k ++ mkT (mtK (k : Int)) Q
theorem mkU_s {Q : Sqs} {i j t : Int} (h : 0 ≤ i) (e : j = i + 1) (ht : t = mtK i) : mkU Q j.toNat = mkU Q i.toNat ++ mkT t Q := by
  subst e ht
  rw [show (i + 1).toNat = i.toNat + 1 by omega]
  show mkU Q i.toNat ++ mkT (mtK (i.toNat : Int)) Q = _
  rw [show ((i.toNat : Nat) : Int) = i by omega]
def mkN (I : List Int) (Q : Sqs) (T : List Int) : Prop := (I.length : Int) < 8 ∨ (Q.length : Int) = 0 ∨ (T.length : Int) < 2 ∨ ALK (ap T) (T.length : Int) ∨ dscF (ap T) (T.length : Int) = none
noncomputable def mkL (id : Int) (I : List Int) (Q : Sqs) (T : List Int) : List Int := ((((((nb 3962610743 4 ++ nb id 4) ++ (dscF (ap T) (T.length : Int)).getD []) ++ mkU Q 3) ++ nb 1 4) ++ nb 4 4) ++ nb 8 4) ++ I
noncomputable def mkG (id : Int) (I : List Int) (Q : Sqs) (T : List Int) : Option (List Int) := haveI : ∀ p : Prop, Decidable p := Classical.propDecidable; if mkN I Q T then none else some (mkL id I Q T)
noncomputable def mkF (id : Int) (I : List Int) (l way : Int) : Option (List Int) := mkG id I (qsF I 65536 l way 0).1 (ltQ I 65536 l way 0)
def MKD (F : Option (List Int)) (ret os : Int) (out : Int → Int) : Prop := (F = none ∧ ret = -1) ∨ ∃ L, F = some L ∧ (ret = -1 ∧ 65536 < (L.length : Int) ∨ ret = (L.length : Int) ∧ (L.length : Int) ≤ 65536 ∧ os = ret ∧ sc out 0 ret = L)
section MKx
variable {id l way ret os fs : Int} {I T : List Int} {Q : Sqs} {g0 g out : Int → Int}
theorem MKD_n (h : mkN I (qsF I 65536 l way 0).1 (ltQ I 65536 l way 0)) (e : ret = -1) : MKD (mkF id I l way) ret os out := by
  refine .inl ⟨?_, e⟩
  unfold mkF mkG
  exact if_pos h
theorem MKD_y (hQ : Q = (qsF I 65536 l way 0).1) (hT : T = ltQ I 65536 l way 0) (h : ¬ mkN I Q T) (q : QAP 65536 g0 0 g fs (mkL id I Q T)) (hr : ret = -1 ∧ 65536 < fs ∨ ret = fs ∧ fs ≤ 65536 ∧ os = fs) (hc : IMP ((0 : Int) ≤ ret) (CPY g out 0 0 fs)) : MKD (mkF id I l way) ret os out := by
  subst hQ hT
  refine .inr ⟨mkL id I (qsF I 65536 l way 0).1 (ltQ I 65536 l way 0), ?_, ?_⟩
  · unfold mkF mkG
    exact if_neg h
  · have hl := QAP_len q (Int.le_refl 0)
    rcases hr with ⟨a, b⟩ | ⟨a, b, c⟩
    · exact .inl ⟨a, by omega⟩
    · refine .inr ⟨by omega, by omega, by omega, ?_⟩
      have h1 := QAP_sc (a := 0) q ⟨Int.le_refl 0, Int.le_refl 0⟩ b
      rw [sc_nil (Int.le_refl 0), List.nil_append] at h1
      rw [a, ← h1]
      refine sc_same (fun k x y => ?_)
      have := hc (by omega) k x (by omega)
      rw [Int.zero_add] at this
      exact this
end MKx


end
section
/-! 20d -/
theorem LBY_nu {v li r : Int} {la : Int → Int} (h : LBY v li la r) (hv : 1 ≤ v ∧ v ≤ 3) (h1 : 1 ≤ la 0) (hr : inrJ (la 0)) : nuC (la 0) (la 1) (la 2) li v = r := by
  by_cases z : li = 0
  · have w := LBY_x h hv (w := v + 1) (.inl ⟨z, rfl⟩) h1 hr
    exact nuC_w (w := v + 1) (.inl ⟨z, rfl⟩) (by omega)
  · have w := LBY_x h hv (w := v) (.inr ⟨z, rfl⟩) h1 hr
    exact nuC_w (w := v) (.inr ⟨z, rfl⟩) (by omega)
def TSY (s0 s1 s2 nu li le di : Int → Int) (r : Int × Int × Int) (n : Int) : Prop := ∀ j, 0 ≤ j → j < n → s0 j = gsB lBs (li j) 36 ∧ s2 j = gsB mBs (le j) 53 ∧ nu j = nuS li di r j ∧ s1 j = gsB p2 (nuS li di r j) 31 ∧ s1 j ≤ 14
def TSL (s0 s1 s2 nu li le di : Int → Int) (r : Int × Int × Int) (n : Int) (la : Int → Int) : Prop := TSY s0 s1 s2 nu li le di r n ∧ laS li di r n.toNat = (la 0, la 1, la 2) ∧ 1 ≤ la 0 ∧ 1 ≤ la 1 ∧ 1 ≤ la 2
theorem TSL_0 {s0 s1 s2 nu li le di la : Int → Int} (h : 1 ≤ la 0 ∧ 1 ≤ la 1 ∧ 1 ≤ la 2) : TSL s0 s1 s2 nu li le di (la 0, la 1, la 2) 0 la := ⟨fun j a b => absurd b (by omega), rfl, h⟩
theorem TSL_s {s0 s1 s2 nu li le di la la2 : Int → Int} {r : Int × Int × Int} {n n2 v z y0 y1 y2 d l m : Int} (h : TSL s0 s1 s2 nu li le di r n la) (h0 : 0 ≤ n) (e : n2 = n + 1) (hd : di n = d) (hl : li n = l) (hm : le n = m) (d1 : 1 ≤ d ∧ d ≤ 16384) (hv : v = nuG (la 0) (la 1) (la 2) d l 1) (hz : dsF v l (la 0) (la 1) (la 2) = (z, la2 0, la2 1, la2 2)) (x0 : y0 = gsB lBs l 36) (x2 : y2 = gsB mBs m 53) (x1 : p2 y1 ≤ v ∧ v < 2 * p2 y1) (y1r : 0 ≤ y1 ∧ y1 ≤ 30) : TSL (upd1 s0 n y0) (upd1 s1 n y1) (upd1 s2 n y2) (upd1 nu n v) li le di r n2 la2 := by
  subst hd hl hm
  obtain ⟨t, hs, p⟩ := h
  have k : v = nuS li di r n := nuS_e hs hv
  have hb : v ≤ 16387 := by
    rw [hv]
    unfold nuG
    split
    · omega
    · split
      · omega
      · split <;> omega
  have h16 : y1 ≤ 14 := by
    refine Int.not_lt.mp (fun c => ?_)
    have := p2_mono (show (15 : Int) ≤ y1 by omega)
    have e17 : p2 15 = 32768 := by decide
    omega
  refine ⟨fun j a b => ?_, laS_s hs h0 e k hz, ?_⟩
  · by_cases q : j = n
    · subst q
      rw [upd1_s, upd1_s, upd1_s, upd1_s]
      exact ⟨x0, x2, k, by rw [← k]; exact gsB_p y1r x1.1 x1.2, h16⟩
    · rw [upd1_o q, upd1_o q, upd1_o q, upd1_o q]
      exact t j a (by omega)
  · obtain ⟨w, hw⟩ : ∃ w : Int, 3 < nuG (la 0) (la 1) (la 2) (di n) (li n) 1 ∧ w = 5 ∨ nuG (la 0) (la 1) (la 2) (di n) (li n) 1 ≤ 3 ∧ (li n = 0 ∧ w = nuG (la 0) (la 1) (la 2) (di n) (li n) 1 + 1 ∨ li n ≠ 0 ∧ w = nuG (la 0) (la 1) (la 2) (di n) (li n) 1) := by
      by_cases a : 3 < nuG (la 0) (la 1) (la 2) (di n) (li n) 1
      · exact ⟨5, .inl ⟨a, rfl⟩⟩
      · by_cases b : li n = 0
        · exact ⟨_, .inr ⟨by omega, .inl ⟨b, rfl⟩⟩⟩
        · exact ⟨_, .inr ⟨by omega, .inr ⟨b, rfl⟩⟩⟩
    have g := nuG_ds hw d1.1
    rw [← hv, hz] at g
    have g1 := congrArg Prod.snd g
    have g2 := congrArg Prod.fst g1
    have g3 := congrArg Prod.fst (congrArg Prod.snd g1)
    have g4 := congrArg Prod.snd (congrArg Prod.snd g1)
    dsimp only at g2 g3 g4
    refine ⟨by rw [g2]; exact d1.1, ?_, ?_⟩
    · rw [g3]
      split
      · exact p.1
      · exact p.2.1
    · rw [g4]
      split
      · exact p.2.1
      · exact p.2.2
theorem numB_e {n : Int} (h : 0 ≤ n) : (if n < 128 then [] else [128 + n / 256]) ++ [u8 n] = numB n := by
  unfold numB
  by_cases c : n < 128
  · rw [if_pos c, if_pos c, List.nil_append, u8_id ⟨h, by omega⟩]
  · rw [if_neg c, if_neg c]
    rfl
theorem RAP_n {b n b1 n1 : Int} {g g1 : Int → Int} {M : List Int} (h : RAP b g n b1 g1 n1 M) (hb : b = 0) (h0 : 0 ≤ n) (h1 : 0 ≤ n1) (hM : n + (M.length : Int) ≤ 65536) : n1 = n + (M.length : Int) := by
  have e := RAP_sc h hb rfl (by rw [List.length_append, Int.natCast_add, sc_lenI h0]; omega)
  have w : ((sc g1 0 n1).length : Int) = ((sc g 0 n ++ M).length : Int) := by rw [e]
  rw [List.length_append, Int.natCast_add, sc_lenI h0, sc_lenI h1] at w
  omega
theorem numB_len {n : Int} : ((numB n).length : Int) ≤ 2 := by
  unfold numB
  by_cases c : n < 128
  · rw [if_pos c]
    show ((1 : Nat) : Int) ≤ 2
    decide
  · rw [if_neg c]
    show ((2 : Nat) : Int) ≤ 2
    decide
theorem n01_ : ((0 : Int) = 1) = False := eq_false (by decide)
theorem n02_ : ((0 : Int) = 2) = False := eq_false (by decide)
theorem n10_ : ((1 : Int) = 0) = False := eq_false (by decide)
theorem n12_ : ((1 : Int) = 2) = False := eq_false (by decide)
theorem n20_ : ((2 : Int) = 0) = False := eq_false (by decide)
theorem n21_ : ((2 : Int) = 1) = False := eq_false (by decide)
def BYO (v : Int) (w : Int → Int) (k : Int) : Prop := v = 1 ∧ BYS w k ∨ v = 0 ∧ ¬ BYS w k
theorem BYO_1 {v : Int} {w : Int → Int} {k : Int} (h : BYO v w k) (e : v ≠ 0) : BYS w k := by
  rcases h with ⟨_, b⟩ | ⟨a, _⟩
  · exact b
  · exact absurd a e
theorem BYO_0 {v : Int} {w : Int → Int} {k : Int} (h : BYO v w k) (e : v ≠ 1) : ¬ BYS w k := by
  rcases h with ⟨a, _⟩ | ⟨_, b⟩
  · exact absurd a e
  · exact b
def NDO (w : Int → Int) (k : Int) : Prop := 128 < k ∨ BYS w k ∧ ((stB w k).length : Int) < (k + 1) / 2
theorem NDO_n {w : Int → Int} {k : Int} (h : NDO w k) (b : ¬ BYS w k) : 128 < k := by
  rcases h with z | ⟨z, _⟩
  · exact z
  · exact absurd z b
theorem NDO_s {w : Int → Int} {k : Int} (h : NDO w k) : 128 < k ∨ ((stB w k).length : Int) < (k + 1) / 2 := by
  rcases h with z | ⟨_, z⟩
  · exact .inl z
  · exact .inr z
theorem TSL_z {s0 s1 s2 nu li le di la : Int → Int} {n : Int} (e : n = 0) (h : 1 ≤ la 0 ∧ 1 ≤ la 1 ∧ 1 ≤ la 2) : TSL s0 s1 s2 nu li le di (la 0, la 1, la 2) n la := by
  subst e
  exact TSL_0 h


end
