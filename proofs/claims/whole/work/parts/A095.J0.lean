section
/-! J0.rows -/
def DIF (d : Int → Int) (a b : Int) : Prop := ∃ i, a < i ∧ i < b ∧ d i ≠ d a
def M03 (m : Int → Int) : Prop := ∀ i, 0 ≤ i → i < 3 → 0 ≤ m i ∧ m i ≤ 3
theorem prod_bd {x y a b : Int} (x0 : 0 ≤ x) (x1 : x ≤ a) (y0 : 0 ≤ y) (y1 : y ≤ b) : 0 ≤ x * y ∧ x * y ≤ a * b := ⟨Int.mul_nonneg x0 y0, Int.mul_le_mul x1 y1 y0 (by omega)⟩


end
section
/-! K0.math -/
def RNG (r : Int → Int) (n m : Int) : Prop := ∀ j, 0 ≤ j → j < n → 0 ≤ r j ∧ r j < m
theorem RNG_0 {r : Int → Int} {m : Int} : RNG r 0 m := fun j a b => by omega
theorem RNG_s {r : Int → Int} {n n2 m v : Int} (h : RNG r n m) (e : n2 = n + 1) (hv : 0 ≤ v ∧ v < m) : RNG (upd1 r n v) n2 m := fun j a b => by
  by_cases w : j = n
  · subst w; rw [upd1_s]; exact hv
  · rw [upd1_o w]; exact h j a (by omega)
def CTN (r co : Int → Int) (n m : Int) : Prop := ∀ s, 0 ≤ s → s < m → co s = su (eqs r s) n.toNat
theorem CTN_0 {r co : Int → Int} {m : Int} (h : ∀ i, co i = 0) : CTN r co 0 m := fun s _ _ => h s
theorem CTN_s {r co : Int → Int} {n n2 m v y : Int} (h : CTN r co n m) (n0 : 0 ≤ n) (e : n2 = n + 1) (ev : r n = v) (ey : y = co v + 1) : CTN r (upd1 co v y) n2 m := fun s a b => by
  subst e
  rw [su_s n0]
  have q := eqs_eq r s n
  have w := h s a b
  by_cases p : s = v
  · subst p; rw [upd1_s]; omega
  · rw [upd1_o p]; omega
theorem CTN_le {r co : Int → Int} {n m s : Int} (h : CTN r co n m) (n0 : 0 ≤ n) (s0 : 0 ≤ s) (s1 : s < m) : 0 ≤ co s ∧ co s ≤ n := by
  rw [h s s0 s1]
  have a := su_nonneg (f := eqs r s) (n := n.toNat) (fun i _ _ => by have := eqs_eq r s i; omega)
  have b := su_ones (f := eqs r s) (n := n.toNat) (fun i => by have := eqs_eq r s i; omega)
  omega
theorem CTN_pos {r co : Int → Int} {n m i x : Int} (h : CTN r co n m) (i0 : 0 ≤ i) (i1 : i < n) (e : r i = x) (x0 : 0 ≤ x) (x1 : x < m) : 1 ≤ co x := by
  rw [h x x0 x1]
  have a := su_one (f := eqs r x) (i := i) (n := n.toNat) (fun k => by have := eqs_eq r x k; omega) i0 (by omega)
  have b := eqs_eq r x i
  omega
theorem CTP_0 {co : Int → Int} (h : ∀ i, co i = 0) : (0 : Int) = su (fun i => pos1 (co i)) 53 := (su_z pos1 rfl (fun i _ _ => h i)).symm
theorem CTP_s {co : Int → Int} {l lₚ v w y : Int} (h : l = su (fun i => pos1 (co i)) 53) (v0 : 0 ≤ v) (v1 : v < 53) (ew : co v = w) (w0 : 0 ≤ w) (hl : w = 0 ∧ lₚ = l + 1 ∨ w ≠ 0 ∧ lₚ = l) (ey : y = w + 1) : lₚ = su (fun i => pos1 (upd1 co v y i)) 53 := by
  rw [su_upd1 pos1 v0 (by omega), ew, ey]
  have := pos1_eq w
  have := pos1_eq (w + 1)
  omega
theorem CTP_le {co : Int → Int} {l : Int} (h : l = su (fun i => pos1 (co i)) 53) : 0 ≤ l ∧ l ≤ 53 := by
  have a := su_nonneg (f := fun i => pos1 (co i)) (n := 53) (fun i _ _ => by have := pos1_eq (co i); omega)
  have b := su_ones (f := fun i => pos1 (co i)) (n := 53) (fun i => by have := pos1_eq (co i); omega)
  omega
theorem su_allm {w : Int → Int} {m : Nat} : ∀ {n : Nat}, (∀ i, (0 : Int) ≤ i → i < n → 0 ≤ w i ∧ w i < m) → su (fun v => su (eqs w v) n) m = n
  | 0, _ => by
    show su (fun _ => 0) m = 0
    exact su_zero _
  | n + 1, h => by
    have ih := su_allm (m := m) (n := n) (fun i a b => h i a (by omega))
    have hn := h n (by omega) (by omega)
    have e : su (fun v => su (eqs w v) (n + 1)) m = su (fun v => su (eqs w v) n + eqs w v n) m := su_congr (fun i _ _ => rfl)
    have o : su (fun v => eqs w v n) m = 1 := by
      rw [su_only (r := w n) hn.1 hn.2 (fun i _ _ q => by have := eqs_eq w i n; omega)]
      have := eqs_eq w (w n) n
      omega
    rw [e, su_add, ih, o]
    omega
theorem CTN_CNT {r co : Int → Int} {n m L k : Int} (h : CTN r co n 53) (hm : 1 ≤ m ∧ m ≤ 53) (g : RNG r n m) (n0 : 1 ≤ n) (n1 : n ≤ 65536) (hL : 5 ≤ L ∧ L ≤ 9) (hd : k = su (fun i => pos1 (co i)) 53) (hk : k ≤ p2 L) : CNT co m n L := by
  refine ⟨fun s a b => CTN_le h (by omega) a (by omega), ?_, n0, n1, ?_, hL.1, hL.2, by omega, by omega⟩
  · rw [su_congr (h := fun v => su (eqs r v) n.toNat) (fun i a b => h i a (by omega)), su_allm (m := m.toNat) (fun i a b => by have := g i a (by omega); omega)]
    omega
  · have a := su_le_all (f := fun i => pos1 (co i)) (i := m) (n := 53) (by omega) (by omega) (fun i _ => by have := pos1_eq (co i); omega)
    have e : su (fun i => pos1 (co i)) (53 : Int).toNat = su (fun i => pos1 (co i)) 53 := rfl
    omega
theorem CTN_HLD {r co P : Int → Int} {n m : Int} (h : CTN r co n 53) (g : HLD co P m 53 1) (hr : RNG r n 53) : RWO r P m n := fun j a b => by
  have q := hr j a b
  have p := CTN_pos h a b rfl q.1 q.2
  have w := g rfl (r j) q.1 q.2 (by omega)
  exact ⟨q.1, w.1, w.2⟩
theorem RNG_mono {r : Int → Int} {n m k : Int} (h : RNG r n m) (hk : m ≤ k) : RNG r n k := fun j a b => by
  have := h j a b
  omega
theorem CTN_DVI {r co P : Int → Int} {n m : Int} (h : CTN r co n 53) (d : DVI co P m) (hr : RNG r n m) (hm : m ≤ 53) : RWO r P m n := fun j a b => by
  have q := hr j a b
  have p := CTN_pos h a b rfl q.1 (by omega)
  have w := d (r j) q.1 q.2
  exact ⟨q.1, q.2, by omega⟩
theorem pos1_two {co : Int → Int} {s t : Int} {m : Nat} (s0 : 0 ≤ s) (s1 : s < m) (t0 : 0 ≤ t) (t1 : t < m) (st : s ≠ t) (hs : co s ≠ 0) (ht : co t ≠ 0) : 2 ≤ su (fun i => pos1 (co i)) m := by
  have a := su_two (f := fun i => pos1 (co i)) (i := s) (j := t) (n := m) (fun i => by have := pos1_eq (co i); omega) s0 s1 t0 t1 st
  have b := pos1_eq (co s)
  have c := pos1_eq (co t)
  omega
theorem CTN_one {r co P : Int → Int} {n m k : Int} (h : CTN r co n 53) (hr : RNG r n m) (hm : m ≤ 53) (hd : k = su (fun i => pos1 (co i)) 53) (hk : k = 1) (n0 : 1 ≤ n) (hp : P (r 0) ≠ 0) : RWO r P m n := fun j a b => by
  have q := hr j a b
  have q0 := hr 0 (by omega) (by omega)
  have e : r j = r 0 := by
    by_cases w : r j = r 0
    · exact w
    · have p := CTN_pos h a b rfl q.1 (by omega)
      have p0 := CTN_pos h (i := 0) (by omega) (by omega) rfl q0.1 (by omega)
      have := pos1_two (co := co) (m := 53) q.1 (by omega) q0.1 (by omega) w (by omega) (by omega)
      omega
  rw [e]
  exact ⟨q0.1, q0.2, hp⟩

def ub (d : Int → Int) : Int → Int := fun j => d j % 256
theorem CTN_CTS {r co : Int → Int} {n : Int} (h : CTN r co n 256) (n0 : 0 ≤ n) (n1 : n ≤ 65536) : CTS co := fun s a b => by
  have := CTN_le h n0 a b
  omega
theorem CTN_DIF {d co : Int → Int} {n : Int} (h : CTN (ub d) co n 256) (hb : ∀ i, -128 ≤ d i ∧ d i ≤ 127) (hd : DIF d 0 n) : 2 ≤ su (fun i => pos1 (co i)) 256 := by
  obtain ⟨i, i0, i1, ne⟩ := hd
  have a := hb i
  have b := hb 0
  have p := CTN_pos h (i := i) (by omega) i1 rfl (by unfold ub; omega) (by unfold ub; omega)
  have q := CTN_pos h (i := 0) (by omega) (by omega) rfl (by unfold ub; omega) (by unfold ub; omega)
  have e1 : ub d i = d i % 256 := rfl
  have e2 : ub d 0 = d 0 % 256 := rfl
  exact pos1_two (s := ub d i) (t := ub d 0) (m := 256) (by omega) (by omega) (by omega) (by omega) (by omega) (by omega) (by omega)
def DSI (di : Int → Int) (n : Int) : Prop := ∀ j, 0 ≤ j → j < n → 1 ≤ di j ∧ di j ≤ 16384
theorem lgq_e {a b : Int} (h : a = b) (hb : lgq b = 0) : lgq a = 0 := by
  rw [h]; exact hb
theorem M03_of {m : Int → Int} (h0 : 0 ≤ m 0 ∧ m 0 ≤ 3) (h1 : 0 ≤ m 1 ∧ m 1 ≤ 3) (h2 : 0 ≤ m 2 ∧ m 2 ≤ 3) : M03 m := fun i a b => by
  rcases (show i = 0 ∨ i = 1 ∨ i = 2 by omega) with q | q | q <;> rw [q] <;> assumption


end
section
/-! 20e -/
theorem MTL_l {f : Int → Int} {e w l way ls p n d : Int} (hl : 1 ≤ l ∧ l ≤ 8) (h : MTL f e w l way ls p n d) (hn : 1 ≤ n) : l ≤ n := by
  have nr : ∀ {k n d : Int}, l ≤ k → 1 ≤ n → NRQ f e w k p n d → l ≤ n := fun b a q => by
    rcases q with ⟨z, _⟩ | ⟨z, _⟩ <;> omega
  have lg : ∀ {k n d : Int}, l ≤ k → 1 ≤ n → LGQ f e w k p n d → l ≤ n := fun b a q => by
    rcases q with ⟨z, _⟩ | ⟨z, _⟩ <;> omega
  rcases h with ⟨_, h⟩ | ⟨_, h⟩
  · rcases h with ⟨_, h⟩ | ⟨_, ⟨_, h⟩ | ⟨_, h⟩⟩ | ⟨_, h⟩ | ⟨_, n0, d0, u, v⟩
    · exact nr (Int.le_refl l) hn h
    · exact nr (by omega) hn h
    · exact nr (Int.le_refl l) hn h
    · exact lg (Int.le_refl l) hn h
    · rcases v with ⟨_, v⟩ | ⟨_, ⟨_, v, x⟩ | ⟨_, n1, d1, _, ⟨_, v⟩ | ⟨_, v, x⟩⟩⟩
      · omega
      · rw [v]; exact lg (Int.le_refl l) (by omega) u
      · omega
      · rw [v]; exact lg (Int.le_refl l) (by omega) u
  · omega
theorem GOS_3 {M : Int → Int → Int → Prop} {n : Int} (hM : ∀ p n d, M p n d → 1 ≤ n → 3 ≤ n) {dd : Int → Int} : ∀ {S : List (Int × Int × Int)} {p s t : Int}, GOS M n p s S t → s ≤ p → 0 ≤ t → ((LTS dd s S t).length : Int) + 3 * (S.length : Int) ≤ n - s
  | [], p, s, t, h, hp, h0 => by
    have h2 := h.2.1
    show ((sc dd s (s + t)).length : Int) + 3 * (([] : List (Int × Int × Int)).length : Int) ≤ n - s
    rw [sc_lenI (by omega), List.length_nil]
    omega
  | (a, b, d) :: S, p, s, t, h, hp, h0 => by
    obtain ⟨k1, k2, k3, k4, k5, k6⟩ := h
    have b3 := hM _ _ _ k5 k1
    have w := GOS_3 hM (dd := dd) k6 (Int.le_refl _) h0
    show ((sc dd s (s + a) ++ LTS dd (s + a + b) S t).length : Int) + 3 * (((a, b, d) :: S).length : Int) ≤ n - s
    have e := sc_lenI (f := dd) (a := s) (b := s + a) (by omega)
    rw [List.length_append, List.length_cons]
    omega
theorem GOR_3 {d li le di lt : Int → Int} {n h k lc w l way ls e : Int} (hl : 3 ≤ l ∧ l ≤ 8) (hg : GOR (MTL d e w l way ls) d n h li le di k lt lc) (h0 : 0 ≤ lc) (hk : 0 ≤ k) : lc + 3 * k ≤ n - h := by
  obtain ⟨t, t0, g, q⟩ := hg
  have w := GOS_3 (fun p n d x y => Int.le_trans hl.1 (MTL_l ⟨by omega, hl.2⟩ x y)) (dd := d) g (Int.le_refl _) t0
  have e := sc_lenI (f := lt) h0
  rw [← q, sq_len] at w
  omega
section PBx
variable {s0 s1 s2 nu li le di la : Int → Int} {r : Int × Int × Int} {n t m : Int} {B : Int → TSt} {Q : Sqs} {S : Int → Int}
theorem TSL_Sc (h : TSL s0 s1 s2 nu li le di r n la) (hn : 0 ≤ n) : cutP n s0 = Sc (sq li le di n) r 0 ∧ cutP n s1 = Sc (sq li le di n) r 1 ∧ cutP n s2 = Sc (sq li le di n) r 2 := by
  obtain ⟨t, _⟩ := h
  exact ⟨Sc_e hn (fun j a b => by rw [SYc_0 a b]; exact (t j a b).1), Sc_e hn (fun j a b => by rw [SYc_1 a b]; exact (t j a b).2.2.2.1), Sc_e hn (fun j a b => by rw [SYc_2 a b]; exact (t j a b).2.1)⟩
theorem TSL_XC (h : TSL s0 s1 s2 nu li le di r n la) {j : Int} (a : 0 ≤ j) (b : j < n) : XC li le nu s0 s1 s2 j = XN_ (sq li le di n) r j := by
  obtain ⟨e0, e2, en, e1, _⟩ := h.1 j a b
  rw [XN_e a b]
  unfold XC
  rw [e0, e2, en, e1]
theorem TSL_la (h : TSL s0 s1 s2 nu li le di r n la) : laS (qL (sq li le di n)) (qD (sq li le di n)) r (sq li le di n).length = (la 0, la 1, la 2) := by
  rw [sq_len, laS_congr (ll2 := li) (di2 := di) (fun i a b => qLD i a (by omega))]
  exact h.2.1
theorem md_of (e : cutP n S = Sc Q r t) (hn : (Q.length : Int) = n) (h : m = mwF t (cutP n S) n (B t)) : m = mdQ B Q r t := by
  unfold mdQ
  rw [hn, ← e]
  exact h
theorem tq_of (e : cutP n S = Sc Q r t) (hn : (Q.length : Int) = n) (hm : m = mdQ B Q r t) : ttB t (cutP n S) n m = tqB B Q r t := by
  unfold tqB
  rw [hn, ← e, hm]
theorem bn_of {Y : TSt} (e : cutP n S = Sc Q r t) (hn : (Q.length : Int) = n) (hm : m = mdQ B Q r t) (h : tnF t (cutP n S) n (B t) m = Y) : bnQ B Q r t = Y := by
  unfold bnQ
  rw [hn, ← e, ← hm]
  exact h
theorem TOK_tn {C : TSt} (h : TOK C) (ht : 0 ≤ t ∧ t ≤ 2) (hS : 0 ≤ S 0 ∧ S 0 < 64) (hd : dfN S n ≤ 64) : TOK (tnF t S n C m) := by
  by_cases a : m = 0
  · rw [a, tnF_0]
    refine TOK_k ?_
    show kO t ≠ 0
    have := kO_eq t
    omega
  · by_cases b : m = 1
    · rw [b, tnF_1]
      exact fun _ => ⟨S 0, hS.1, hS.2, rfl⟩
    · by_cases c : m = 2
      · rw [c, tnF_2 rfl]
        refine TOK_k ?_
        show (boF t S n).1 ≠ 0
        have := (boF_v (t := t) hd).1
        omega
      · unfold tnF
        rw [if_neg a, if_neg b, if_neg c]
        exact h
end PBx
theorem sc_put {g : Int → Int} {a c x v : Int} {A C : List Int} (h : sc g 0 c = A ++ ([x] ++ C)) (ha : a = (A.length : Int)) (hv : 0 ≤ v ∧ v ≤ 255) : sc (upd1 g a v) 0 c = A ++ ([v] ++ C) := by
  have hl := congrArg List.length h
  rw [sc_len, List.length_append, List.length_append, List.length_singleton] at hl
  have e1 : sc g 0 c = sc g 0 a ++ (u8 (g a) :: sc g (a + 1) c) := by rw [sc_cat (b := a) (by omega) (by omega), sc_cons (a := a) (by omega)]
  have e2 : sc (upd1 g a v) 0 c = sc (upd1 g a v) 0 a ++ (u8 (upd1 g a v a) :: sc (upd1 g a v) (a + 1) c) := by rw [sc_cat (b := a) (by omega) (by omega), sc_cons (a := a) (by omega)]
  have q : sc g 0 a ++ (u8 (g a) :: sc g (a + 1) c) = A ++ (x :: C) := e1.symm.trans h
  have l : (sc g 0 a).length = A.length := by rw [sc_len]; omega
  have i := List.append_inj q l
  have i2 := List.cons.inj i.2
  rw [e2, sc_same (g := g) (a := 0) (b := a) (fun k x y => upd1_o (by omega)), sc_same (g := g) (a := a + 1) (b := c) (fun k x y => upd1_o (by omega)), upd1_s, i.1, i2.2, u8_id hv]
  rfl
theorem numB_l1 {n : Int} : 1 ≤ ((numB n).length : Int) := by
  unfold numB
  split <;> simp

theorem pkE_0 {st : WSt} {T LT L : List Int} {Q : Sqs} {n : Int} (hLT : ltB st.1 (ap T) (T.length : Int) (pkW st T) = LT) (hn : (Q.length : Int) = n) (h : n ≤ 0) (e : L = LT ++ (numB n ++ (if n ≤ 0 then [] else [0]))) : pkP st T Q = L := by
  unfold pkP
  rw [hLT, e, sqB_0 (by omega), if_pos h, List.append_nil, hn]
theorem pkE_1 {st : WSt} {T LT L : List Int} {Q : Sqs} {n : Int} {SF : Int → Int → Int} {XF : Int → List Int} {g : Int → Int} {a c v : Int} (hLT : ltB st.1 (ap T) (T.length : Int) (pkW st T) = LT) (hn : (Q.length : Int) = n) (h : 1 ≤ n) (hg : sc g 0 c = (LT ++ (numB n ++ (if n ≤ 0 then [] else [0]))) ++ tqU st.2.1 Q st.2.2.1 (3 : Int).toNat) (ha : a = (LT.length : Int) + ((numB n).length : Int)) (hv : v = 64 * mdQ st.2.1 Q st.2.2.1 0 + 16 * mdQ st.2.1 Q st.2.2.1 1 + 4 * mdQ st.2.1 Q st.2.2.1 2) (hs : strB (bnQ st.2.1 Q st.2.2.1) SF XF n = strB (bnQ st.2.1 Q st.2.2.1) (Sc Q st.2.2.1) (XN_ Q st.2.2.1) n) (e : L = sc (upd1 g a v) 0 c ++ strB (bnQ st.2.1 Q st.2.2.1) SF XF n) : pkP st T Q = L := by
  have r0 := mwF_r (t := 0) (S := Sc Q st.2.2.1 0) (n := (Q.length : Int)) (B := st.2.1 0)
  have r1 := mwF_r (t := 1) (S := Sc Q st.2.2.1 1) (n := (Q.length : Int)) (B := st.2.1 1)
  have r2 := mwF_r (t := 2) (S := Sc Q st.2.2.1 2) (n := (Q.length : Int)) (B := st.2.1 2)
  have v1 : 0 ≤ v ∧ v ≤ 255 := by
    unfold mdQ at hv
    omega
  rw [if_neg (show ¬ n ≤ 0 by omega), tqU_3] at hg
  have p := sc_put (g := g) (a := a) (c := c) (x := 0) (v := v) (A := LT ++ numB n) (C := tqB st.2.1 Q st.2.2.1 0 ++ tqB st.2.1 Q st.2.2.1 1 ++ tqB st.2.1 Q st.2.2.1 2) (by rw [hg]; simp only [List.append_assoc]) (by rw [List.length_append]; omega) v1
  unfold pkP sqB
  rw [e, p, hs, hLT, hn, if_neg (show ¬ n = 0 by omega), hv]
  simp only [List.append_assoc]
theorem sqB_1 {B : Int → TSt} {Q : Sqs} {r : Int × Int × Int} : 1 ≤ ((sqB B Q r).length : Int) := by
  unfold sqB
  rw [List.length_append]
  have := numB_l1 (n := (Q.length : Int))
  omega
theorem pk_ge {st : WSt} {T LT : List Int} {Q : Sqs} (hLT : ltB st.1 (ap T) (T.length : Int) (pkW st T) = LT) : (LT.length : Int) + 1 ≤ ((pkP st T Q).length : Int) := by
  unfold pkP
  rw [hLT, List.length_append]
  have := sqB_1 (B := st.2.1) (Q := Q) (r := st.2.2.1)
  omega

def CNR (c : Int → Int) (st : WSt) : Prop := ∀ i, 0 ≤ i → i < 12 → st.2.2.2 i = c (i + 1)
theorem CNR_1 {c c2 : Int → Int} {st : WSt} {i j x : Int} (h : CNR c st) (hi : 0 ≤ i ∧ i < 12) (hj : j = i + 1) (hx : c j = x) (e : c2 = upd1 c j (adI x 1)) : CNR c2 (cnS st i) := fun k a b => by
  subst hx hj
  show c1U st.2.2.2 i 1 k = c2 (k + 1)
  unfold c1U
  rw [e]
  by_cases q : k = i
  · rw [q, upd1_s, upd1_s, h i hi.1 hi.2]
  · rw [upd1_o q, upd1_o (by omega), h k a b]
def mdC (m f : Int → Int) : Nat → Int → Int
  | 0 => f
  | k + 1 => upd1 (mdC m f k) (8 + m (k : Int)) (adI (mdC m f k (8 + m (k : Int))) 1)
def CNF (c : Int → Int) (way found : Int) : Int → Int := c1U (c1U (c1U (fun j => c (j + 1)) 2 1) 3 found) (4 + way) 1
def CNP (c c2 : Int → Int) (way found : Int) (m : Int → Int) : Prop := ∀ i, 0 ≤ i → i < 12 → c2 (i + 1) = (if found ≤ 0 then CNF c way found else mdC m (CNF c way found) 3) i
def CNL (c c2 : Int → Int) (way found : Int) (m : Int → Int) (k : Int) : Prop := ∀ i, 0 ≤ i → i < 12 → c2 (i + 1) = mdC m (CNF c way found) k.toNat i
theorem CNL_0 {c c2 : Int → Int} {way found x3 x4 x5 : Int} {m : Int → Int} (hw : 0 ≤ way ∧ way ≤ 3) (h3 : c 3 = x3) (h4 : (upd1 c 3 (adI x3 1)) 4 = x4) (h5 : (upd1 (upd1 c 3 (adI x3 1)) 4 (adI x4 found)) (5 + way) = x5) (e : c2 = upd1 (upd1 (upd1 c 3 (adI x3 1)) 4 (adI x4 found)) (5 + way) (adI x5 1)) : CNL c c2 way found m 0 := fun i a b => by
  subst h3 h4 h5
  show c2 (i + 1) = CNF c way found i
  unfold CNF c1U
  rw [e]
  by_cases q : i = 4 + way
  · rw [q, show 4 + way + 1 = 5 + way by omega, upd1_s, upd1_s, upd1_o (by omega), upd1_o (by omega), upd1_o (by omega), upd1_o (by omega), show 4 + way + 1 = 5 + way by omega]
  · rw [upd1_o (show i + 1 ≠ 5 + way by omega), upd1_o q]
    by_cases q3 : i = 3
    · rw [q3, show (3 : Int) + 1 = 4 by omega, upd1_s, upd1_s, upd1_o (by omega), upd1_o (by omega), show (3 : Int) + 1 = 4 by omega]
    · rw [upd1_o (show i + 1 ≠ 4 by omega), upd1_o q3]
      by_cases q2 : i = 2
      · rw [q2, show (2 : Int) + 1 = 3 by omega, upd1_s, upd1_s]
        rfl
      · rw [upd1_o (show i + 1 ≠ 3 by omega), upd1_o q2]
theorem CNL_s {c c2 c3 : Int → Int} {way found : Int} {m : Int → Int} {k k2 x y : Int} (h : CNL c c2 way found m k) (hk : 0 ≤ k) (e : k2 = k + 1) (hm : m k = x) (hx : 0 ≤ x ∧ x ≤ 3) (hy : c2 (9 + x) = y) (h3 : c3 = upd1 c2 (9 + x) (adI y 1)) : CNL c c3 way found m k2 := fun i a b => by
  subst e hy
  rw [show (k + 1).toNat = k.toNat + 1 by omega, h3]
  show _ = upd1 (mdC m (CNF c way found) k.toNat) (8 + m ((k.toNat : Nat) : Int)) (adI (mdC m (CNF c way found) k.toNat (8 + m ((k.toNat : Nat) : Int))) 1) i
  rw [show ((k.toNat : Nat) : Int) = k by omega, hm]
  have w := h (8 + x) (by omega) (by omega)
  rw [show 8 + x + 1 = 9 + x by omega] at w
  by_cases q : i = 8 + x
  · rw [q, show 8 + x + 1 = 9 + x by omega, upd1_s, upd1_s, w]
  · rw [upd1_o q, upd1_o (by omega), h i a b]
theorem CNL_e {c c2 : Int → Int} {way found : Int} {m : Int → Int} {k : Int} (h : CNL c c2 way found m k) (q : found ≤ 0 ∧ k = 0 ∨ 0 < found ∧ k = 3) : CNP c c2 way found m := fun i a b => by
  rw [h i a b]
  rcases q with ⟨q, e⟩ | ⟨q, e⟩
  · rw [if_pos q, e]; rfl
  · rw [if_neg (by omega), e]; rfl
theorem mdC_lo {m f : Int → Int} {i : Int} (hm : ∀ k, 0 ≤ k → k < 3 → 0 ≤ m k) (hi : i < 8) : ∀ k : Nat, k ≤ 3 → mdC m f k i = f i
  | 0, _ => rfl
  | k + 1, h => by
    show upd1 (mdC m f k) (8 + m (k : Int)) _ i = f i
    have := hm (k : Int) (by omega) (by omega)
    rw [upd1_o (by omega)]
    exact mdC_lo hm hi k (by omega)
theorem mdC_hi {m f g : Int → Int} {B : Int → TSt} {Q : Sqs} {r : Int × Int × Int} (hm : ∀ k, 0 ≤ k → k < 3 → m k = mdQ B Q r k ∧ 0 ≤ m k) (hf : ∀ i, 8 ≤ i → i < 12 → f i = g i) (h3 : ∀ k, 0 ≤ k → k < 3 → m k ≤ 3) : ∀ k : Nat, k ≤ 3 → ∀ i, 8 ≤ i → i < 12 → mdC m f k i = ntU 8 B Q r g k i
  | 0, _, i, a, b => hf i a b
  | k + 1, h, i, a, b => by
    show upd1 (mdC m f k) (8 + m (k : Int)) (adI (mdC m f k (8 + m (k : Int))) 1) i = upd1 (ntU 8 B Q r g k) (8 + mdQ B Q r (k : Int)) (adI (ntU 8 B Q r g k (8 + mdQ B Q r (k : Int))) 1) i
    have e := hm (k : Int) (by omega) (by omega)
    have e3 := h3 (k : Int) (by omega) (by omega)
    have ih := mdC_hi hm hf h3 k (by omega)
    rw [← e.1, ih (8 + m (k : Int)) (by omega) (by omega)]
    by_cases q : i = 8 + m (k : Int)
    · rw [q, upd1_s, upd1_s]
    · rw [upd1_o q, upd1_o q]
      exact ih i a b
theorem CNR_p {c c2 : Int → Int} {st : WSt} {T : List Int} {Q : Sqs} {way found : Int} {m : Int → Int} (h : CNR c st) (hp : CNP c c2 way found m) (hw : way = pkW st T) (hw3 : 0 ≤ way ∧ way ≤ 3) (hn : (Q.length : Int) = found) (hm : 1 ≤ found → ∀ k, 0 ≤ k → k < 3 → m k = mdQ st.2.1 Q st.2.2.1 k) : CNR c2 (pkS st T Q) := fun i a b => by
  show c1U (c1U (c1U (if (Q.length : Int) = 0 then st.2.2.2 else ntU 8 st.2.1 Q st.2.2.1 st.2.2.2 3) 2 1) 3 (Q.length : Int)) (4 + pkW st T) 1 i = c2 (i + 1)
  rw [hp i a b, ← hw, hn]
  have hc : ∀ j, 0 ≤ j → j < 12 → (fun j => c (j + 1)) j = st.2.2.2 j := fun j x y => (h j x y).symm
  have hF : ∀ j, 0 ≤ j → j < 12 → CNF c way found j = c1U (c1U (c1U st.2.2.2 2 1) 3 found) (4 + way) 1 j := c1U_cg (c1U_cg (c1U_cg hc))
  by_cases z : found ≤ 0
  · rw [if_pos (show found = 0 by omega), if_pos z, hF i a b]
  · rw [if_neg (show ¬ found = 0 by omega), if_neg z]
    have hm2 : ∀ k, 0 ≤ k → k < 3 → m k = mdQ st.2.1 Q st.2.2.1 k ∧ 0 ≤ m k := fun k x y => ⟨hm (by omega) k x y, by
      rw [hm (by omega) k x y]
      exact mwF_r.1⟩
    have hm3 : ∀ k, 0 ≤ k → k < 3 → m k ≤ 3 := fun k x y => by
      rw [hm (by omega) k x y]
      exact mwF_r.2
    by_cases q : i < 8
    · rw [mdC_lo (fun k x y => (hm2 k x y).2) q 3 (Nat.le_refl 3), hF i a b]
      have l2 := ntU_lo (B := st.2.1) (Q := Q) (r := st.2.2.1) (f := st.2.2.2) (i := 2) (by omega) (by omega)
      have l3 := ntU_lo (B := st.2.1) (Q := Q) (r := st.2.2.1) (f := st.2.2.2) (i := 3) (by omega) (by omega)
      have l4 := ntU_lo (B := st.2.1) (Q := Q) (r := st.2.2.1) (f := st.2.2.2) (i := 4 + way) (by omega) (by omega)
      have li := ntU_lo (B := st.2.1) (Q := Q) (r := st.2.2.1) (f := st.2.2.2) (i := i) a q
      unfold c1U
      by_cases q4 : i = 4 + way
      · rw [q4, upd1_s, upd1_s, upd1_o (by omega), upd1_o (by omega), upd1_o (by omega), upd1_o (by omega), l4]
      · rw [upd1_o q4, upd1_o q4]
        by_cases q3 : i = 3
        · rw [q3, upd1_s, upd1_s, upd1_o (by omega), upd1_o (by omega), l3]
        · rw [upd1_o q3, upd1_o q3]
          by_cases q2 : i = 2
          · rw [q2, upd1_s, upd1_s, l2]
          · rw [upd1_o q2, upd1_o q2, li]
    · have hfh : ∀ j, 8 ≤ j → j < 12 → CNF c way found j = st.2.2.2 j := fun j x y => by
        rw [hF j (by omega) y]
        unfold c1U
        rw [upd1_o (by omega), upd1_o (by omega), upd1_o (by omega)]
      rw [mdC_hi hm2 hfh hm3 3 (Nat.le_refl 3) i (by omega) b]
      unfold c1U
      rw [upd1_o (by omega), upd1_o (by omega), upd1_o (by omega)]

theorem ONC_y {d : Int → Int} {D : List Int} {h n : Int} (hD : sc d 0 n = D) (h0 : 0 ≤ h ∧ h < n) (q : ∀ k, h ≤ k → k < n → d k = d h) : OND D h ∧ ap D h = u8 (d h) := by
  have l : (D.length : Int) = n := by rw [← hD, sc_lenI (by omega)]; omega
  have e : ∀ k, 0 ≤ k → k < n → ap D k = u8 (d k) := fun k a b => by rw [← hD, ap_sc a b]
  refine ⟨⟨by omega, fun k a b => ?_⟩, e h h0.1 h0.2⟩
  rw [e k (by omega) (by omega), e h h0.1 h0.2, q k a (by omega)]
theorem ONC_n {d : Int → Int} {D : List Int} {h n : Int} (hD : sc d 0 n = D) (h0 : 0 ≤ h) (hn : 0 ≤ n) (hf : BYI d) (q : n ≤ h ∨ DIF d h n) : ¬ OND D h := fun w => by
  have l : (D.length : Int) = n := by rw [← hD, sc_lenI (by omega)]; omega
  have e : ∀ k, 0 ≤ k → k < n → ap D k = u8 (d k) := fun k a b => by rw [← hD, ap_sc a b]
  rcases q with q | ⟨k, a, b, c⟩
  · have := w.1
    omega
  · have x := w.2 k (by omega) (by omega)
    rw [e k (by omega) b, e h h0 (by omega)] at x
    exact c (hf _ _ x)
theorem GOS_b {M : Int → Int → Int → Prop} {n : Int} : ∀ {S : List (Int × Int × Int)} {p s t : Int}, GOS M n p s S t → s ≤ p → 0 ≤ s → p ≤ n ∧ ∀ x ∈ S, (0 ≤ x.1 ∧ x.1 ≤ n) ∧ (0 ≤ x.2.1 ∧ x.2.1 ≤ n)
  | [], _, _, _, h, _, _ => ⟨h.1, fun x hx => absurd hx (by simp)⟩
  | (a, b, d) :: S, p, s, t, h, hp, h0 => by
    obtain ⟨k1, k2, k3, k4, k5, k6⟩ := h
    have w := GOS_b k6 (Int.le_refl _) (by omega)
    refine ⟨by omega, fun x hx => ?_⟩
    rcases List.mem_cons.mp hx with e | e
    · rw [e]
      show (0 ≤ a ∧ a ≤ n) ∧ (0 ≤ b ∧ b ≤ n)
      have := w.1
      omega
    · exact w.2 x e
theorem GOR_b {M : Int → Int → Int → Prop} {d li le di lt : Int → Int} {n h k lc : Int} (hg : GOR M d n h li le di k lt lc) (h0 : 0 ≤ h) {j : Int} (a : 0 ≤ j) (b : j < k) : (0 ≤ li j ∧ li j ≤ n) ∧ (0 ≤ le j ∧ le j ≤ n) := by
  obtain ⟨t, t0, g, _⟩ := hg
  have m : (li j, le j, di j) ∈ sq li le di k := by
    unfold sq
    refine List.mem_map.mpr ⟨j.toNat, List.mem_range.mpr (by omega), ?_⟩
    rw [show ((j.toNat : Nat) : Int) = j by omega]
  exact (GOS_b g (Int.le_refl _) h0).2 _ m
theorem dfN_64 {S : Int → Int} {n : Int} : dfN S n ≤ 64 := by
  unfold dfN
  have h := su_le (f := fun s => pos1 (ctF S n s)) (h := fun _ => 1) (n := 64) (fun i _ _ => by
    show pos1 _ ≤ 1
    unfold pos1
    split <;> omega)
  have e : su (fun _ => (1 : Int)) 64 = 64 := by decide
  omega
theorem bsQ_0 {B : Int → TSt} {Q : Sqs} {r : Int × Int × Int} (h : (Q.length : Int) = 0) : bsQ B Q r = B := if_pos h
theorem bsQ_1 {B : Int → TSt} {Q : Sqs} {r : Int × Int × Int} (h : 1 ≤ (Q.length : Int)) : bsQ B Q r = bnQ B Q r := if_neg (by omega)
theorem TOK_bs {B : Int → TSt} {Q : Sqs} {r : Int × Int × Int} {t n : Int} {S : Int → Int} (h : TOK (B t)) (ht : 0 ≤ t ∧ t ≤ 2) (e : cutP n S = Sc Q r t) (hS : 1 ≤ n → 0 ≤ S 0 ∧ S 0 < 64) (hn : (Q.length : Int) = n) : TOK (bsQ B Q r t) := by
  by_cases z : (Q.length : Int) = 0
  · rw [bsQ_0 z]; exact h
  · rw [bsQ_1 (by omega)]
    unfold bnQ
    refine TOK_tn h ht ?_ dfN_64
    rw [← e, cutP_in ⟨Int.le_refl 0, by omega⟩]
    exact hS (by omega)
section BCx
variable {d : Int → Int} {D P T : List Int} {n w l way h last : Int} {st : WSt} {Q : Sqs} {R : List Int × WSt}
theorem blC_1 (hR : R = blF D w l way h last st) (hD : sc d 0 n = D) (h0 : 0 ≤ h ∧ h < n) (q : ∀ k, h ≤ k → k < n → d k = d h) : R = (nb (8 * (n - h) + 2 + last) 3 ++ [u8 (d h)], cnS st 1) := by
  have l_ : (D.length : Int) = n := by rw [← hD, sc_lenI (by omega)]; omega
  have o := ONC_y hD h0 q
  rw [hR, blF_1 o.1, l_, o.2]
theorem blC_2 (hR : R = blF D w l way h last st) (hD : sc d 0 n = D) (h0 : 0 ≤ n) (q : ¬ OND D h) (eQ : (qsF D w l way h).1 = Q) (eT : ltQ D w l way h = T) (eP : pkP st T Q = P) (c : (P.length : Int) < n - h) : R = (nb (8 * (P.length : Int) + 4 + last) 3 ++ P, pkS st T Q) := by
  have l_ : (D.length : Int) = n := by rw [← hD, sc_lenI (by omega)]; omega
  rw [hR, blF_2 q eQ eT eP (by rw [l_]; exact c)]
theorem blC_3 (hR : R = blF D w l way h last st) (hD : sc d 0 n = D) (h0 : 0 ≤ h ∧ h ≤ n) (q : ¬ OND D h) (eQ : (qsF D w l way h).1 = Q) (eT : ltQ D w l way h = T) (c : n - h ≤ ((pkP st T Q).length : Int)) : R = (nb (8 * (n - h) + last) 3 ++ sc d h n, cnS st 0) := by
  have l_ : (D.length : Int) = n := by rw [← hD, sc_lenI (by omega)]; omega
  have e : sc (ap D) h n = sc d h n := by rw [← hD]; exact sc_ap h0.1 (Int.le_refl n)
  rw [hR, blF_3 q eQ eT rfl (by rw [l_]; exact c), l_, e]
end BCx
theorem LTQ_l {g : Int → Int} {c n : Int} {A N X : List Int} (h : sc g 0 c = (A ++ (N ++ (if n ≤ 0 then [] else [0]))) ++ X) (hn : 1 ≤ n) (hc : 0 ≤ c) : (A.length : Int) + (N.length : Int) + 1 ≤ c := by
  have e := congrArg List.length h
  rw [if_neg (show ¬ n ≤ 0 by omega), sc_len, List.length_append, List.length_append, List.length_append, List.length_singleton] at e
  omega
theorem strB_sq {s0 s1 s2 nu li le di la : Int → Int} {r : Int × Int × Int} {n : Int} {B : Int → TSt} {Q : Sqs} (hQ : sq li le di n = Q) (hn : 1 ≤ n) (h : TSL s0 s1 s2 nu li le di r n la) : strB B (SF3 s0 s1 s2) (XC li le nu s0 s1 s2) n = strB B (Sc Q r) (XN_ Q r) n := by
  subst hQ
  have e := TSL_Sc h (by omega)
  exact strB_cg3 hn (fun j a b => by rw [SF3_0, ← e.1, cutP_in ⟨a, b⟩]) (fun j a b => by rw [SF3_1, ← e.2.1, cutP_in ⟨a, b⟩]) (fun j a b => by rw [SF3_2, ← e.2.2, cutP_in ⟨a, b⟩]) (fun j a b => TSL_XC h a b)
theorem lS_all {s0 s1 s2 nu li le di la : Int → Int} {r : Int × Int × Int} {n : Int} (h : TSL s0 s1 s2 nu li le di r n la) (h0 : RNG s0 n 36) (h2 : RNG s2 n 53) : (∀ j, 0 ≤ j → j < n → s0 j ≤ lS 0) ∧ (∀ j, 0 ≤ j → j < n → s1 j ≤ lS 1) ∧ (∀ j, 0 ≤ j → j < n → s2 j ≤ lS 2) := by
  have e0 : lS 0 = 35 := rfl
  have e1 : lS 1 = 14 := rfl
  have e2 : lS 2 = 52 := rfl
  refine ⟨fun j a b => ?_, fun j a b => ?_, fun j a b => ?_⟩
  · have := h0 j a b
    omega
  · have := (h.1 j a b).2.2.2.2
    omega
  · have := h2 j a b
    omega


end
section
/-! 20f -/
theorem us_8 {x q : Int} (e : q = usI x 8) : q = 0 ∧ x % 4294967296 < 256 ∨ q ≠ 0 ∧ 256 ≤ x % 4294967296 := by
  have h := nU_us (x := x) (k := 8) (by omega)
  have h1 := nU_m (usI x 8)
  have h2 := nU_m x
  have g : inr (usI x 8) := toI_inr _
  rw [show (8 : Int).toNat = 8 from rfl] at h
  rw [← e] at h h1 g
  omega
theorem us_16 {x q : Int} (e : q = usI x 16) : q = 0 ∧ x % 4294967296 < 65536 ∨ q ≠ 0 ∧ 65536 ≤ x % 4294967296 := by
  have h := nU_us (x := x) (k := 16) (by omega)
  have h1 := nU_m (usI x 16)
  have h2 := nU_m x
  have g : inr (usI x 16) := toI_inr _
  rw [show (16 : Int).toNat = 16 from rfl] at h
  rw [← e] at h h1 g
  omega
theorem fl_4 {fl q : Int} (h : 0 ≤ fl ∧ fl ≤ 15) (e : q = andI fl 4) : q = 0 ∧ b4F fl = 0 ∨ q ≠ 0 ∧ b4F fl = 1 := by
  rw [e]
  exact (fl_and h).2.2.1
theorem fl_2 {fl q : Int} (h : 0 ≤ fl ∧ fl ≤ 15) (e : q = andI fl 2) : q = 0 ∧ b2F fl = 0 ∨ q ≠ 0 ∧ b2F fl = 1 := by
  rw [e]
  exact (fl_and h).2.1
theorem fl_8 {fl q : Int} (h : 0 ≤ fl ∧ fl ≤ 15) (e : q = andI fl 8) : q = 0 ∧ b8F fl = 0 ∨ q ≠ 0 ∧ b8F fl = 1 := by
  rw [e]
  exact (fl_and h).2.2.2
theorem fl_1 {fl q : Int} (h : 0 ≤ fl ∧ fl ≤ 15) (e : q = andI fl 1) : q = fl % 2 := by
  rw [e]
  exact (fl_and h).1
theorem hd_or {f b c g x y : Int} (hf : 0 ≤ f ∧ f ≤ 2) (hb : 0 ≤ b ∧ b ≤ 1) (hc : 0 ≤ c ∧ c ≤ 1) (hg : 0 ≤ g ∧ g ≤ 3) (ex : x = 32 * b) (ey : y = 4 * c) : orI (orI (orI (slI f 6) x) y) g = 64 * f + 32 * b + 4 * c + g := by
  subst ex ey
  have key : ∀ (f : Fin 3) (b c : Fin 2) (g : Fin 4), orI (orI (orI (slI (f.val : Int) 6) (32 * (b.val : Int))) (4 * (c.val : Int))) (g.val : Int) = 64 * (f.val : Int) + 32 * (b.val : Int) + 4 * (c.val : Int) + (g.val : Int) := by decide +kernel
  have w := key ⟨f.toNat, by omega⟩ ⟨b.toNat, by omega⟩ ⟨c.toNat, by omega⟩ ⟨g.toNat, by omega⟩
  rw [show (((⟨f.toNat, by omega⟩ : Fin 3).val : Nat) : Int) = f from by show ((f.toNat : Nat) : Int) = f; omega, show (((⟨b.toNat, by omega⟩ : Fin 2).val : Nat) : Int) = b from by show ((b.toNat : Nat) : Int) = b; omega, show (((⟨c.toNat, by omega⟩ : Fin 2).val : Nat) : Int) = c from by show ((c.toNat : Nat) : Int) = c; omega, show (((⟨g.toNat, by omega⟩ : Fin 4).val : Nat) : Int) = g from by show ((g.toNat : Nat) : Int) = g; omega] at w
  exact w
theorem sl_e3 {e : Int} (h : 0 ≤ e ∧ e ≤ 11) : slI e 3 = 8 * e := by
  have key : ∀ x : Fin 12, slI (x.val : Int) 3 = 8 * (x.val : Int) := by decide +kernel
  have w := key ⟨e.toNat, by omega⟩
  rw [show (((⟨e.toNat, by omega⟩ : Fin 12).val : Nat) : Int) = e from by show ((e.toNat : Nat) : Int) = e; omega] at w
  exact w
theorem nb_w {a k : Int} (hk : k ≤ 4) : nb a k = nb (a % 4294967296) k := by
  have e : a % 4294967296 + p2 32 * (a / 4294967296) = a := by
    rw [show p2 32 = 4294967296 by decide]
    omega
  have h := nb_lo (V := a % 4294967296) (w := a / 4294967296) (n := 32) (j := k) (by omega)
  rw [e] at h
  exact h
theorem b4F_r (fl : Int) : 0 ≤ b4F fl ∧ b4F fl ≤ 1 := by
  unfold b4F
  omega
theorem hdC {fl e id n l5 l6 l7 k v : Int} {M : List Int} (h5 : l5 = b4F fl) (h6 : l6 = ffF fl n) (hk : l6 = 0 ∧ k = l5 ∨ l6 = 1 ∧ k = 2 ∨ l6 = 2 ∧ k = 4) (hv : l6 = 1 ∧ v = n - 256 ∨ l6 ≠ 1 ∧ v = n) (hM : M = (((nb 4247762216 4 ++ [64 * ffF fl n + 32 * b4F fl + 4 * (fl % 2) + gfF fl id]) ++ (if b4F fl = 1 then [] else [8 * e])) ++ nb id (gbF (gfF fl id))) ++ nb v k) : M = hdrF fl e id n := by
  rw [hM, ← hdrF_e]
  congr 1
  have c := tlF_c (fl := fl)
  have f := ffF_c (fl := fl) (n := n)
  have r4 := b4F_r fl
  by_cases z : tlF fl = 0
  · rw [if_pos z, show k = 0 by omega]
    rfl
  · rw [if_neg z, ← h6, ← nfF_e (f := l6) (r := k) (by omega)]
    congr 1
    split <;> omega
theorem rl_e {cut w m r : Int} (hw : 1 ≤ w) (hm : w < 131072 ∧ m = w ∨ 131072 ≤ w ∧ m = 131072) (hr : cut ≤ m ∧ r = cut ∨ m ≤ cut ∧ r = m) : r = stpF cut (mosF w) := by
  have e := mosF_e (w := w) (r := m) hm
  rw [← e]
  exact stpF_e (by omega)
theorem winF_1 {fl e n : Int} (h : 1 ≤ n) : 1 ≤ winF fl e n := by
  unfold winF
  split
  · exact h
  · have := p2_pos (10 + e)
    omega

noncomputable def bkI (dc I : List Int) (w l way step : Int) (st : WSt) : Nat → FSt
  | 0 => (0, [], st)
  | k + 1 => (mnI ((bkI dc I w l way step st k).1 + step) (I.length : Int), (bkI dc I w l way step st k).2.1 ++ (blF (dc ++ I.take (mnI ((bkI dc I w l way step st k).1 + step) (I.length : Int)).toNat) w l way ((dc.length : Int) + (bkI dc I w l way step st k).1) (if mnI ((bkI dc I w l way step st k).1 + step) (I.length : Int) < (I.length : Int) then 0 else 1) (bkI dc I w l way step st k).2.2).1, (blF (dc ++ I.take (mnI ((bkI dc I w l way step st k).1 + step) (I.length : Int)).toNat) w l way ((dc.length : Int) + (bkI dc I w l way step st k).1) (if mnI ((bkI dc I w l way step st k).1 + step) (I.length : Int) < (I.length : Int) then 0 else 1) (bkI dc I w l way step st k).2.2).2)
def XBs (dc I : List Int) (w l way step : Int) (st : WSt) (X : Int → FSt) : Prop := ∀ k : Int, X k = bkI dc I w l way step st k.toNat
section XBx
variable {dc I D : List Int} {w l way step k k2 fr to z : Int} {st : WSt} {X : Int → FSt} {R : List Int × WSt}
theorem XB_0 (h : XBs dc I w l way step st X) : X 0 = (0, [], st) := h 0
theorem XB_s (h : XBs dc I w l way step st X) (hk : 0 ≤ k) (e : k2 = k + 1) (hf : (X k).1 = fr) (et : to = mnI (fr + step) (I.length : Int)) (hD : D = dc ++ I.take to.toNat) (hz : to < (I.length : Int) ∧ z = 0 ∨ (I.length : Int) ≤ to ∧ z = 1) (hR : R = blF D w l way ((dc.length : Int) + fr) z (X k).2.2) : X k2 = (to, (X k).2.1 ++ R.1, R.2) := by
  have q : X k2 = bkI dc I w l way step st (k.toNat + 1) := by rw [h k2, e, show (k + 1).toNat = k.toNat + 1 by omega]
  have z2 : (if to < (I.length : Int) then 0 else 1) = z := by
    rcases hz with ⟨a, b⟩ | ⟨a, b⟩
    · rw [if_pos a, b]
    · rw [if_neg (by omega), b]
  have hk2 := h k
  rw [q]
  show (mnI ((bkI dc I w l way step st k.toNat).1 + step) (I.length : Int), _, _) = _
  rw [← hk2, hf, ← et, z2, ← hD, ← hR]
def XBW (dc I : List Int) (w l way step : Int) (st : WSt) (X : Int → FSt) (k : Int) : Prop := ((X k).1 < (I.length : Int) ∨ k = 0 → BKW dc I w l way step st (X k).1 (X k).2.1 (X k).2.2) ∧ (1 ≤ k → (I.length : Int) ≤ (X k).1 → bksF dc I w l way step st = (X k).2)
theorem XBW_0 (h : XBs dc I w l way step st X) : XBW dc I w l way step st X 0 := ⟨fun _ => by rw [XB_0 h]; exact BKW_0, fun a => absurd a (by omega)⟩
theorem XBW_s (h : XBs dc I w l way step st X) (hw : XBW dc I w l way step st X k) (hk : 0 ≤ k) (e : k2 = k + 1) (hf : (X k).1 = fr) (hg : fr < (I.length : Int) ∨ k = 0) (et : to = mnI (fr + step) (I.length : Int)) (hD : D = dc ++ I.take to.toNat) (hz : to < (I.length : Int) ∧ z = 0 ∨ (I.length : Int) ≤ to ∧ z = 1) (hR : R = blF D w l way ((dc.length : Int) + fr) z (X k).2.2) : XBW dc I w l way step st X k2 := by
  have s := XB_s h hk e hf et hD hz hR
  have b := hw.1 (by rw [hf]; exact hg)
  rw [hf] at b
  have tl : to ≤ (I.length : Int) := by
    rw [et]
    unfold mnI
    split <;> omega
  rcases hz with ⟨a, z0⟩ | ⟨a, z1⟩
  · refine ⟨fun _ => ?_, fun _ c => ?_⟩
    · rw [s, hR, z0]
      exact BKW_s b et a hD.symm
    · rw [s] at c
      have c : (I.length : Int) ≤ to := c
      omega
  · refine ⟨fun c => ?_, fun _ _ => ?_⟩
    · rw [s] at c
      have c : to < (I.length : Int) ∨ k2 = 0 := c
      omega
    · rw [s, hR, z1]
      refine BKW_e b ?_ ?_
      · rw [et] at a
        unfold mnI at a
        split at a <;> omega
      · rw [hD, show to = (I.length : Int) by omega, show ((I.length : Int)).toNat = I.length by omega, List.take_length]
theorem XBW_e (hw : XBW dc I w l way step st X k) (hk : 1 ≤ k) (hf : (I.length : Int) ≤ (X k).1) : bksF dc I w l way step st = (X k).2 := hw.2 hk hf
end XBx
theorem RAP_more {b n n1 : Int} {g g1 : Int → Int} {M N : List Int} (h : RAP b g n 1 g1 n1 M) : RAP b g n 1 g1 n1 (M ++ N) := fun L q => by
  rcases h L q with ⟨a, _⟩ | w
  · omega
  · refine .inr ?_
    rw [← List.append_assoc, List.length_append]
    first
      | omega
      | (obtain ⟨w1, w2⟩ := w; exact ⟨w1, by omega⟩)
theorem stp_0 {s at_ n e : Int} (hn : n = 0) (ha : at_ = 0) (h1 : 0 ≤ s) (he : e = 0) : e = mnI (at_ + s) n := by
  subst hn ha he
  unfold mnI
  split <;> omega
theorem mn_e {a b r : Int} (h : a ≤ b ∧ r = a ∨ b ≤ a ∧ r = b) : r = mnI a b := by
  unfold mnI
  split <;> omega
theorem stpF_nn {c m : Int} (hc : 0 ≤ c) (hm : 0 ≤ m) : 0 ≤ stpF c m := by
  unfold stpF
  split <;> omega
theorem mosF_nn {w : Int} (hw : 0 ≤ w) : 0 ≤ mosF w := by
  unfold mosF
  split <;> omega
theorem winF_nn {fl e n : Int} (h : 0 ≤ n) : 0 ≤ winF fl e n := by
  unfold winF
  split
  · exact h
  · have := p2_pos (10 + e)
    omega

theorem blk_to {s at_ n e cut fl ee : Int} (hs : 1 ≤ s) (hr : 1 ≤ n → s = stpF cut (mosF (winF fl ee n))) (hc : 1 ≤ cut) (h0 : 0 ≤ at_ ∧ at_ ≤ n) (he : n ≤ at_ + s ∧ e = n ∨ at_ + s ≤ n ∧ e = at_ + s) : e = mnI (at_ + stpF cut (mosF (winF fl ee n))) n := by
  by_cases z : 1 ≤ n
  · rw [← hr z]
    exact mn_e (by omega)
  · exact stp_0 (by omega) (by omega) (stpF_nn (by omega) (mosF_nn (winF_nn (by omega)))) (by omega)
theorem data_cut {f d c : Int → Int} {n m e : Int} {DC II : List Int} (hd : sc f 0 (m + n) = DC ++ II) (h1 : (DC.length : Int) = m) (h2 : (II.length : Int) = n) (he : 0 ≤ e ∧ e ≤ n) : sc f 0 (m + e) = DC ++ II.take e.toNat := by
  have h := congrArg (List.take (m + e).toNat) hd
  rw [sc_tk (by omega) (by omega)] at h
  rw [h, List.take_append, List.take_of_length_le (by omega), show (m + e).toNat - DC.length = e.toNat by omega]
theorem stpF_1 {c m : Int} (hc : 1 ≤ c) (hm : 0 ≤ m) : 1 ≤ stpF c m := by
  unfold stpF
  split <;> omega
section BKp
variable {dc I : List Int} {w l way step k : Int} {st : WSt} {X : Int → FSt}
theorem BKW_pre (hs : 1 ≤ step) : ∀ (m : Nat) {fr : Int} {B : List Int} {s : WSt}, ((I.length : Int) - fr).toNat ≤ m → BKW dc I w l way step st fr B s → ∃ N, (bksF dc I w l way step st).1 = B ++ N := by
  intro m
  induction m with
  | zero =>
    intro fr B s hm h
    exact ⟨_, congrArg Prod.fst (BKW_e h (by omega) rfl)⟩
  | succ m ih =>
    intro fr B s hm h
    by_cases c : (I.length : Int) ≤ fr + step
    · exact ⟨_, congrArg Prod.fst (BKW_e h c rfl)⟩
    · have e : fr + step = mnI (fr + step) (I.length : Int) := mn_e (.inl ⟨by omega, rfl⟩)
      obtain ⟨N, hN⟩ := ih (fr := fr + step) (by omega) (BKW_s h e (by omega) rfl)
      exact ⟨_, hN.trans (List.append_assoc _ _ _)⟩
theorem XBW_pre (hw : XBW dc I w l way step st X k) (hs : 1 ≤ step) (h0 : 0 ≤ k) : ∃ N, (bksF dc I w l way step st).1 = (X k).2.1 ++ N := by
  by_cases c : (X k).1 < (I.length : Int) ∨ k = 0
  · exact BKW_pre hs _ (Nat.le_refl _) (hw.1 c)
  · refine ⟨[], ?_⟩
    rw [XBW_e hw (by omega) (by omega), List.append_nil]
end BKp
theorem RAP_x {b n n1 b1 : Int} {g g1 : Int → Int} {M N P H : List Int} (h : RAP b g n b1 g1 n1 (H ++ M)) (h1 : b1 = 1) (e : P = M ++ N) : RAP b g n b1 g1 n1 (H ++ P) := by
  subst h1 e
  have w := RAP_more (N := N) h
  rw [List.append_assoc] at w
  exact w
theorem RAP_k {b n b1 n1 : Int} {g g1 : Int → Int} {L M : List Int} (h : RAP b g n b1 g1 n1 M) (hb : b = 0) (h0 : 0 ≤ n) (h1 : 0 ≤ n1) (hL : sc g 0 n = L) (hM : n + (M.length : Int) ≤ 65536) : b1 = 0 ∧ sc g1 0 n1 = L ++ M ∧ n1 = n + (M.length : Int) := by
  have e := RAP_n h hb h0 h1 hM
  have f := RAP_from h hb (a := 0) ⟨Int.le_refl 0, h0⟩ e (by omega)
  exact ⟨f.1, by rw [f.2, hL], e⟩
theorem nb4_l {v : Int} : ((nb v 4).length : Int) = 4 := by
  rw [nb_len]
  rfl

def MKC (F : Option (List Int)) (ret : Int) (L : List Int) : Prop := ret = 0 ∧ F = none ∨ ret = 1 ∧ F = some L
theorem MKC_n {id l way ret : Int} {I L : List Int} (h : mkN I (qsF I 65536 l way 0).1 (ltQ I 65536 l way 0)) (e : ret = 0) : MKC (mkF id I l way) ret L := .inl ⟨e, if_pos h⟩
theorem MKC_y {id l way ret : Int} {I L T : List Int} {Q : Sqs} (hQ : (qsF I 65536 l way 0).1 = Q) (hT : ltQ I 65536 l way 0 = T) (h : ¬ mkN I Q T) (e : ret = 1) (hL : L = mkL id I Q T) : MKC (mkF id I l way) ret L := by
  subst hQ hT
  refine .inr ⟨e, ?_⟩
  rw [hL]
  exact if_neg h
theorem mkL_e {id : Int} {I T D : List Int} {Q : Sqs} (hD : dscF (ap T) (T.length : Int) = some D) : mkL id I Q T = (((((((((nb 3962610743 4) ++ nb id 4) ++ D) ++ mkT 1 Q) ++ mkT 2 Q) ++ mkT 0 Q) ++ nb 1 4) ++ nb 4 4) ++ nb 8 4) ++ I := by
  have u : mkU Q 3 = ((mkT 1 Q) ++ mkT 2 Q) ++ mkT 0 Q := rfl
  unfold mkL
  rw [hD, u]
  simp only [Option.getD_some, List.append_assoc]
theorem mkT_of {t n l : Int} {Q : Sqs} {S : Int → Int} (e : cutP n S = Sc Q (1, 4, 8) t) (hn : (Q.length : Int) = n) (hl : (boF t (cutP n S) n).1 = l) : shB (cutP n S) n l = mkT t Q := by
  unfold mkT
  rw [hn, ← e, hl]
theorem lB14 {s : Int} (h : 0 ≤ s ∧ s < 36) (q : lBs s ≤ 16384) : lB s ≤ 14 := by
  have key : ∀ x : Fin 36, lBs (x.val : Int) ≤ 16384 → lB (x.val : Int) ≤ 14 := by decide +kernel
  have w := key ⟨s.toNat, by omega⟩
  rw [show (((⟨s.toNat, by omega⟩ : Fin 36).val : Nat) : Int) = s from by show ((s.toNat : Nat) : Int) = s; omega] at w
  exact w q
theorem mB14 {s : Int} (h : 0 ≤ s ∧ s < 53) (q : mBs s ≤ 16384) : mB s ≤ 14 := by
  have key : ∀ x : Fin 53, mBs (x.val : Int) ≤ 16384 → mB (x.val : Int) ≤ 14 := by decide +kernel
  have w := key ⟨s.toNat, by omega⟩
  rw [show (((⟨s.toNat, by omega⟩ : Fin 53).val : Nat) : Int) = s from by show ((s.toNat : Nat) : Int) = s; omega] at w
  exact w q
theorem gsB_le {f : Int → Int} {v : Int} (h : f 0 ≤ v) : ∀ n : Nat, f (gsB f v n) ≤ v
  | 0 => h
  | n + 1 => by
    unfold gsB
    split
    · assumption
    · exact gsB_le h n
def VRT (ll ml s0 s1 s2 : Int → Int) (n : Int) : Prop := ∀ i, 0 ≤ i → i < n → s1 i ≤ 14 ∧ (0 ≤ ll i ∧ lBs (s0 i) ≤ ll i ∧ ll i ≤ 16384) ∧ (0 ≤ ml i ∧ mBs (s2 i) ≤ ml i ∧ ml i ≤ 16384)
theorem GOS_m {M : Int → Int → Int → Prop} {n : Int} (hM : ∀ p n d, M p n d → 1 ≤ n → 3 ≤ n) : ∀ {S : List (Int × Int × Int)} {p s t : Int}, GOS M n p s S t → ∀ x ∈ S, 3 ≤ x.2.1
  | [], _, _, _, _, x, hx => absurd hx (by simp)
  | (a, b, d) :: S, p, s, t, h, x, hx => by
    obtain ⟨k1, k2, k3, k4, k5, k6⟩ := h
    rcases List.mem_cons.mp hx with e | e
    · rw [e]
      exact hM _ _ _ k5 k1
    · exact GOS_m hM k6 x e
theorem VRT_of {d li le di lt s0 s1 s2 nu la : Int → Int} {n h k lc w l way ls e : Int} {r : Int × Int × Int} (hl : 3 ≤ l ∧ l ≤ 8) (hg : GOR (MTL d e w l way ls) d n h li le di k lt lc) (h0 : 0 ≤ h) (hn : n ≤ 16384) (ht : TSL s0 s1 s2 nu li le di r k la) : VRT li le s0 s1 s2 k := fun j a b => by
  have w1 := GOR_b hg h0 a b
  have m3 : 3 ≤ le j := by
    obtain ⟨t, t0, g, _⟩ := hg
    have m : (li j, le j, di j) ∈ sq li le di k := by
      unfold sq
      refine List.mem_map.mpr ⟨j.toNat, List.mem_range.mpr (by omega), ?_⟩
      rw [show ((j.toNat : Nat) : Int) = j by omega]
    exact GOS_m (fun p n d x y => Int.le_trans hl.1 (MTL_l ⟨by omega, hl.2⟩ x y)) g _ m
  obtain ⟨e0, e2, _, _, e1⟩ := ht.1 j a b
  refine ⟨e1, ⟨w1.1.1, ?_, by omega⟩, ⟨by omega, ?_, by omega⟩⟩
  · rw [e0]
    exact gsB_le (show lBs 0 ≤ li j from w1.1.1) 36
  · rw [e2]
    exact gsB_le (show mBs 0 ≤ le j from m3) 53


end
section
/-! J1.cls -/
abbrev V132_Ir : vV := [(1, 1, [])]
abbrev V133_Ir : vV := [(1, 1, [])]
def oz_J1clsl_0 : List (Nat × Nat) := []
theorem oz_J1cls_3 : (oz_J1clsl_0).all (fun p => !tbz 0 (Nat.add (Nat.mul 32 p.1) p.2)) = true := by decide +kernel
def oz_J1clsl_1 : List Nat := []
theorem oz_J1cls_4 : (oz_J1clsl_1).all (fun p => !tbz 0 p) = true := by decide +kernel
abbrev V135_Row : vV := [(0, 6, [(4, 0), (4, 0), (4, 0), (4, 0), (4, 0), (4, 0), (4, 0), (4, 0), (4, 0), (4, 0), (4, 0), (4, 0), (4, 0), (4, 0), (4, 0), (0, 0), (0, 0), (4, 0), (4, 0)]), (0, 7, [(4, 0), (0, 0), (1, 0), (0, 0), (0, 0)]), (1, 0, []), (1, 1, [])]
def oz_J1clsl_4 : List Nat := [2]
theorem oz_J1cls_11 : (oz_J1clsl_4).all (fun p => !tbz 4 p) = true := by decide +kernel
def oz_J1clsl_5 : List Nat := [1, 2]
theorem oz_J1cls_12 : okc oz_J1clsl_5 1025 = true := by decide +kernel
abbrev V138_Br : vV := [(1, 0, [])]
theorem len_V138_Br_oz_J1cls : (V138_Br).length = 1 := by decide +kernel

theorem C138_Br {σE : rS} {D N : Nat → Nat} {F : hF} {A : hA} {d c s : Nat} {Q : wQ} (H : HW V138_Br σE D N F A) {a2 a3 : Int} (n0 : Int) (en0 : HID ((N 0 : Int) = n0)) (w0 : Int → Int) (ew0 : A 0 = w0) (h0 : inr (a2)) (h1 : inr (a3)) (h2 : 0 ≤ (a2) ∧ (a2) ≤ 65536 ∧ (a3) ≤ (n0) ∧ (n0) ≤ 65536) (k : ∀ (z : Int) (σ : rS) (Fₚ : hF) (Aₚ : hA), HW V138_Br σ D N Fₚ Aₚ → OUT (V138_Br).length D N σE c s D N σ c s → SF [] F Fₚ → SA [] A Aₚ → ((z) = 0 ∨ (z) = 1) → ((z) = 1 ∨ DIF ((w0)) (a2) (a3)) → ((z) = 0 ∨ (∀ k, (a2) ≤ k → k < (a3) → ((w0)) k = ((w0)) ((a2)))) → Q (some (I z)) σ c s) : Ew 138 (d + 0) 0 (rargs 0 [.ref (D 0), I a2, I a3]) [] σE c s Q := by
  have O := OUT_refl (n := (V138_Br).length) (D := D) (N := N) (σ := σE) (c := c) (s := s)
  have HE := H
  have r1 : (0 : Int) ≤ n0 ∧ n0 ≤ 1000000 := nleE (H.nle 0 (ltn len_V138_Br_oz_J1cls rfl)) (show (N 0 : Int) = n0 from en0)
  refine Ew_of (pcₚ := 1) (fun _ => x_iload_n rfl rfl) ?_
  refine Ew_of (pcₚ := 2) (fun _ => x_iconst rfl) ?_
  refine w_iadd rfl ?_
  refine Ew_of (pcₚ := 4) (fun _ => x_istore_n rfl) ?_
  have : ∀ k, (a2) ≤ k → k < (a2) + 1 → ((w0)) k = ((w0)) ((a2)) := fun k a b => by rw [show k = (a2) by omega]
  suffices hl4 : ∀ (m : Nat), ∀ (ls : rO) (σ : rS) (F_4 : hF) (A_4 : hA) (x4_3 : Int), rlook ls 0 = some (.ref (D 0)) → rlook ls 1 = some (I (a2)) → rlook ls 2 = some (I (a3)) → rlook ls 3 = some (I (x4_3)) → HW V138_Br σ D N F_4 A_4 → OUT (V138_Br).length D N σE c s D N σ c s → SF [] F F_4 → SA [] A A_4 → (inr (x4_3)) → (((a2 + 1)) ≤ (x4_3)) → ((x4_3) ≤ ((a2 + 1)) ∨ (x4_3) ≤ ((a3))) → ((a2) + 1 ≤ (x4_3)) → (∀ k, (a2) ≤ k → k < (x4_3) → ((w0)) k = ((w0)) ((a2))) → (((a3)) - (x4_3)).toNat = m → Ew 138 (d + 0) 4 ls [] σ c s Q from
    hl4 _ _ _ _ _ ((a2 + 1)) (rk_o (rfl) rfl rfl) (rk_o (rfl) rfl rfl) (rk_o (rfl) rfl rfl) (rk_s) H O (SF_refl) (SA_refl)     (show inr ((a2 + 1)) from q_4252 h2) (show ((a2 + 1)) ≤ ((a2 + 1)) from q_3500) (show ((a2 + 1)) ≤ ((a2 + 1)) ∨ ((a2 + 1)) ≤ ((a3)) from q_4251) (show (a2) + 1 ≤ ((a2 + 1)) from q_3500) (show ∀ k, (a2) ≤ k → k < ((a2 + 1)) → ((w0)) k = ((w0)) ((a2)) by assumption) rfl
  as_aux_lemma =>
  intro m
  induction m using Nat.strongRecOn with
  | _ m ih4 =>
    intro ls σ F_4 A_4 x4_3 l4_0 l4_1 l4_2 l4_3 H O hS_4 hA_4     j4_0 j4_1 j4_2 j4_3 j4_4 hm4
    have cF_4 : SF oz_J1clsl_0 F F_4 := SF_trans (SF_refl) hS_4 (any_sub (by decide +kernel))
    have mF_4 := SFm_of cF_4 oz_J1cls_3
    have cA_4 : SA oz_J1clsl_1 A A_4 := SA_trans (SA_refl) hA_4 (any_subA (by decide +kernel))
    have mA_4 := SAm_of cA_4 oz_J1cls_4
    have j4_a : ∀ k, (a2) ≤ k → k < (x4_3) → ((w0)) k = ((w0)) ((a2)) := by assumption
    obtain ⟨ql3, hql3⟩ : ∃ q : Int, q = (x4_3) := ⟨_, rfl⟩
    refine Ew_of (pcₚ := 5) (fun _ => x_iload_n rfl l4_3) ?_
    refine Ew_of (pcₚ := 6) (fun _ => x_iload_n rfl l4_2) ?_
    refine w_icmpge (t := 26) rfl rfl (show inr (x4_3) from j4_0) (show inr (a3) from h1) (fun b2 => ?_) (fun b2 => ?_)
    · have hsm : (1 : Int) = 1 ∨ DIF ((w0)) (a2) (a3) := .inl rfl
      have : (1 : Int) = 0 ∨ (∀ k, (a2) ≤ k → k < (a3) → ((w0)) k = ((w0)) ((a2))) := .inr (fun k a b => j4_a k a (by omega))
      refine Ew_of (pcₚ := 27) (fun _ => x_iconst rfl) ?_
      exact w_ireturn rfl (k (1) _ _ _ H O (cF_4) (cA_4) (show (1) = 0 ∨ (1) = 1 by first | exact q_49 | omega) (show (1) = 1 ∨ DIF ((w0)) a2 a3 by assumption) (show (1) = 0 ∨ (∀ k, a2 ≤ k → k < a3 → ((w0)) k = ((w0)) (a2)) by assumption))
    · refine Ew_of (pcₚ := 10) (fun _ => x_aload_n rfl l4_0) ?_
      refine Ew_of (pcₚ := 11) (fun _ => x_iload_n rfl l4_3) ?_
      refine v_lB H (o := 0) rfl rfl rfl rfl (n := n0) (en0) (show 0 ≤ x4_3 ∧ x4_3 < n0 from q_4253 b2 h2 j4_3) (fun v3 ev3 qv3 => ?_)
      have ev3 : (w0) (x4_3) = v3 := (congrFun ((funext (mA_4 0 rfl)).trans (ew0)) (x4_3)).symm.trans ev3
      refine Ew_of (pcₚ := 13) (fun _ => x_aload_n rfl l4_0) ?_
      refine Ew_of (pcₚ := 14) (fun _ => x_iload_n rfl l4_1) ?_
      refine v_lB H (o := 0) rfl rfl rfl rfl (n := n0) (en0) (show 0 ≤ a2 ∧ a2 < n0 from q_4254 b2 h2 j4_3 r1) (fun v4 ev4 qv4 => ?_)
      have ev4 : (w0) (a2) = v4 := (congrFun ((funext (mA_4 0 rfl)).trans (ew0)) (a2)).symm.trans ev4
      have hd1 := ev3
      have hd0 := ev4
      refine w_icmpeq (t := 20) rfl rfl (show inr (v3) from q_97 qv3) (show inr (v4) from q_97 qv4) (fun b5 => ?_) (fun b5 => ?_)
      · refine Ew_of (pcₚ := 23) (fun _ => x_iinc (len := 3) rfl (l4_3)) ?_
        refine Ew_of (pcₚ := 4) (fun _ => x_goto rfl rfl) ?_
        have : ∀ k, (a2) ≤ k → k < ((x4_3 + 1)) → ((w0)) k = ((w0)) ((a2)) := fun k a b => by by_cases e : k = ql3; (rw [e, hql3, hd1, hd0]; omega); exact j4_a k a (by omega)
        exact ih4 _ (msE hm4 q_16 (q_17 b2)) _ _ _ _ ((x4_3 + 1)) (rk_o (l4_0) rfl rfl) (rk_o (l4_1) rfl rfl) (rk_o (l4_2) rfl rfl) (rk_s) H O (hS_4) (hA_4)     (show inr ((x4_3 + 1)) from q_4257 b2 h2 j4_0) (show ((a2 + 1)) ≤ ((x4_3 + 1)) from q_4255 j4_3) (show ((x4_3 + 1)) ≤ ((a2 + 1)) ∨ ((x4_3 + 1)) ≤ ((a3)) from q_4256 b2) (show (a2) + 1 ≤ ((x4_3 + 1)) from q_4255 j4_3) (show ∀ k, (a2) ≤ k → k < ((x4_3 + 1)) → ((w0)) k = ((w0)) ((a2)) by assumption) rfl
      · have hdf : (0 : Int) = 1 ∨ DIF ((w0)) (a2) (a3) := .inr ⟨(x4_3), by omega, by omega, by omega⟩
        have : (0 : Int) = 0 ∨ (∀ k, (a2) ≤ k → k < (a3) → ((w0)) k = ((w0)) ((a2))) := .inl rfl
        refine Ew_of (pcₚ := 19) (fun _ => x_iconst rfl) ?_
        exact w_ireturn rfl (k (0) _ _ _ H O (cF_4) (cA_4) (show (0) = 0 ∨ (0) = 1 by first | exact q_45 | omega) (show (0) = 1 ∨ DIF ((w0)) a2 a3 by assumption) (show (0) = 0 ∨ (∀ k, a2 ≤ k → k < a3 → ((w0)) k = ((w0)) (a2)) by assumption))
abbrev V145_S7 : vV := []
theorem C145_S7 {σE : rS} {D N : Nat → Nat} {F : hF} {A : hA} {d c s : Nat} {Q : wQ} (H : HW V145_S7 σE D N F A) (HT : STC σE) {a1 : Int} (h0 : inr (a1)) (k : ∀ (z : Int) (σ : rS) (Fₚ : hF) (Aₚ : hA), HW V145_S7 σ D N Fₚ Aₚ → OUT (V145_S7).length D N σE c s D N σ c s → SF [] F Fₚ → SA [] A Aₚ → (inr (z)) → (0 ≤ (z) ∧ (z) < 36) → ((z) = gsB lBs ((a1)) 36) → Q (some (I z)) σ c s) : Ew 145 (d + 0) 0 (rargs 0 [I a1, .ref 7]) [] σE c s Q := by
  have O := OUT_refl (n := (V145_S7).length) (D := D) (N := N) (σ := σE) (c := c) (s := s)
  have HE := H
  refine Ew_of (pcₚ := 1) (fun _ => x_aload_n rfl rfl) ?_
  refine v_stL (STC_out HT HE O) (b := 7) (n := 36) rfl rfl rfl ?_
  refine Ew_of (pcₚ := 3) (fun _ => x_iconst rfl) ?_
  refine w_isub rfl ?_
  refine Ew_of (pcₚ := 5) (fun _ => x_istore_n rfl) ?_
  have : ∀ i, 35 < i → i < 36 → (a1) < lBs i := fun i a b => absurd b (by omega)
  suffices hl5 : ∀ (m : Nat), ∀ (ls : rO) (σ : rS) (F_5 : hF) (A_5 : hA) (x5_2 : Int), rlook ls 0 = some (I (a1)) → rlook ls 1 = some (.ref 7) → rlook ls 2 = some (I (x5_2)) → HW V145_S7 σ D N F_5 A_5 → OUT (V145_S7).length D N σE c s D N σ c s → SF [] F F_5 → SA [] A A_5 → (inr (x5_2)) → (0 ≤ (x5_2) ∧ (x5_2) < 36) → (∀ i, (x5_2) < i → i < 36 → (a1) < lBs i) → ((x5_2)).toNat = m → Ew 145 (d + 0) 5 ls [] σ c s Q from
    hl5 _ _ _ _ _ ((36 - 1)) (rk_o (rfl) rfl rfl) (rk_o (rfl) rfl rfl) (rk_s) H O (SF_refl) (SA_refl)     (show inr ((36 - 1)) from q_4259) (show 0 ≤ ((36 - 1)) ∧ ((36 - 1)) < 36 from q_4258) (show ∀ i, ((36 - 1)) < i → i < 36 → (a1) < lBs i by assumption) rfl
  as_aux_lemma =>
  intro m
  induction m using Nat.strongRecOn with
  | _ m ih5 =>
    intro ls σ F_5 A_5 x5_2 l5_0 l5_1 l5_2 H O hS_5 hA_5     j5_0 j5_1 j5_2 hm5
    have cF_5 : SF oz_J1clsl_0 F F_5 := SF_trans (SF_refl) hS_5 (any_sub (by decide +kernel))
    have mF_5 := SFm_of cF_5 oz_J1cls_3
    have cA_5 : SA oz_J1clsl_1 A A_5 := SA_trans (SA_refl) hA_5 (any_subA (by decide +kernel))
    have mA_5 := SAm_of cA_5 oz_J1cls_4
    have j5_g : ∀ i, (x5_2) < i → i < 36 → (a1) < lBs i := by assumption
    obtain ⟨ql2, hql2⟩ : ∃ q : Int, q = (x5_2) := ⟨_, rfl⟩
    refine Ew_of (pcₚ := 6) (fun _ => x_iload_n rfl l5_2) ?_
    refine w_ifle (t := 22) rfl rfl (show inr (x5_2) from j5_0) (fun b1 => ?_) (fun b1 => ?_)
    · have : (x5_2) = gsB lBs ((a1)) 36 := (gsB_is (n := 36) (by omega) (by omega) (by first | exact .inl (by omega) | exact .inr (by omega)) (fun i a b => j5_g i a (by omega))).symm
      refine Ew_of (pcₚ := 23) (fun _ => x_iload_n rfl l5_2) ?_
      exact w_ireturn rfl (k (x5_2) _ _ _ H O (cF_5) (cA_5) (show inr (x5_2) from j5_0) (show 0 ≤ (x5_2) ∧ (x5_2) < 36 from j5_1) (show (x5_2) = gsB lBs (a1) 36 by assumption))
    · refine Ew_of (pcₚ := 10) (fun _ => x_aload_n rfl l5_1) ?_
      refine Ew_of (pcₚ := 11) (fun _ => x_iload_n rfl l5_2) ?_
      refine v_stI (STC_out HT HE O) (b := 7) (n := 36) rfl rfl rfl rfl (show 0 ≤ x5_2 ∧ x5_2 < 36 from j5_1) (fun v2 ev2 qv2 => ?_)
      have hfna : (v2) = lBs ((x5_2)) := by have h := stl_fn 7 lBs 36 (by decide +kernel) (by omega) ev2; rw [show ((((x5_2) : Int).toNat : Nat) : Int) = (x5_2) by omega] at h; exact h
      refine Ew_of (pcₚ := 13) (fun _ => x_iload_n rfl l5_0) ?_
      refine w_icmple (t := 22) rfl rfl (show inr (v2) from qv2) (show inr (a1) from h0) (fun b3 => ?_) (fun b3 => ?_)
      · have : (x5_2) = gsB lBs ((a1)) 36 := (gsB_is (n := 36) (by omega) (by omega) (by first | exact .inl (by omega) | exact .inr (by omega)) (fun i a b => j5_g i a (by omega))).symm
        refine Ew_of (pcₚ := 23) (fun _ => x_iload_n rfl l5_2) ?_
        exact w_ireturn rfl (k (x5_2) _ _ _ H O (cF_5) (cA_5) (show inr (x5_2) from j5_0) (show 0 ≤ (x5_2) ∧ (x5_2) < 36 from j5_1) (show (x5_2) = gsB lBs (a1) 36 by assumption))
      · refine Ew_of (pcₚ := 19) (fun _ => x_iinc (len := 3) rfl (l5_2)) ?_
        refine Ew_of (pcₚ := 5) (fun _ => x_goto rfl rfl) ?_
        have : ∀ i, ((x5_2 + (-1))) < i → i < 36 → (a1) < lBs i := fun i a b => by by_cases e : i = ql2; (rw [e, hql2, ← hfna]; omega); exact j5_g i (by omega) b
        exact ih5 _ (msE hm5 q_276 (q_200 b1)) _ _ _ _ ((x5_2 + (-1))) (rk_o (l5_0) rfl rfl) (rk_o (l5_1) rfl rfl) (rk_s) H O (hS_5) (hA_5)     (show inr ((x5_2 + (-1))) from q_4261 b1 j5_1) (show 0 ≤ ((x5_2 + (-1))) ∧ ((x5_2 + (-1))) < 36 from q_4260 b1 j5_1) (show ∀ i, ((x5_2 + (-1))) < i → i < 36 → (a1) < lBs i by assumption) rfl
abbrev V145_S9 : vV := []
theorem C145_S9 {σE : rS} {D N : Nat → Nat} {F : hF} {A : hA} {d c s : Nat} {Q : wQ} (H : HW V145_S9 σE D N F A) (HT : STC σE) {a1 : Int} (h0 : inr (a1)) (k : ∀ (z : Int) (σ : rS) (Fₚ : hF) (Aₚ : hA), HW V145_S9 σ D N Fₚ Aₚ → OUT (V145_S9).length D N σE c s D N σ c s → SF [] F Fₚ → SA [] A Aₚ → (inr (z)) → (0 ≤ (z) ∧ (z) < 53) → ((z) = gsB mBs ((a1)) 53) → Q (some (I z)) σ c s) : Ew 145 (d + 0) 0 (rargs 0 [I a1, .ref 9]) [] σE c s Q := by
  have O := OUT_refl (n := (V145_S9).length) (D := D) (N := N) (σ := σE) (c := c) (s := s)
  have HE := H
  refine Ew_of (pcₚ := 1) (fun _ => x_aload_n rfl rfl) ?_
  refine v_stL (STC_out HT HE O) (b := 9) (n := 53) rfl rfl rfl ?_
  refine Ew_of (pcₚ := 3) (fun _ => x_iconst rfl) ?_
  refine w_isub rfl ?_
  refine Ew_of (pcₚ := 5) (fun _ => x_istore_n rfl) ?_
  have : ∀ i, 52 < i → i < 53 → (a1) < mBs i := fun i a b => absurd b (by omega)
  suffices hl5 : ∀ (m : Nat), ∀ (ls : rO) (σ : rS) (F_5 : hF) (A_5 : hA) (x5_2 : Int), rlook ls 0 = some (I (a1)) → rlook ls 1 = some (.ref 9) → rlook ls 2 = some (I (x5_2)) → HW V145_S9 σ D N F_5 A_5 → OUT (V145_S9).length D N σE c s D N σ c s → SF [] F F_5 → SA [] A A_5 → (inr (x5_2)) → (0 ≤ (x5_2) ∧ (x5_2) < 53) → (∀ i, (x5_2) < i → i < 53 → (a1) < mBs i) → ((x5_2)).toNat = m → Ew 145 (d + 0) 5 ls [] σ c s Q from
    hl5 _ _ _ _ _ ((53 - 1)) (rk_o (rfl) rfl rfl) (rk_o (rfl) rfl rfl) (rk_s) H O (SF_refl) (SA_refl)     (show inr ((53 - 1)) from q_4263) (show 0 ≤ ((53 - 1)) ∧ ((53 - 1)) < 53 from q_4262) (show ∀ i, ((53 - 1)) < i → i < 53 → (a1) < mBs i by assumption) rfl
  as_aux_lemma =>
  intro m
  induction m using Nat.strongRecOn with
  | _ m ih5 =>
    intro ls σ F_5 A_5 x5_2 l5_0 l5_1 l5_2 H O hS_5 hA_5     j5_0 j5_1 j5_2 hm5
    have cF_5 : SF oz_J1clsl_0 F F_5 := SF_trans (SF_refl) hS_5 (any_sub (by decide +kernel))
    have mF_5 := SFm_of cF_5 oz_J1cls_3
    have cA_5 : SA oz_J1clsl_1 A A_5 := SA_trans (SA_refl) hA_5 (any_subA (by decide +kernel))
    have mA_5 := SAm_of cA_5 oz_J1cls_4
    have j5_g : ∀ i, (x5_2) < i → i < 53 → (a1) < mBs i := by assumption
    obtain ⟨ql2, hql2⟩ : ∃ q : Int, q = (x5_2) := ⟨_, rfl⟩
    refine Ew_of (pcₚ := 6) (fun _ => x_iload_n rfl l5_2) ?_
    refine w_ifle (t := 22) rfl rfl (show inr (x5_2) from j5_0) (fun b1 => ?_) (fun b1 => ?_)
    · have : (x5_2) = gsB mBs ((a1)) 53 := (gsB_is (n := 53) (by omega) (by omega) (by first | exact .inl (by omega) | exact .inr (by omega)) (fun i a b => j5_g i a (by omega))).symm
      refine Ew_of (pcₚ := 23) (fun _ => x_iload_n rfl l5_2) ?_
      exact w_ireturn rfl (k (x5_2) _ _ _ H O (cF_5) (cA_5) (show inr (x5_2) from j5_0) (show 0 ≤ (x5_2) ∧ (x5_2) < 53 from j5_1) (show (x5_2) = gsB mBs (a1) 53 by assumption))
    · refine Ew_of (pcₚ := 10) (fun _ => x_aload_n rfl l5_1) ?_
      refine Ew_of (pcₚ := 11) (fun _ => x_iload_n rfl l5_2) ?_
      refine v_stI (STC_out HT HE O) (b := 9) (n := 53) rfl rfl rfl rfl (show 0 ≤ x5_2 ∧ x5_2 < 53 from j5_1) (fun v2 ev2 qv2 => ?_)
      have hfna : (v2) = mBs ((x5_2)) := by have h := stl_fn 9 mBs 53 (by decide +kernel) (by omega) ev2; rw [show ((((x5_2) : Int).toNat : Nat) : Int) = (x5_2) by omega] at h; exact h
      refine Ew_of (pcₚ := 13) (fun _ => x_iload_n rfl l5_0) ?_
      refine w_icmple (t := 22) rfl rfl (show inr (v2) from qv2) (show inr (a1) from h0) (fun b3 => ?_) (fun b3 => ?_)
      · have : (x5_2) = gsB mBs ((a1)) 53 := (gsB_is (n := 53) (by omega) (by omega) (by first | exact .inl (by omega) | exact .inr (by omega)) (fun i a b => j5_g i a (by omega))).symm
        refine Ew_of (pcₚ := 23) (fun _ => x_iload_n rfl l5_2) ?_
        exact w_ireturn rfl (k (x5_2) _ _ _ H O (cF_5) (cA_5) (show inr (x5_2) from j5_0) (show 0 ≤ (x5_2) ∧ (x5_2) < 53 from j5_1) (show (x5_2) = gsB mBs (a1) 53 by assumption))
      · refine Ew_of (pcₚ := 19) (fun _ => x_iinc (len := 3) rfl (l5_2)) ?_
        refine Ew_of (pcₚ := 5) (fun _ => x_goto rfl rfl) ?_
        have : ∀ i, ((x5_2 + (-1))) < i → i < 53 → (a1) < mBs i := fun i a b => by by_cases e : i = ql2; (rw [e, hql2, ← hfna]; omega); exact j5_g i (by omega) b
        exact ih5 _ (msE hm5 q_276 (q_200 b1)) _ _ _ _ ((x5_2 + (-1))) (rk_o (l5_0) rfl rfl) (rk_o (l5_1) rfl rfl) (rk_s) H O (hS_5) (hA_5)     (show inr ((x5_2 + (-1))) from q_4265 b1 j5_1) (show 0 ≤ ((x5_2 + (-1))) ∧ ((x5_2 + (-1))) < 53 from q_4264 b1 j5_1) (show ∀ i, ((x5_2 + (-1))) < i → i < 53 → (a1) < mBs i by assumption) rfl
abbrev V152 : vV := [(0, 6, [(4, 0), (4, 0), (4, 0), (4, 0), (4, 0), (4, 0), (4, 0), (4, 0), (4, 0), (4, 0), (4, 0), (4, 0), (4, 0), (4, 0), (4, 0), (0, 0), (0, 0), (4, 0), (4, 0)]), (0, 7, [(4, 0), (0, 0), (1, 0), (0, 0), (0, 0)]), (1, 0, []), (1, 7, []), (1, 1, []), (0, 5, [(4, 0), (4, 0), (4, 0), (4, 0), (0, 0), (0, 0), (0, 0), (4, 0), (4, 0), (0, 0), (0, 0), (0, 0), (0, 0), (0, 0), (0, 0), (0, 0), (0, 0), (0, 0), (0, 0)]), (1, 1, []), (1, 1, []), (1, 1, []), (1, 1, []), (1, 1, [])]
theorem len_V152_oz_J1cls : (V152).length = 11 := by decide +kernel
theorem oz_J1cls_17 : vsub V152 V164 [1, 2] = true := by decide +kernel
def oz_J1clsl_6 : List (Nat × Nat) := [(1, 1), (1, 2), (1, 3), (1, 4)]
theorem oz_J1cls_18 : (oz_J1clsl_6).all (fun p => !tbz 128849018880 (Nat.add (Nat.mul 32 p.1) p.2)) = true := by decide +kernel

theorem C152 {σE : rS} {D N : Nat → Nat} {F : hF} {A : hA} {d c s : Nat} {Q : wQ} (H : HW V152 σE D N F A) (HT : STC σE) {a1 : Int} (pf1 : HID (F 0 8 = (D 1 : Int))) (pf2 : HID (F 1 0 = (D 2 : Int))) (pf3 : HID (F 0 13 = (D 3 : Int))) (pf4 : HID (F 0 14 = (D 4 : Int))) (pf5 : HID (F 0 1 = (D 5 : Int))) (pf6 : HID (F 5 1 = (D 6 : Int))) (pf7 : HID (F 5 2 = (D 7 : Int))) (pf8 : HID (A 3 0 = (D 8 : Int))) (pf9 : HID (A 3 1 = (D 9 : Int))) (pf10 : HID (A 3 2 = (D 10 : Int))) (n2 : Int) (en2 : HID ((N 2 : Int) = n2)) (n3 : Int) (en3 : HID ((N 3 : Int) = n3)) (n4 : Int) (en4 : HID ((N 4 : Int) = n4)) (n6 : Int) (en6 : HID ((N 6 : Int) = n6)) (n7 : Int) (en7 : HID ((N 7 : Int) = n7)) (n8 : Int) (en8 : HID ((N 8 : Int) = n8)) (n9 : Int) (en9 : HID ((N 9 : Int) = n9)) (n10 : Int) (en10 : HID ((N 10 : Int) = n10)) (u1_1 : Int) (eu1_1 : HID (F 1 1 = u1_1)) (u1_2 : Int) (eu1_2 : HID (F 1 2 = u1_2)) (u1_3 : Int) (eu1_3 : HID (F 1 3 = u1_3)) (u1_4 : Int) (eu1_4 : HID (F 1 4 = u1_4)) (w2 : Int → Int) (ew2 : A 2 = w2) (w4 : Int → Int) (ew4 : A 4 = w4) (w6 : Int → Int) (ew6 : A 6 = w6) (w7 : Int → Int) (ew7 : A 7 = w7) (w8 : Int → Int) (ew8 : A 8 = w8) (w9 : Int → Int) (ew9 : A 9 = w9) (w10 : Int → Int) (ew10 : A 10 = w10) (h0 : inr (a1)) (h1 : 0 ≤ (u1_1) ∧ (u1_1) ≤ (n2) ∧ (n2) ≤ 65536) (h2 : 0 ≤ (u1_4) ∧ (u1_4) ≤ 7) (h3 : (n3) = 3) (h4 : 0 ≤ (a1) ∧ (a1) < (n4) ∧ (a1) < (n6) ∧ (a1) < (n7)) (h5 : (a1) < (n8)) (h6 : (a1) < (n9)) (h7 : (a1) < (n10)) (h8 : 0 ≤ ((w8)) (a1) ∧ ((w8)) (a1) ≤ 35) (h9 : 0 ≤ ((w9)) (a1) ∧ ((w9)) (a1) ≤ 31) (h10 : 0 ≤ ((w10)) (a1) ∧ ((w10)) (a1) ≤ 52) (k : ∀ (σ : rS) (Fₚ : hF) (Aₚ : hA), HW V152 σ D N Fₚ Aₚ → OUT (V152).length D N σE c s D N σ c s → SF [(1, 1), (1, 2), (1, 3), (1, 4)] F Fₚ → SA [2] A Aₚ → ∀ y1_1 : Int, Fₚ 1 1 = y1_1 → ∀ y1_2 : Int, Fₚ 1 2 = y1_2 → ∀ y1_3 : Int, Fₚ 1 3 = y1_3 → ∀ y1_4 : Int, Fₚ 1 4 = y1_4 → ∀ v2 : Int → Int, Aₚ 2 = v2 → (0 ≤ (y1_1) ∧ (y1_1) ≤ (n2) ∧ (n2) ≤ 65536) → (0 ≤ (y1_4) ∧ (y1_4) ≤ 7) → ((u1_1) ≤ (y1_1)) → (IMP (0 ≤ (u1_3) ∧ (u1_3) < p2 ((u1_4)) ∧ (u1_1) + 7 ≤ (n2) ∧ ((w9)) ((a1)) ≤ 14 ∧ (0 ≤ ((w6)) ((a1)) ∧ lBs (((w8)) ((a1))) ≤ ((w6)) ((a1)) ∧ ((w6)) ((a1)) ≤ 16384) ∧ (0 ≤ ((w7)) ((a1)) ∧ mBs (((w10)) ((a1))) ≤ ((w7)) ((a1)) ∧ ((w7)) ((a1)) ≤ 16384)) (RBA ((u1_2)) ((w2)) ((u1_1)) ((u1_3)) ((u1_4)) ((y1_2)) ((v2)) ((y1_1)) ((y1_3)) ((y1_4)) (XC ((w6)) ((w7)) ((w4)) ((w8)) ((w9)) ((w10)) ((a1))) ∧ (0 ≤ (y1_3) ∧ (y1_3) < p2 ((y1_4))) ∧ 8 * (y1_1) + (y1_4) ≤ 8 * (u1_1) + (u1_4) + 42)) → Q none σ c s) : Ew 152 (d + 1) 0 (rargs 0 [.ref (D 0), I a1]) [] σE c s Q := by
  have O := OUT_refl (n := (V152).length) (D := D) (N := N) (σ := σE) (c := c) (s := s)
  have HE := H
  have r1 : (-2147483648 : Int) ≤ u1_1 ∧ u1_1 ≤ 2147483647 := rngE (show (-2147483648 : Int) ≤ F 1 1 ∧ F 1 1 ≤ 2147483647 from H.krg 1 1 (ltn len_V152_oz_J1cls rfl)) (show F 1 1 = u1_1 from (eu1_1))
  have r2 : (0 : Int) ≤ u1_2 ∧ u1_2 ≤ 1 := rngE (show (0 : Int) ≤ F 1 2 ∧ F 1 2 ≤ 1 from H.krg 1 2 (ltn len_V152_oz_J1cls rfl)) (show F 1 2 = u1_2 from (eu1_2))
  have r3 : (-2147483648 : Int) ≤ u1_3 ∧ u1_3 ≤ 2147483647 := rngE (show (-2147483648 : Int) ≤ F 1 3 ∧ F 1 3 ≤ 2147483647 from H.krg 1 3 (ltn len_V152_oz_J1cls rfl)) (show F 1 3 = u1_3 from (eu1_3))
  have r4 : (-2147483648 : Int) ≤ u1_4 ∧ u1_4 ≤ 2147483647 := rngE (show (-2147483648 : Int) ≤ F 1 4 ∧ F 1 4 ≤ 2147483647 from H.krg 1 4 (ltn len_V152_oz_J1cls rfl)) (show F 1 4 = u1_4 from (eu1_4))
  have r5 : (0 : Int) ≤ n2 ∧ n2 ≤ 1000000 := nleE (H.nle 2 (ltn len_V152_oz_J1cls rfl)) (show (N 2 : Int) = n2 from en2)
  have r6 : (0 : Int) ≤ n3 ∧ n3 ≤ 1000000 := nleE (H.nle 3 (ltn len_V152_oz_J1cls rfl)) (show (N 3 : Int) = n3 from en3)
  have r7 : (0 : Int) ≤ n4 ∧ n4 ≤ 1000000 := nleE (H.nle 4 (ltn len_V152_oz_J1cls rfl)) (show (N 4 : Int) = n4 from en4)
  have r8 : (0 : Int) ≤ n6 ∧ n6 ≤ 1000000 := nleE (H.nle 6 (ltn len_V152_oz_J1cls rfl)) (show (N 6 : Int) = n6 from en6)
  have r9 : (0 : Int) ≤ n7 ∧ n7 ≤ 1000000 := nleE (H.nle 7 (ltn len_V152_oz_J1cls rfl)) (show (N 7 : Int) = n7 from en7)
  have r10 : (0 : Int) ≤ n8 ∧ n8 ≤ 1000000 := nleE (H.nle 8 (ltn len_V152_oz_J1cls rfl)) (show (N 8 : Int) = n8 from en8)
  have r11 : (0 : Int) ≤ n9 ∧ n9 ≤ 1000000 := nleE (H.nle 9 (ltn len_V152_oz_J1cls rfl)) (show (N 9 : Int) = n9 from en9)
  have r12 : (0 : Int) ≤ n10 ∧ n10 ≤ 1000000 := nleE (H.nle 10 (ltn len_V152_oz_J1cls rfl)) (show (N 10 : Int) = n10 from en10)
  refine Ew_of (pcₚ := 1) (fun _ => x_aload_n rfl rfl) ?_
  refine v_g H (o := 0) (v := .ref (D 3)) rfl rfl rfl rfl rfl (vrf (pf3)) ?_
  refine Ew_of (pcₚ := 5) (fun _ => x_iconst rfl) ?_
  refine v_lR H (o := 3) rfl rfl rfl rfl rfl (n := n3) (en3) (show 0 ≤ 0 ∧ 0 < n3 from q_3044 h3 r6) (z := ((D 8 : Nat) : Int)) (v := .ref (D 8)) (pf8) (vrf rfl) ?_
  refine Ew_of (pcₚ := 7) (fun _ => x_iload_n rfl rfl) ?_
  refine v_lI H (o := 8) rfl rfl rfl rfl (n := n8) (en8) (show 0 ≤ a1 ∧ a1 < n8 from q_4266 h4 h5) (fun v13 ev13 qv13 => ?_)
  have ev13 : (w8) (a1) = v13 := (congrFun (ew8) (a1)).symm.trans ev13
  have hy0 := ev13
  refine Ew_of (pcₚ := 9) (fun _ => x_istore_n rfl) ?_
  refine Ew_of (pcₚ := 10) (fun _ => x_aload_n rfl (rk_o (rfl) rfl rfl)) ?_
  refine v_g H (o := 0) (v := .ref (D 3)) rfl rfl rfl rfl rfl (vrf (pf3)) ?_
  refine Ew_of (pcₚ := 14) (fun _ => x_iconst rfl) ?_
  refine v_lR H (o := 3) rfl rfl rfl rfl rfl (n := n3) (en3) (show 0 ≤ 2 ∧ 2 < n3 from q_3046 h3) (z := ((D 10 : Nat) : Int)) (v := .ref (D 10)) (pf10) (vrf rfl) ?_
  refine Ew_of (pcₚ := 16) (fun _ => x_iload_n rfl (rk_o (rfl) rfl rfl)) ?_
  refine v_lI H (o := 10) rfl rfl rfl rfl (n := n10) (en10) (show 0 ≤ a1 ∧ a1 < n10 from q_4266 h4 h7) (fun v14 ev14 qv14 => ?_)
  have ev14 : (w10) (a1) = v14 := (congrFun (ew10) (a1)).symm.trans ev14
  have hy2 := ev14
  refine Ew_of (pcₚ := 18) (fun _ => x_istore_n rfl) ?_
  refine Ew_of (pcₚ := 19) (fun _ => x_aload_n rfl (rk_o (rk_o (rfl) rfl rfl) rfl rfl)) ?_
  refine v_g H (o := 0) (v := .ref (D 1)) rfl rfl rfl rfl rfl (vrf (pf1)) ?_
  refine Ew_of (pcₚ := 23) (fun _ => x_aload_n rfl (rk_o (rk_o (rfl) rfl rfl) rfl rfl)) ?_
  refine v_g H (o := 0) (v := .ref (D 5)) rfl rfl rfl rfl rfl (vrf (pf5)) ?_
  refine v_g H (o := 5) (v := .ref (D 6)) rfl rfl rfl rfl rfl (vrf (pf6)) ?_
  refine Ew_of (pcₚ := 30) (fun _ => x_iload_n rfl (rk_o (rk_o (rfl) rfl rfl) rfl rfl)) ?_
  refine v_lI H (o := 6) rfl rfl rfl rfl (n := n6) (en6) (show 0 ≤ a1 ∧ a1 < n6 from q_4267 h4) (fun v15 ev15 qv15 => ?_)
  have ev15 : (w6) (a1) = v15 := (congrFun (ew6) (a1)).symm.trans ev15
  have hll := ev15
  refine Ew_of (pcₚ := 34) (fun _ => x_getstatic rfl) ?_
  refine Ew_of (pcₚ := 35) (fun _ => x_iload_n rfl (rk_o (rk_s) rfl rfl)) ?_
  refine v_stI (STC_out HT HE O) (b := 7) (n := 36) rfl rfl rfl rfl (show 0 ≤ v13 ∧ v13 < 36 from q_4268 ev13 h8) (fun v16 ev16 qv16 => ?_)
  have hfna : (v16) = lBs ((v13)) := by have h := stl_fn 7 lBs 36 (by decide +kernel) (by omega) ev16; rw [show ((((v13) : Int).toNat : Nat) : Int) = (v13) by omega] at h; exact h
  have hstc := stl_in 7 0 65536 (by decide) (by rw [show (stl 7).length = 36 from rfl]; omega) ev16
  refine w_isubE rfl ?_
  have g17 : inr (sbI (v15) (v16)) := toI_inr _
  refine Ew_of (pcₚ := 40) (fun _ => x_getstatic rfl) ?_
  refine Ew_of (pcₚ := 41) (fun _ => x_iload_n rfl (rk_o (rk_s) rfl rfl)) ?_
  refine v_stI (STC_out HT HE O) (b := 8) (n := 36) rfl rfl rfl rfl (show 0 ≤ v13 ∧ v13 < 36 from q_4268 ev13 h8) (fun v18 ev18 qv18 => ?_)
  have hsta := stl_in 8 0 16 (by decide) (by rw [show (stl 8).length = 36 from rfl]; omega) ev18
  have hfnb : (v18) = lB ((v13)) := by have h := stl_fn 8 lB 36 (by decide +kernel) (by omega) ev18; rw [show ((((v13) : Int).toNat : Nat) : Int) = (v13) by omega] at h; exact h
  have hx1 : 0 ≤ ((w6)) ((a1)) → ((w6)) ((a1)) ≤ 65536 → btw (((sbI (v15) (v16)))) ((v18)) = btw (((w6)) ((a1)) - lBs (((w8)) ((a1)))) (lB (((w8)) ((a1)))) := fun qa qb => by rw [hll] at qa qb; rw [hfnb, hll, hy0, ← hfna, sbI_v ⟨by omega, by omega⟩]
  have hb42 : IMP (lBs (((w8)) ((a1))) ≤ 16384) ((v18) ≤ 14) := fun h => by rw [hfnb]; exact lB14 (by omega) (by rw [← hy0]; exact h)
  refine v_inv H (o := 1) rfl rfl rfl rfl rfl rfl (by rfl) (C164 (D := puc 1025 D) (N := puc 1025 N) (HW_subc H oz_J1cls_17 oz_J1cls_12) (pf2) (n2) (en2) (u1_1) ((eu1_1)) (u1_2) ((eu1_2)) (u1_3) ((eu1_3)) (u1_4) ((eu1_4)) (w2) (ew2) (show inr ((sbI (v15) (v16))) from g17) (show inr (v18) from qv18) (show 0 ≤ (u1_1) ∧ (u1_1) ≤ (n2) ∧ (n2) ≤ 65536 from h1) (show 0 ≤ (v18) ∧ (v18) ≤ 31 by omega) (show 0 ≤ (u1_4) ∧ (u1_4) ≤ 7 from h2) (fun σ19 F19ₚ A19ₚ Hₚ Oₚ hS19 hA19 y19_0_1 (ey19_0_1 : HID _) y19_0_2 (ey19_0_2 : HID _) y19_0_3 (ey19_0_3 : HID _) y19_0_4 (ey19_0_4 : HID _) w19_1 ew19_1 pz19_0 pz19_1 pz19_2 pz19_3 => ⟨rfl, ?_⟩))
  refine v_backc (c := c) (s := s) H oz_J1cls_17 oz_J1cls_12 Hₚ Oₚ (fun F19 A19 H Oₚ eF19 eA19 => ?_)
  have O := OUT_trans O Oₚ
  -- Row.addBits
  have cF19 : SF oz_J1clsl_6 F F19 := SF_trans (SF_refl) (SF_gluc (ι := oz_J1clsl_5) oz_J1cls_12 hS19 eF19 (by decide +kernel)) (any_sub (lₚ := [(1, 1), (1, 2), (1, 3), (1, 4)]) (by decide +kernel))
  have mF19 := SFm_of cF19 oz_J1cls_18
  have cA19 : SA oz_J1clsl_4 A A19 := SA_trans (SA_refl) (SA_gluc (ι := oz_J1clsl_5) oz_J1cls_12 hA19 eA19 (by decide +kernel)) (any_subA (lₚ := [2]) (by decide +kernel))
  have mA19 := SAm_of cA19 oz_J1cls_11
  have r20 : (-2147483648 : Int) ≤ y19_0_1 ∧ y19_0_1 ≤ 2147483647 := rngE (show (-2147483648 : Int) ≤ F19 1 1 ∧ F19 1 1 ≤ 2147483647 from H.krg 1 1 (ltn len_V152_oz_J1cls rfl)) (show F19 1 1 = y19_0_1 from ((eF19 1 1).trans ey19_0_1))
  have r21 : (0 : Int) ≤ y19_0_2 ∧ y19_0_2 ≤ 1 := rngE (show (0 : Int) ≤ F19 1 2 ∧ F19 1 2 ≤ 1 from H.krg 1 2 (ltn len_V152_oz_J1cls rfl)) (show F19 1 2 = y19_0_2 from ((eF19 1 2).trans ey19_0_2))
  have r22 : (-2147483648 : Int) ≤ y19_0_3 ∧ y19_0_3 ≤ 2147483647 := rngE (show (-2147483648 : Int) ≤ F19 1 3 ∧ F19 1 3 ≤ 2147483647 from H.krg 1 3 (ltn len_V152_oz_J1cls rfl)) (show F19 1 3 = y19_0_3 from ((eF19 1 3).trans ey19_0_3))
  have r23 : (-2147483648 : Int) ≤ y19_0_4 ∧ y19_0_4 ≤ 2147483647 := rngE (show (-2147483648 : Int) ≤ F19 1 4 ∧ F19 1 4 ≤ 2147483647 from H.krg 1 4 (ltn len_V152_oz_J1cls rfl)) (show F19 1 4 = y19_0_4 from ((eF19 1 4).trans ey19_0_4))
  have ht1 := pz19_3
  refine Ew_of (pcₚ := 46) (fun _ => x_aload_n rfl (rk_o (rk_o (rfl) rfl rfl) rfl rfl)) ?_
  refine v_g H (o := 0) (v := .ref (D 1)) rfl rfl rfl rfl rfl (vrf ((mF19 0 8 rfl).trans (pf1))) ?_
  refine Ew_of (pcₚ := 50) (fun _ => x_aload_n rfl (rk_o (rk_o (rfl) rfl rfl) rfl rfl)) ?_
  refine v_g H (o := 0) (v := .ref (D 5)) rfl rfl rfl rfl rfl (vrf ((mF19 0 1 rfl).trans (pf5))) ?_
  refine v_g H (o := 5) (v := .ref (D 7)) rfl rfl rfl rfl rfl (vrf ((mF19 5 2 rfl).trans (pf7))) ?_
  refine Ew_of (pcₚ := 57) (fun _ => x_iload_n rfl (rk_o (rk_o (rfl) rfl rfl) rfl rfl)) ?_
  refine v_lI H (o := 7) rfl rfl rfl rfl (n := n7) (en7) (show 0 ≤ a1 ∧ a1 < n7 from q_4269 h4) (fun v24 ev24 qv24 => ?_)
  have ev24 : (w7) (a1) = v24 := (congrFun ((funext (mA19 7 rfl)).trans (ew7)) (a1)).symm.trans ev24
  have hml := ev24
  refine Ew_of (pcₚ := 61) (fun _ => x_getstatic rfl) ?_
  refine Ew_of (pcₚ := 62) (fun _ => x_iload_n rfl rk_s) ?_
  refine v_stI (STC_out HT HE O) (b := 9) (n := 53) rfl rfl rfl rfl (show 0 ≤ v14 ∧ v14 < 53 from q_4270 ev14 h10) (fun v25 ev25 qv25 => ?_)
  have hfnc : (v25) = mBs ((v14)) := by have h := stl_fn 9 mBs 53 (by decide +kernel) (by omega) ev25; rw [show ((((v14) : Int).toNat : Nat) : Int) = (v14) by omega] at h; exact h
  have hstd := stl_in 9 0 131072 (by decide) (by rw [show (stl 9).length = 53 from rfl]; omega) ev25
  refine w_isubE rfl ?_
  have g26 : inr (sbI (v24) (v25)) := toI_inr _
  refine Ew_of (pcₚ := 67) (fun _ => x_getstatic rfl) ?_
  refine Ew_of (pcₚ := 68) (fun _ => x_iload_n rfl rk_s) ?_
  refine v_stI (STC_out HT HE O) (b := 10) (n := 53) rfl rfl rfl rfl (show 0 ≤ v14 ∧ v14 < 53 from q_4270 ev14 h10) (fun v27 ev27 qv27 => ?_)
  have hstb := stl_in 10 0 16 (by decide) (by rw [show (stl 10).length = 53 from rfl]; omega) ev27
  have hfnd : (v27) = mB ((v14)) := by have h := stl_fn 10 mB 53 (by decide +kernel) (by omega) ev27; rw [show ((((v14) : Int).toNat : Nat) : Int) = (v14) by omega] at h; exact h
  have hx2 : 0 ≤ ((w7)) ((a1)) → ((w7)) ((a1)) ≤ 65536 → btw (((sbI (v24) (v25)))) ((v27)) = btw (((w7)) ((a1)) - mBs (((w10)) ((a1)))) (mB (((w10)) ((a1)))) := fun qa qb => by rw [hml] at qa qb; rw [hfnd, hml, hy2, ← hfnc, sbI_v ⟨by omega, by omega⟩]
  have hb69 : IMP (mBs (((w10)) ((a1))) ≤ 16384) ((v27) ≤ 14) := fun h => by rw [hfnd]; exact mB14 (by omega) (by rw [← hy2]; exact h)
  refine v_inv H (o := 1) rfl rfl rfl rfl rfl rfl (by rfl) (C164 (D := puc 1025 D) (N := puc 1025 N) (HW_subc H oz_J1cls_17 oz_J1cls_12) ((mF19 1 0 rfl).trans (pf2)) (n2) (en2) (y19_0_1) (((eF19 1 1).trans ey19_0_1)) (y19_0_2) (((eF19 1 2).trans ey19_0_2)) (y19_0_3) (((eF19 1 3).trans ey19_0_3)) (y19_0_4) (((eF19 1 4).trans ey19_0_4)) (w19_1) ((eA19 2).trans ew19_1) (show inr ((sbI (v24) (v25))) from g26) (show inr (v27) from qv27) (show 0 ≤ (y19_0_1) ∧ (y19_0_1) ≤ (n2) ∧ (n2) ≤ 65536 from pz19_0) (show 0 ≤ (v27) ∧ (v27) ≤ 31 by omega) (show 0 ≤ (y19_0_4) ∧ (y19_0_4) ≤ 7 from pz19_2) (fun σ28 F28ₚ A28ₚ Hₚ Oₚ hS28 hA28 y28_0_1 (ey28_0_1 : HID _) y28_0_2 (ey28_0_2 : HID _) y28_0_3 (ey28_0_3 : HID _) y28_0_4 (ey28_0_4 : HID _) w28_1 ew28_1 pz28_0 pz28_1 pz28_2 pz28_3 => ⟨rfl, ?_⟩))
  refine v_backc (c := c) (s := s) H oz_J1cls_17 oz_J1cls_12 Hₚ Oₚ (fun F28 A28 H Oₚ eF28 eA28 => ?_)
  have O := OUT_trans O Oₚ
  -- Row.addBits
  have cF28 : SF oz_J1clsl_6 F F28 := SF_trans (cF19) (SF_gluc (ι := oz_J1clsl_5) oz_J1cls_12 hS28 eF28 (by decide +kernel)) (any_sub (lₚ := [(1, 1), (1, 2), (1, 3), (1, 4)]) (by decide +kernel))
  have mF28 := SFm_of cF28 oz_J1cls_18
  have cA28 : SA oz_J1clsl_4 A A28 := SA_trans (cA19) (SA_gluc (ι := oz_J1clsl_5) oz_J1cls_12 hA28 eA28 (by decide +kernel)) (any_subA (lₚ := [2]) (by decide +kernel))
  have mA28 := SAm_of cA28 oz_J1cls_11
  have r29 : (-2147483648 : Int) ≤ y28_0_1 ∧ y28_0_1 ≤ 2147483647 := rngE (show (-2147483648 : Int) ≤ F28 1 1 ∧ F28 1 1 ≤ 2147483647 from H.krg 1 1 (ltn len_V152_oz_J1cls rfl)) (show F28 1 1 = y28_0_1 from ((eF28 1 1).trans ey28_0_1))
  have r30 : (0 : Int) ≤ y28_0_2 ∧ y28_0_2 ≤ 1 := rngE (show (0 : Int) ≤ F28 1 2 ∧ F28 1 2 ≤ 1 from H.krg 1 2 (ltn len_V152_oz_J1cls rfl)) (show F28 1 2 = y28_0_2 from ((eF28 1 2).trans ey28_0_2))
  have r31 : (-2147483648 : Int) ≤ y28_0_3 ∧ y28_0_3 ≤ 2147483647 := rngE (show (-2147483648 : Int) ≤ F28 1 3 ∧ F28 1 3 ≤ 2147483647 from H.krg 1 3 (ltn len_V152_oz_J1cls rfl)) (show F28 1 3 = y28_0_3 from ((eF28 1 3).trans ey28_0_3))
  have r32 : (-2147483648 : Int) ≤ y28_0_4 ∧ y28_0_4 ≤ 2147483647 := rngE (show (-2147483648 : Int) ≤ F28 1 4 ∧ F28 1 4 ≤ 2147483647 from H.krg 1 4 (ltn len_V152_oz_J1cls rfl)) (show F28 1 4 = y28_0_4 from ((eF28 1 4).trans ey28_0_4))
  have ht2 := pz28_3
  refine Ew_of (pcₚ := 73) (fun _ => x_aload_n rfl (rk_o (rk_o (rfl) rfl rfl) rfl rfl)) ?_
  refine v_g H (o := 0) (v := .ref (D 1)) rfl rfl rfl rfl rfl (vrf ((mF28 0 8 rfl).trans (pf1))) ?_
  refine Ew_of (pcₚ := 77) (fun _ => x_aload_n rfl (rk_o (rk_o (rfl) rfl rfl) rfl rfl)) ?_
  refine v_g H (o := 0) (v := .ref (D 4)) rfl rfl rfl rfl rfl (vrf ((mF28 0 14 rfl).trans (pf4))) ?_
  refine Ew_of (pcₚ := 81) (fun _ => x_iload_n rfl (rk_o (rk_o (rfl) rfl rfl) rfl rfl)) ?_
  refine v_lI H (o := 4) rfl rfl rfl rfl (n := n4) (en4) (show 0 ≤ a1 ∧ a1 < n4 from q_4271 h4) (fun v33 ev33 qv33 => ?_)
  have ev33 : (w4) (a1) = v33 := (congrFun ((funext (mA28 4 rfl)).trans (ew4)) (a1)).symm.trans ev33
  have hnu := ev33
  refine Ew_of (pcₚ := 83) (fun _ => x_aload_n rfl (rk_o (rk_o (rfl) rfl rfl) rfl rfl)) ?_
  refine v_g H (o := 0) (v := .ref (D 3)) rfl rfl rfl rfl rfl (vrf ((mF28 0 13 rfl).trans (pf3))) ?_
  refine Ew_of (pcₚ := 87) (fun _ => x_iconst rfl) ?_
  refine v_lR H (o := 3) rfl rfl rfl rfl rfl (n := n3) (en3) (show 0 ≤ 1 ∧ 1 < n3 from q_3045 h3 r6) (z := ((D 9 : Nat) : Int)) (v := .ref (D 9)) ((mA28 3 rfl 1).trans (pf9)) (vrf rfl) ?_
  refine Ew_of (pcₚ := 89) (fun _ => x_iload_n rfl (rk_o (rk_o (rfl) rfl rfl) rfl rfl)) ?_
  refine v_lI H (o := 9) rfl rfl rfl rfl (n := n9) (en9) (show 0 ≤ a1 ∧ a1 < n9 from q_4266 h4 h6) (fun v34 ev34 qv34 => ?_)
  have ev34 : (w9) (a1) = v34 := (congrFun ((funext (mA28 9 rfl)).trans (ew9)) (a1)).symm.trans ev34
  have hy1 := ev34
  have hx3 : btw ((v33)) ((v34)) = btw (((w4)) ((a1))) (((w9)) ((a1))) := by rw [hnu, hy1]
  refine v_inv H (o := 1) rfl rfl rfl rfl rfl rfl (by rfl) (C164 (D := puc 1025 D) (N := puc 1025 N) (HW_subc H oz_J1cls_17 oz_J1cls_12) ((mF28 1 0 rfl).trans (pf2)) (n2) (en2) (y28_0_1) (((eF28 1 1).trans ey28_0_1)) (y28_0_2) (((eF28 1 2).trans ey28_0_2)) (y28_0_3) (((eF28 1 3).trans ey28_0_3)) (y28_0_4) (((eF28 1 4).trans ey28_0_4)) (w28_1) ((eA28 2).trans ew28_1) (show inr (v33) from qv33) (show inr (v34) from qv34) (show 0 ≤ (y28_0_1) ∧ (y28_0_1) ≤ (n2) ∧ (n2) ≤ 65536 from pz28_0) (show 0 ≤ (v34) ∧ (v34) ≤ 31 from q_4272 ev34 h9) (show 0 ≤ (y28_0_4) ∧ (y28_0_4) ≤ 7 from pz28_2) (fun σ35 F35ₚ A35ₚ Hₚ Oₚ hS35 hA35 y35_0_1 (ey35_0_1 : HID _) y35_0_2 (ey35_0_2 : HID _) y35_0_3 (ey35_0_3 : HID _) y35_0_4 (ey35_0_4 : HID _) w35_1 ew35_1 pz35_0 pz35_1 pz35_2 pz35_3 => ⟨rfl, ?_⟩))
  refine v_backc (c := c) (s := s) H oz_J1cls_17 oz_J1cls_12 Hₚ Oₚ (fun F35 A35 H Oₚ eF35 eA35 => ?_)
  have O := OUT_trans O Oₚ
  -- Row.addBits
  have cF35 : SF oz_J1clsl_6 F F35 := SF_trans (cF28) (SF_gluc (ι := oz_J1clsl_5) oz_J1cls_12 hS35 eF35 (by decide +kernel)) (any_sub (lₚ := [(1, 1), (1, 2), (1, 3), (1, 4)]) (by decide +kernel))
  have mF35 := SFm_of cF35 oz_J1cls_18
  have cA35 : SA oz_J1clsl_4 A A35 := SA_trans (cA28) (SA_gluc (ι := oz_J1clsl_5) oz_J1cls_12 hA35 eA35 (by decide +kernel)) (any_subA (lₚ := [2]) (by decide +kernel))
  have mA35 := SAm_of cA35 oz_J1cls_11
  have r36 : (-2147483648 : Int) ≤ y35_0_1 ∧ y35_0_1 ≤ 2147483647 := rngE (show (-2147483648 : Int) ≤ F35 1 1 ∧ F35 1 1 ≤ 2147483647 from H.krg 1 1 (ltn len_V152_oz_J1cls rfl)) (show F35 1 1 = y35_0_1 from ((eF35 1 1).trans ey35_0_1))
  have r37 : (0 : Int) ≤ y35_0_2 ∧ y35_0_2 ≤ 1 := rngE (show (0 : Int) ≤ F35 1 2 ∧ F35 1 2 ≤ 1 from H.krg 1 2 (ltn len_V152_oz_J1cls rfl)) (show F35 1 2 = y35_0_2 from ((eF35 1 2).trans ey35_0_2))
  have r38 : (-2147483648 : Int) ≤ y35_0_3 ∧ y35_0_3 ≤ 2147483647 := rngE (show (-2147483648 : Int) ≤ F35 1 3 ∧ F35 1 3 ≤ 2147483647 from H.krg 1 3 (ltn len_V152_oz_J1cls rfl)) (show F35 1 3 = y35_0_3 from ((eF35 1 3).trans ey35_0_3))
  have r39 : (-2147483648 : Int) ≤ y35_0_4 ∧ y35_0_4 ≤ 2147483647 := rngE (show (-2147483648 : Int) ≤ F35 1 4 ∧ F35 1 4 ≤ 2147483647 from H.krg 1 4 (ltn len_V152_oz_J1cls rfl)) (show F35 1 4 = y35_0_4 from ((eF35 1 4).trans ey35_0_4))
  have : IMP (0 ≤ (u1_3) ∧ (u1_3) < p2 ((u1_4)) ∧ (u1_1) + 7 ≤ (n2) ∧ ((w9)) ((a1)) ≤ 14 ∧ (0 ≤ ((w6)) ((a1)) ∧ lBs (((w8)) ((a1))) ≤ ((w6)) ((a1)) ∧ ((w6)) ((a1)) ≤ 16384) ∧ (0 ≤ ((w7)) ((a1)) ∧ mBs (((w10)) ((a1))) ≤ ((w7)) ((a1)) ∧ ((w7)) ((a1)) ≤ 16384)) (RBA ((u1_2)) ((w2)) ((u1_1)) ((u1_3)) ((u1_4)) ((y35_0_2)) ((w35_1)) ((y35_0_1)) ((y35_0_3)) ((y35_0_4)) (XC ((w6)) ((w7)) ((w4)) ((w8)) ((w9)) ((w10)) ((a1))) ∧ (0 ≤ (y35_0_3) ∧ (y35_0_3) < p2 ((y35_0_4))) ∧ 8 * (y35_0_1) + (y35_0_4) ≤ 8 * (u1_1) + (u1_4) + 42) := fun q => by obtain ⟨qa, qb, q2, q3, q4, q5⟩ := q; have q4b := q4.2.1; have q4c := q4.2.2; have q5b := q5.2.1; have q5c := q5.2.2; have e1_ := hb42 (by omega); have e2_ := hb69 (by omega); have qy := q3; rw [hy1] at qy; obtain ⟨r1, h1, b1⟩ := ht1 ⟨by omega, qa, qb, by omega⟩; have h1a := h1.1; have h1b := h1.2; obtain ⟨r2, h2, b2⟩ := ht2 ⟨by omega, h1a, h1b, by omega⟩; have h2a := h2.1; have h2b := h2.2; obtain ⟨r3, h3, b3⟩ := pz35_3 ⟨by omega, h2a, h2b, by omega⟩; rw [hx1 q4.1 (by omega)] at r1; rw [hx2 q5.1 (by omega)] at r2; rw [hx3] at r3; exact ⟨RBA_t r1 (RBA_t r2 r3), h3, by omega⟩
  exact w_ret rfl (k _ _ _ H O (cF35) (cA35) (y35_0_1) (((eF35 1 1).trans ey35_0_1)) (y35_0_2) (((eF35 1 2).trans ey35_0_2)) (y35_0_3) (((eF35 1 3).trans ey35_0_3)) (y35_0_4) (((eF35 1 4).trans ey35_0_4)) (w35_1) ((eA35 2).trans ew35_1) (show 0 ≤ (y35_0_1) ∧ (y35_0_1) ≤ (n2) ∧ (n2) ≤ 65536 from pz35_0) (show 0 ≤ (y35_0_4) ∧ (y35_0_4) ≤ 7 from pz35_2) (show (u1_1) ≤ (y35_0_1) from q_4273 pz19_1 pz28_1 pz35_1) (show IMP (0 ≤ (u1_3) ∧ (u1_3) < p2 ((u1_4)) ∧ (u1_1) + 7 ≤ (n2) ∧ ((w9)) (a1) ≤ 14 ∧ (0 ≤ ((w6)) (a1) ∧ lBs (((w8)) (a1)) ≤ ((w6)) (a1) ∧ ((w6)) (a1) ≤ 16384) ∧ (0 ≤ ((w7)) (a1) ∧ mBs (((w10)) (a1)) ≤ ((w7)) (a1) ∧ ((w7)) (a1) ≤ 16384)) (RBA ((u1_2)) ((w2)) ((u1_1)) ((u1_3)) ((u1_4)) ((y35_0_2)) ((w35_1)) ((y35_0_1)) ((y35_0_3)) ((y35_0_4)) (XC ((w6)) ((w7)) ((w4)) ((w8)) ((w9)) ((w10)) (a1)) ∧ (0 ≤ (y35_0_3) ∧ (y35_0_3) < p2 ((y35_0_4))) ∧ 8 * (y35_0_1) + (y35_0_4) ≤ 8 * (u1_1) + (u1_4) + 42) by assumption))
abbrev V137 : vV := [(0, 6, [(4, 0), (4, 0), (4, 0), (4, 0), (4, 0), (4, 0), (4, 0), (4, 0), (4, 0), (4, 0), (4, 0), (4, 0), (4, 0), (4, 0), (4, 0), (0, 0), (0, 0), (4, 0), (4, 0)]), (1, 1, []), (1, 1, []), (0, 5, [(4, 0), (4, 0), (4, 0), (4, 0), (0, 0), (0, 0), (0, 0), (4, 0), (4, 0), (0, 0), (0, 0), (0, 0), (0, 0), (0, 0), (0, 0), (0, 0), (0, 0), (0, 0), (0, 0)])]
theorem len_V137_oz_J1cls : (V137).length = 4 := by decide +kernel
def oz_J1clsl_7 : List Nat := [1]
theorem oz_J1cls_20 : (oz_J1clsl_7).all (fun p => !tbz 2 p) = true := by decide +kernel

theorem C137 {σE : rS} {D N : Nat → Nat} {F : hF} {A : hA} {d c s : Nat} {Q : wQ} (H : HW V137 σE D N F A)  (pf1 : HID (F 0 18 = (D 1 : Int))) (pf2 : HID (F 0 17 = (D 2 : Int))) (pf3 : HID (F 0 1 = (D 3 : Int))) (n1 : Int) (en1 : HID ((N 1 : Int) = n1)) (n2 : Int) (en2 : HID ((N 2 : Int) = n2)) (u0_16 : Int) (eu0_16 : HID (F 0 16 = u0_16)) (u3_4 : Int) (eu3_4 : HID (F 3 4 = u3_4)) (w1 : Int → Int) (ew1 : A 1 = w1) (w2 : Int → Int) (ew2 : A 2 = w2) (h0 : (n1) = 13 ∧ (n2) = 3) (h1 : 0 ≤ (u0_16) ∧ (u0_16) ≤ 3) (h2 : M03 ((w2))) (k : ∀ (σ : rS) (Fₚ : hF) (Aₚ : hA), HW V137 σ D N Fₚ Aₚ → OUT (V137).length D N σE c s D N σ c s → SF [] F Fₚ → SA [1] A Aₚ → ∀ v1 : Int → Int, Aₚ 1 = v1 → (CNP ((w1)) ((v1)) ((u0_16)) ((u3_4)) ((w2))) → Q none σ c s) : Ew 137 (d + 0) 0 (rargs 0 [.ref (D 0)]) [] σE c s Q := by
  have O := OUT_refl (n := (V137).length) (D := D) (N := N) (σ := σE) (c := c) (s := s)
  have HE := H
  have r1 : (-2147483648 : Int) ≤ u0_16 ∧ u0_16 ≤ 2147483647 := rngE (show (-2147483648 : Int) ≤ F 0 16 ∧ F 0 16 ≤ 2147483647 from H.krg 0 16 (ltn len_V137_oz_J1cls rfl)) (show F 0 16 = u0_16 from (eu0_16))
  have r2 : (-2147483648 : Int) ≤ u3_4 ∧ u3_4 ≤ 2147483647 := rngE (show (-2147483648 : Int) ≤ F 3 4 ∧ F 3 4 ≤ 2147483647 from H.krg 3 4 (ltn len_V137_oz_J1cls rfl)) (show F 3 4 = u3_4 from (eu3_4))
  have r3 : (0 : Int) ≤ n1 ∧ n1 ≤ 1000000 := nleE (H.nle 1 (ltn len_V137_oz_J1cls rfl)) (show (N 1 : Int) = n1 from en1)
  have r4 : (0 : Int) ≤ n2 ∧ n2 ≤ 1000000 := nleE (H.nle 2 (ltn len_V137_oz_J1cls rfl)) (show (N 2 : Int) = n2 from en2)
  have hmo : M03 ((w2)) := h2
  refine Ew_of (pcₚ := 1) (fun _ => x_aload_n rfl rfl) ?_
  refine v_g H (o := 0) (v := .ref (D 1)) rfl rfl rfl rfl rfl (vrf (pf1)) ?_
  refine Ew_of (pcₚ := 5) (fun _ => x_iconst rfl) ?_
  refine Ew_of (pcₚ := 6) (fun _ => x_dup2 rfl rfl rfl) ?_
  refine v_lI H (o := 1) rfl rfl rfl rfl (n := n1) (en1) (show 0 ≤ 3 ∧ 3 < n1 from q_4274 h0 r3) (fun v5 ev5 qv5 => ?_)
  have ev5 : (w1) (3) = v5 := (congrFun (ew1) (3)).symm.trans ev5
  have hv7 := ev5
  refine Ew_of (pcₚ := 8) (fun _ => x_iconst rfl) ?_
  refine w_iaddE rfl ?_
  have g6 : inr (adI (v5) (1)) := toI_inr _
  refine v_sI H (o := 1) (z := (adI (v5) (1))) rfl rfl rfl rfl (n := n1) (en1) (show 0 ≤ 3 ∧ 3 < n1 from q_4274 h0 r3) (show inr ((adI (v5) (1))) from g6) (fun σ H Oₚ => ?_)
  have O := OUT_trans O Oₚ
  have cAu7 : SA oz_J1clsl_7 A (updA A 1 (3) ((adI (v5) (1)))) := SA_upd (SA_refl) rfl
  have mAu7 := SAm_of cAu7 oz_J1cls_20
  refine Ew_of (pcₚ := 11) (fun _ => x_aload_n rfl rfl) ?_
  refine v_g H (o := 0) (v := .ref (D 1)) rfl rfl rfl rfl rfl (vrf (pf1)) ?_
  refine Ew_of (pcₚ := 15) (fun _ => x_iconst rfl) ?_
  refine Ew_of (pcₚ := 16) (fun _ => x_dup2 rfl rfl rfl) ?_
  refine v_lI H (o := 1) rfl rfl rfl rfl (n := n1) (en1) (show 0 ≤ 4 ∧ 4 < n1 from q_4275 h0 r3) (fun v8 ev8 qv8 => ?_)
  have ev8 : (upd1 (w1) (3) ((adI (v5) (1)))) (4) = v8 := (congrFun (congrArg (fun q => upd1 q (3) ((adI (v5) (1)))) (ew1)) (4)).symm.trans ev8
  have hv17 := ev8
  refine Ew_of (pcₚ := 18) (fun _ => x_aload_n rfl rfl) ?_
  refine v_g H (o := 0) (v := .ref (D 3)) rfl rfl rfl rfl rfl (vrf (pf3)) ?_
  refine v_g H (o := 3) (v := I (u3_4)) rfl rfl rfl rfl rfl (congrArg (fun z : Int => I z) ((eu3_4) : F 3 4 = u3_4)) ?_
  refine w_iaddE rfl ?_
  have g9 : inr (adI (v8) (u3_4)) := toI_inr _
  refine v_sI H (o := 1) (z := (adI (v8) (u3_4))) rfl rfl rfl rfl (n := n1) (en1) (show 0 ≤ 4 ∧ 4 < n1 from q_4275 h0 r3) (show inr ((adI (v8) (u3_4))) from g9) (fun σ H Oₚ => ?_)
  have O := OUT_trans O Oₚ
  have cAu10 : SA oz_J1clsl_7 A (updA (updA A 1 (3) ((adI (v5) (1)))) 1 (4) ((adI (v8) (u3_4)))) := SA_upd (cAu7) rfl
  have mAu10 := SAm_of cAu10 oz_J1cls_20
  refine Ew_of (pcₚ := 27) (fun _ => x_aload_n rfl rfl) ?_
  refine v_g H (o := 0) (v := .ref (D 1)) rfl rfl rfl rfl rfl (vrf (pf1)) ?_
  refine Ew_of (pcₚ := 31) (fun _ => x_iconst rfl) ?_
  refine Ew_of (pcₚ := 32) (fun _ => x_aload_n rfl rfl) ?_
  refine v_g H (o := 0) (v := I (u0_16)) rfl rfl rfl rfl rfl (congrArg (fun z : Int => I z) ((eu0_16) : F 0 16 = u0_16)) ?_
  refine w_iadd rfl ?_
  refine Ew_of (pcₚ := 37) (fun _ => x_dup2 rfl rfl rfl) ?_
  refine v_lI H (o := 1) rfl rfl rfl rfl (n := n1) (en1) (show 0 ≤ (5 + u0_16) ∧ (5 + u0_16) < n1 from q_4276 h0 h1 r3) (fun v11 ev11 qv11 => ?_)
  have ev11 : (upd1 (upd1 (w1) (3) ((adI (v5) (1)))) (4) ((adI (v8) (u3_4)))) ((5 + u0_16)) = v11 := (congrFun (congrArg (fun q => upd1 q (4) ((adI (v8) (u3_4)))) (congrArg (fun q => upd1 q (3) ((adI (v5) (1)))) (ew1))) ((5 + u0_16))).symm.trans ev11
  have hv38 := ev11
  refine Ew_of (pcₚ := 39) (fun _ => x_iconst rfl) ?_
  refine w_iaddE rfl ?_
  have g12 : inr (adI (v11) (1)) := toI_inr _
  refine v_sI H (o := 1) (z := (adI (v11) (1))) rfl rfl rfl rfl (n := n1) (en1) (show 0 ≤ (5 + u0_16) ∧ (5 + u0_16) < n1 from q_4276 h0 h1 r3) (show inr ((adI (v11) (1))) from g12) (fun σ H Oₚ => ?_)
  have O := OUT_trans O Oₚ
  have cAu13 : SA oz_J1clsl_7 A (updA (updA (updA A 1 (3) ((adI (v5) (1)))) 1 (4) ((adI (v8) (u3_4)))) 1 ((5 + u0_16)) ((adI (v11) (1)))) := SA_upd (cAu10) rfl
  have mAu13 := SAm_of cAu13 oz_J1cls_20
  refine Ew_of (pcₚ := 42) (fun _ => x_iconst rfl) ?_
  refine Ew_of (pcₚ := 43) (fun _ => x_istore_n rfl) ?_
  have : CNL ((w1)) ((upd1 (upd1 (upd1 (w1) (3) ((adI (v5) (1)))) (4) ((adI (v8) (u3_4)))) ((5 + u0_16)) ((adI (v11) (1))))) ((u0_16)) ((u3_4)) ((w2)) (0) := CNL_0 (by omega) hv7 hv17 hv38 rfl
  suffices hl43 : ∀ (m : Nat), ∀ (ls : rO) (σ : rS) (F_43 : hF) (A_43 : hA) (x43_1 : Int), rlook ls 0 = some (.ref (D 0)) → rlook ls 1 = some (I (x43_1)) → HW V137 σ D N F_43 A_43 → OUT (V137).length D N σE c s D N σ c s → SF [] F F_43 → SA [1] (updA (updA (updA A 1 (3) ((adI (v5) (1)))) 1 (4) ((adI (v8) (u3_4)))) 1 ((5 + u0_16)) ((adI (v11) (1)))) A_43 → ∀ w43_1 : Int → Int, A_43 1 = w43_1 → (inr (x43_1)) → (0 ≤ (x43_1) ∧ (x43_1) ≤ 3) → ((x43_1) = 0 ∨ 1 ≤ (u3_4)) → (CNL ((w1)) ((w43_1)) ((u0_16)) ((u3_4)) ((w2)) ((x43_1))) → (3 - (x43_1)).toNat = m → Ew 137 (d + 0) 43 ls [] σ c s Q from
    hl43 _ _ _ _ _ (0) (rk_o (rfl) rfl rfl) (rk_s) H O (SF_refl) (SA_refl)    (upd1 (upd1 (upd1 (w1) (3) ((adI (v5) (1)))) (4) ((adI (v8) (u3_4)))) ((5 + u0_16)) ((adI (v11) (1)))) (congrArg (fun q => upd1 q ((5 + u0_16)) ((adI (v11) (1)))) (congrArg (fun q => upd1 q (4) ((adI (v8) (u3_4)))) (congrArg (fun q => upd1 q (3) ((adI (v5) (1)))) (ew1)))) (show inr (0) from q_2) (show 0 ≤ (0) ∧ (0) ≤ 3 from q_548) (show (0) = 0 ∨ 1 ≤ (u3_4) from q_4277) (show CNL ((w1)) ((upd1 (upd1 (upd1 (w1) (3) ((adI (v5) (1)))) (4) ((adI (v8) (u3_4)))) ((5 + u0_16)) ((adI (v11) (1))))) ((u0_16)) ((u3_4)) ((w2)) ((0)) by assumption) rfl
  as_aux_lemma =>
  intro m
  induction m using Nat.strongRecOn with
  | _ m ih43 =>
    intro ls σ F_43 A_43 x43_1 l43_0 l43_1 H O hS_43 hA_43    w43_1 ew43_1 j43_0 j43_1 j43_2 j43_3 hm43
    have cF_43 : SF oz_J1clsl_0 F F_43 := SF_trans (SF_refl) hS_43 (any_sub (by decide +kernel))
    have mF_43 := SFm_of cF_43 oz_J1cls_3
    have cA_43 : SA oz_J1clsl_7 A A_43 := SA_trans (cAu13) hA_43 (any_subA (by decide +kernel))
    have mA_43 := SAm_of cA_43 oz_J1cls_20
    have j43_c : CNL ((w1)) ((w43_1)) ((u0_16)) ((u3_4)) ((w2)) ((x43_1)) := j43_3
    refine Ew_of (pcₚ := 44) (fun _ => x_iload_n rfl l43_1) ?_
    refine Ew_of (pcₚ := 45) (fun _ => x_iconst rfl) ?_
    refine w_icmpge (t := 82) rfl rfl (show inr (x43_1) from j43_0) (show inr (3) from q_246) (fun b14 => ?_) (fun b14 => ?_)
    · have : CNP ((w1)) ((w43_1)) ((u0_16)) ((u3_4)) ((w2)) := CNL_e j43_c (by omega)
      exact w_ret rfl (k _ _ _ H O (cF_43) (cA_43) (w43_1) (ew43_1) (show CNP ((w1)) ((w43_1)) ((u0_16)) ((u3_4)) ((w2)) by assumption))
    · refine Ew_of (pcₚ := 49) (fun _ => x_aload_n rfl l43_0) ?_
      refine v_g H (o := 0) (v := .ref (D 3)) rfl rfl rfl rfl rfl (vrf ((mF_43 0 1 rfl).trans (pf3))) ?_
      refine v_g H (o := 3) (v := I (u3_4)) rfl rfl rfl rfl rfl (congrArg (fun z : Int => I z) (((mF_43 3 4 rfl).trans (eu3_4)) : F_43 3 4 = u3_4)) ?_
      refine w_ifle (t := 82) rfl rfl (show inr (u3_4) from q_18 r2) (fun b15 => ?_) (fun b15 => ?_)
      · have : CNP ((w1)) ((w43_1)) ((u0_16)) ((u3_4)) ((w2)) := CNL_e j43_c (by omega)
        exact w_ret rfl (k _ _ _ H O (cF_43) (cA_43) (w43_1) (ew43_1) (show CNP ((w1)) ((w43_1)) ((u0_16)) ((u3_4)) ((w2)) by assumption))
      · refine Ew_of (pcₚ := 59) (fun _ => x_aload_n rfl l43_0) ?_
        refine v_g H (o := 0) (v := .ref (D 1)) rfl rfl rfl rfl rfl (vrf ((mF_43 0 18 rfl).trans (pf1))) ?_
        refine Ew_of (pcₚ := 64) (fun _ => x_bipush (z := 9) rfl (by decide)) ?_
        refine Ew_of (pcₚ := 65) (fun _ => x_aload_n rfl l43_0) ?_
        refine v_g H (o := 0) (v := .ref (D 2)) rfl rfl rfl rfl rfl (vrf ((mF_43 0 17 rfl).trans (pf2))) ?_
        refine Ew_of (pcₚ := 69) (fun _ => x_iload_n rfl l43_1) ?_
        refine v_lI H (o := 2) rfl rfl rfl rfl (n := n2) (en2) (show 0 ≤ x43_1 ∧ x43_1 < n2 from q_4278 b14 h0 j43_1) (fun v16 ev16 qv16 => ?_)
        have ev16 : (w2) (x43_1) = v16 := (congrFun ((funext (mA_43 2 rfl)).trans (ew2)) (x43_1)).symm.trans ev16
        have hmv := hmo ((x43_1)) (by omega) (by omega)
        have hm70 := ev16
        rw [hm70] at hmv
        refine w_iadd rfl ?_
        refine Ew_of (pcₚ := 72) (fun _ => x_dup2 rfl rfl rfl) ?_
        refine v_lI H (o := 1) rfl rfl rfl rfl (n := n1) (en1) (show 0 ≤ (9 + v16) ∧ (9 + v16) < n1 by omega) (fun v17 ev17 qv17 => ?_)
        have ev17 : (w43_1) ((9 + v16)) = v17 := (congrFun (ew43_1) ((9 + v16))).symm.trans ev17
        have hv73 := ev17
        refine Ew_of (pcₚ := 74) (fun _ => x_iconst rfl) ?_
        refine w_iaddE rfl ?_
        have g18 : inr (adI (v17) (1)) := toI_inr _
        refine v_sI H (o := 1) (z := (adI (v17) (1))) rfl rfl rfl rfl (n := n1) (en1) (show 0 ≤ (9 + v16) ∧ (9 + v16) < n1 by omega) (show inr ((adI (v17) (1))) from g18) (fun σ H Oₚ => ?_)
        have O := OUT_trans O Oₚ
        have cAu19 : SA oz_J1clsl_7 A (updA A_43 1 ((9 + v16)) ((adI (v17) (1)))) := SA_upd (cA_43) rfl
        have mAu19 := SAm_of cAu19 oz_J1cls_20
        refine Ew_of (pcₚ := 79) (fun _ => x_iinc (len := 3) rfl (l43_1)) ?_
        refine Ew_of (pcₚ := 43) (fun _ => x_goto rfl rfl) ?_
        have : CNL ((w1)) ((upd1 (w43_1) ((9 + v16)) ((adI (v17) (1))))) ((u0_16)) ((u3_4)) ((w2)) (((x43_1 + 1))) := CNL_s j43_c (by omega) rfl hm70 (by omega) hv73 rfl
        exact ih43 _ (msE hm43 q_813 (q_814 b14)) _ _ _ _ ((x43_1 + 1)) (rk_o (l43_0) rfl rfl) (rk_s) H O (hS_43) (SA_upd (hA_43) rfl)    (upd1 (w43_1) ((9 + v16)) ((adI (v17) (1)))) (congrArg (fun q => upd1 q ((9 + v16)) ((adI (v17) (1)))) (ew43_1)) (show inr ((x43_1 + 1)) from q_812 b14 j43_1) (show 0 ≤ ((x43_1 + 1)) ∧ ((x43_1 + 1)) ≤ 3 from q_811 b14 j43_1) (show ((x43_1 + 1)) = 0 ∨ 1 ≤ (u3_4) from q_4279 b15) (show CNL ((w1)) ((upd1 (w43_1) ((9 + v16)) ((adI (v17) (1))))) ((u0_16)) ((u3_4)) ((w2)) (((x43_1 + 1))) by assumption) rfl
abbrev V141_Codes : vV := [(0, 6, [(4, 0), (4, 0), (4, 0), (4, 0), (4, 0), (4, 0), (4, 0), (4, 0), (4, 0), (4, 0), (4, 0), (4, 0), (4, 0), (4, 0), (4, 0), (0, 0), (0, 0), (4, 0), (4, 0)]), (0, 3, [(4, 0), (4, 0), (4, 0), (0, 0), (4, 0), (4, 0), (4, 0), (4, 0), (4, 0), (4, 0), (4, 0), (4, 0), (4, 0), (0, 0), (0, 0), (0, 0), (0, 0)]), (0, 7, [(4, 0), (0, 0), (1, 0), (0, 0), (0, 0)]), (1, 0, []), (1, 1, [])]
theorem len_V141_Codes_oz_J1cls : (V141_Codes).length = 5 := by decide +kernel
theorem oz_J1cls_22 : vsub V141_Codes V112_Br [1, 3, 4] = true := by decide +kernel
def oz_J1clsl_8 : List Nat := [1, 3, 4]
theorem oz_J1cls_23 : okc oz_J1clsl_8 1050113 = true := by decide +kernel
set_option maxHeartbeats 16000000 in
theorem C141_Codes {σE : rS} {D N : Nat → Nat} {F : hF} {A : hA} {d c s : Nat} {Q : wQ} (H : HW V141_Codes σE D N F A) {a2 : Int} (pf2 : HID (F 0 9 = (D 2 : Int))) (pf3 : HID (F 2 0 = (D 3 : Int))) (pf4 : HID (F 1 0 = (D 4 : Int))) (n3 : Int) (en3 : HID ((N 3 : Int) = n3)) (n4 : Int) (en4 : HID ((N 4 : Int) = n4)) (u1_3 : Int) (eu1_3 : HID (F 1 3 = u1_3)) (u2_1 : Int) (eu2_1 : HID (F 2 1 = u2_1)) (w3 : Int → Int) (ew3 : A 3 = w3) (w4 : Int → Int) (ew4 : A 4 = w4) (h0 : inr (a2)) (h1 : 0 ≤ (u2_1) ∧ (u2_1) ≤ (n3) ∧ (n3) ≤ 65536) (h2 : 0 ≤ (a2) ∧ (a2) ≤ 65536) (h3 : 0 ≤ (u1_3) ∧ (u1_3) ≤ 11) (h4 : LNG ((w4)) ((u1_3))) (h5 : (n4) = 256) (k : ∀ (z : Int) (σ : rS) (Fₚ : hF) (Aₚ : hA), HW V141_Codes σ D N Fₚ Aₚ → OUT (V141_Codes).length D N σE c s D N σ c s → SF [] F Fₚ → SA [] A Aₚ → (inr (z)) → (0 ≤ (z) ∧ (z) ≤ 1000000) → (CZF ((w4)) (ub8 ((w3))) ((u2_1)) ((a2)) ((z))) → Q (some (I z)) σ c s) : Ew 141 (d + 1) 0 (rargs 0 [.ref (D 0), .ref (D 1), I a2]) [] σE c s Q := by
  have O := OUT_refl (n := (V141_Codes).length) (D := D) (N := N) (σ := σE) (c := c) (s := s)
  have HE := H
  have r1 : (-2147483648 : Int) ≤ u1_3 ∧ u1_3 ≤ 2147483647 := rngE (show (-2147483648 : Int) ≤ F 1 3 ∧ F 1 3 ≤ 2147483647 from H.krg 1 3 (ltn len_V141_Codes_oz_J1cls rfl)) (show F 1 3 = u1_3 from (eu1_3))
  have r2 : (-2147483648 : Int) ≤ u2_1 ∧ u2_1 ≤ 2147483647 := rngE (show (-2147483648 : Int) ≤ F 2 1 ∧ F 2 1 ≤ 2147483647 from H.krg 2 1 (ltn len_V141_Codes_oz_J1cls rfl)) (show F 2 1 = u2_1 from (eu2_1))
  have r3 : (0 : Int) ≤ n3 ∧ n3 ≤ 1000000 := nleE (H.nle 3 (ltn len_V141_Codes_oz_J1cls rfl)) (show (N 3 : Int) = n3 from en3)
  have r4 : (0 : Int) ≤ n4 ∧ n4 ≤ 1000000 := nleE (H.nle 4 (ltn len_V141_Codes_oz_J1cls rfl)) (show (N 4 : Int) = n4 from en4)
  have hln0 : LNG ((w4)) ((u1_3)) := h4
  have hgn : ∀ k, 0 ≤ ((w4)) ((ub8 ((w3))) k) := fun k => (hln0 _ (u8_rng _).1 (by have := u8_rng (((w3)) k); show u8 _ < 256; omega)).1
  refine Ew_of (pcₚ := 1) (fun _ => x_aload_n rfl rfl) ?_
  refine v_g H (o := 0) (v := .ref (D 2)) rfl rfl rfl rfl rfl (vrf (pf2)) ?_
  refine v_g H (o := 2) (v := I (u2_1)) rfl rfl rfl rfl rfl (congrArg (fun z : Int => I z) ((eu2_1) : F 2 1 = u2_1)) ?_
  refine Ew_of (pcₚ := 8) (fun _ => x_istore_n rfl) ?_
  refine Ew_of (pcₚ := 9) (fun _ => x_iload_n rfl rk_s) ?_
  refine Ew_of (pcₚ := 12) (fun _ => x_sipush (z := 1024) rfl (by decide)) ?_
  have hc20 : ∀ (tc20_0 : Int), ∀ (ls : rO) (σ : rS) (F_c20 : hF) (A_c20 : hA) , rlook ls 0 = some (.ref (D 0)) → rlook ls 1 = some (.ref (D 1)) → rlook ls 2 = some (I (a2)) → rlook ls 3 = some (I (u2_1)) → HW V141_Codes σ D N F_c20 A_c20 → OUT (V141_Codes).length D N σE c s D N σ c s → SF [] F F_c20 → SA [] A A_c20 → (inr (tc20_0)) → (((u2_1) ≥ (1024) ∧ (tc20_0) = (4)) ∨ ((u2_1) < (1024) ∧ (tc20_0) = (1))) → Ew 141 (d + 1) 20 ls [I (tc20_0)] σ c s Q := by
   as_aux_lemma =>
    intro tc20_0 ls σ F_c20 A_c20  lc20_0 lc20_1 lc20_2 lc20_3 H O hS_c20 hA_c20     jc20_0 jc20_1
    have cF_c20 : SF oz_J1clsl_0 F F_c20 := SF_trans (SF_refl) hS_c20 (any_sub (by decide +kernel))
    have mF_c20 := SFm_of cF_c20 oz_J1cls_3
    have cA_c20 : SA oz_J1clsl_1 A A_c20 := SA_trans (SA_refl) hA_c20 (any_subA (by decide +kernel))
    have mA_c20 := SAm_of cA_c20 oz_J1cls_4
    refine Ew_of (pcₚ := 22) (fun _ => x_istore rfl) ?_
    refine Ew_of (pcₚ := 23) (fun _ => x_iload_n rfl (rk_o (lc20_3) rfl rfl)) ?_
    refine Ew_of (pcₚ := 25) (fun _ => x_iload rfl rk_s) ?_
    refine w_iadd rfl ?_
    refine Ew_of (pcₚ := 27) (fun _ => x_iconst rfl) ?_
    refine w_isub rfl ?_
    refine Ew_of (pcₚ := 30) (fun _ => x_iload rfl rk_s) ?_
    refine w_idiv rfl (show inr (((u2_1 + tc20_0) - 1)) ∧ 0 ≤ ((u2_1 + tc20_0) - 1) from q_4281 h1 jc20_1) (show inr (tc20_0) ∧ 0 < tc20_0 from q_4280 jc20_0 jc20_1) ?_
    have hea : 0 ≤ (((((u2_1 + tc20_0) - 1) / tc20_0)) : Int) ∧ (((((u2_1 + tc20_0) - 1) / tc20_0)) : Int) ≤ 65536 := by rcases (show ((tc20_0) : Int) = 1 ∨ ((tc20_0) : Int) = 4 by omega) with q | q <;> rw [q] <;> omega
    have hec : ((tc20_0) : Int) = 1 ∧ (((((u2_1 + tc20_0) - 1) / tc20_0)) : Int) = (u2_1) ∨ ((tc20_0) : Int) = 4 ∧ (((((u2_1 + tc20_0) - 1) / tc20_0)) : Int) = ((u2_1) + 3) / 4 := by rcases (show ((tc20_0) : Int) = 1 ∨ ((tc20_0) : Int) = 4 by omega) with q | q; (left; rw [q]; omega); (right; rw [q]; omega)
    refine Ew_of (pcₚ := 33) (fun _ => x_istore rfl) ?_
    refine Ew_of (pcₚ := 34) (fun _ => x_iload_n rfl (rk_o (rk_o (lc20_2) rfl rfl) rfl rfl)) ?_
    refine Ew_of (pcₚ := 36) (fun _ => x_iload rfl (rk_o (rk_s) rfl rfl)) ?_
    refine Ew_of (pcₚ := 37) (fun _ => x_iconst rfl) ?_
    have hc46 : ∀ (tc46_0 : Int), ∀ (ls : rO) (σ : rS) (F_c46 : hF) (A_c46 : hA) , rlook ls 0 = some (.ref (D 0)) → rlook ls 1 = some (.ref (D 1)) → rlook ls 3 = some (I (u2_1)) → rlook ls 4 = some (I (tc20_0)) → rlook ls 5 = some (I ((((u2_1 + tc20_0) - 1) / tc20_0))) → HW V141_Codes σ D N F_c46 A_c46 → OUT (V141_Codes).length D N σE c s D N σ c s → SF [] F_c20 F_c46 → SA [] A_c20 A_c46 → (inr (tc46_0)) → (((tc20_0) ≠ (4) ∧ (tc46_0) = (0)) ∨ ((tc20_0) = (4) ∧ (tc46_0) = (6))) → Ew 141 (d + 1) 46 ls [I (tc46_0), I (a2)] σ c s Q := by
     as_aux_lemma =>
      intro tc46_0 ls σ F_c46 A_c46  lc46_0 lc46_1 lc46_3 lc46_4 lc46_5 H O hS_c46 hA_c46     jc46_0 jc46_1
      have cF_c46 : SF oz_J1clsl_0 F F_c46 := SF_trans (cF_c20) hS_c46 (any_sub (by decide +kernel))
      have mF_c46 := SFm_of cF_c46 oz_J1cls_3
      have cA_c46 : SA oz_J1clsl_1 A A_c46 := SA_trans (cA_c20) hA_c46 (any_subA (by decide +kernel))
      have mA_c46 := SAm_of cA_c46 oz_J1cls_4
      refine w_iadd rfl ?_
      obtain ⟨qb, hqb⟩ : ∃ q : Int, q = ((a2 + tc46_0)) := ⟨_, rfl⟩
      have hqb2 : (tc20_0) = 1 ∧ qb = (a2) ∨ (tc20_0) = 4 ∧ qb = (a2) + 6 := by omega
      refine Ew_of (pcₚ := 49) (fun _ => x_istore rfl) ?_
      refine Ew_of (pcₚ := 50) (fun _ => x_iconst rfl) ?_
      refine Ew_of (pcₚ := 52) (fun _ => x_istore rfl) ?_
      have : ((a2 + tc46_0)) = qb + PZ ((w4)) (ub8 ((w3))) ((u2_1)) (((((u2_1 + tc20_0) - 1) / tc20_0))) ((0) : Int).toNat := by rw [PZ_0 (by omega)]; omega
      have : ∀ k, 0 ≤ k → k < mnI ((u2_1)) ((0) * ((((u2_1 + tc20_0) - 1) / tc20_0))) → ((w4)) ((ub8 ((w3))) k) ≠ 0 := fun k a b => by rw [Int.zero_mul, mnI_r (by omega)] at b; omega
      suffices hl52 : ∀ (m : Nat), ∀ (ls : rO) (σ : rS) (F_52 : hF) (A_52 : hA) (x52_6 : Int) (x52_7 : Int), rlook ls 0 = some (.ref (D 0)) → rlook ls 1 = some (.ref (D 1)) → rlook ls 3 = some (I (u2_1)) → rlook ls 4 = some (I (tc20_0)) → rlook ls 5 = some (I ((((u2_1 + tc20_0) - 1) / tc20_0))) → rlook ls 6 = some (I (x52_6)) → rlook ls 7 = some (I (x52_7)) → HW V141_Codes σ D N F_52 A_52 → OUT (V141_Codes).length D N σE c s D N σ c s → SF [] F_c46 F_52 → SA [] A_c46 A_52 → (inr (x52_6)) → (inr (x52_7)) → ((0) ≤ (x52_7)) → ((x52_7) ≤ (0) ∨ (x52_7) ≤ ((tc20_0))) → (0 ≤ (x52_6) ∧ (x52_6) ≤ 65542 + 100000 * (x52_7)) → ((x52_6) = qb + PZ ((w4)) (ub8 ((w3))) ((u2_1)) (((((u2_1 + tc20_0) - 1) / tc20_0))) ((x52_7) : Int).toNat) → (∀ k, 0 ≤ k → k < mnI ((u2_1)) ((x52_7) * ((((u2_1 + tc20_0) - 1) / tc20_0))) → ((w4)) ((ub8 ((w3))) k) ≠ 0) → (((tc20_0)) - (x52_7)).toNat = m → Ew 141 (d + 1) 52 ls [] σ c s Q from
        hl52 _ _ _ _ _ ((a2 + tc46_0)) (0) (rk_o (rk_o (lc46_0) rfl rfl) rfl rfl) (rk_o (rk_o (lc46_1) rfl rfl) rfl rfl) (rk_o (rk_o (lc46_3) rfl rfl) rfl rfl) (rk_o (rk_o (lc46_4) rfl rfl) rfl rfl) (rk_o (rk_o (lc46_5) rfl rfl) rfl rfl) (rk_o (rk_s) rfl rfl) (rk_s) H O (SF_refl) (SA_refl)     (show inr ((a2 + tc46_0)) from q_4283 h2 hqb2 jc46_0 jc46_1) (show inr (0) from q_2) (show (0) ≤ (0) from q_1) (show (0) ≤ (0) ∨ (0) ≤ ((tc20_0)) from q_5) (show 0 ≤ ((a2 + tc46_0)) ∧ ((a2 + tc46_0)) ≤ 65542 + 100000 * (0) from q_4282 h2 hqb2 jc46_1) (show ((a2 + tc46_0)) = qb + PZ ((w4)) (ub8 ((w3))) ((u2_1)) (((((u2_1 + tc20_0) - 1) / tc20_0))) ((0) : Int).toNat by assumption) (show ∀ k, 0 ≤ k → k < mnI ((u2_1)) ((0) * ((((u2_1 + tc20_0) - 1) / tc20_0))) → ((w4)) ((ub8 ((w3))) k) ≠ 0 by assumption) rfl
      as_aux_lemma =>
      intro m
      induction m using Nat.strongRecOn with
      | _ m ih52 =>
        intro ls σ F_52 A_52 x52_6 x52_7 l52_0 l52_1 l52_3 l52_4 l52_5 l52_6 l52_7 H O hS_52 hA_52     j52_0 j52_1 j52_2 j52_3 j52_4 j52_5 j52_6 hm52
        have cF_52 : SF oz_J1clsl_0 F F_52 := SF_trans (cF_c46) hS_52 (any_sub (by decide +kernel))
        have mF_52 := SFm_of cF_52 oz_J1cls_3
        have cA_52 : SA oz_J1clsl_1 A A_52 := SA_trans (cA_c46) hA_52 (any_subA (by decide +kernel))
        have mA_52 := SAm_of cA_52 oz_J1cls_4
        have j52_s : (x52_6) = qb + PZ ((w4)) (ub8 ((w3))) ((u2_1)) (((((u2_1 + tc20_0) - 1) / tc20_0))) ((x52_7) : Int).toNat := by assumption
        have j52_c : ∀ k, 0 ≤ k → k < mnI ((u2_1)) ((x52_7) * ((((u2_1 + tc20_0) - 1) / tc20_0))) → ((w4)) ((ub8 ((w3))) k) ≠ 0 := by assumption
        refine Ew_of (pcₚ := 54) (fun _ => x_iload rfl l52_7) ?_
        refine Ew_of (pcₚ := 56) (fun _ => x_iload rfl l52_4) ?_
        refine w_icmpge (t := 108) rfl rfl (show inr (x52_7) from j52_1) (show inr (tc20_0) from jc20_0) (fun b5 => ?_) (fun b5 => ?_)
        · have hcod : ∀ k, 0 ≤ k → k < (u2_1) → ((w4)) ((ub8 ((w3))) k) ≠ 0 := fun k a b => j52_c k a (by rcases hec with ⟨q, q2⟩ | ⟨q, q2⟩; (rw [show (x52_7) = 1 by omega, Int.one_mul, q2, mnI_l (Int.le_refl _)]; omega); (rw [show (x52_7) = 4 by omega, mnI_l (by omega)]; omega))
          have htot : (x52_6) = (a2) + STZ ((w4)) (ub8 ((w3))) ((u2_1)) := by rcases hec with ⟨q, q2⟩ | ⟨q, q2⟩; (have h := j52_s; rw [show (x52_7) = 1 by omega, q2, PZ_1 (by omega)] at h; omega); (have h := j52_s; rw [show (x52_7) = 4 by omega] at h; have h4 := PZ_4 (G := ((w4))) (L := (ub8 ((w3)))) (n := (u2_1)) (c := ((((u2_1 + tc20_0) - 1) / tc20_0))) (by omega) (by omega); omega)
          refine Ew_of (pcₚ := 110) (fun _ => x_iload rfl l52_4) ?_
          refine Ew_of (pcₚ := 111) (fun _ => x_iconst rfl) ?_
          refine w_icmpne (t := 131) rfl rfl (show inr (tc20_0) from jc20_0) (show inr (1) from q_135) (fun b6 => ?_) (fun b6 => ?_)
          · refine Ew_of (pcₚ := 133) (fun _ => x_iload rfl l52_6) ?_
            refine Ew_of (pcₚ := 134) (fun _ => x_iload_n rfl l52_3) ?_
            refine Ew_of (pcₚ := 137) (fun _ => x_sipush (z := 16384) rfl (by decide)) ?_
            refine w_icmpge (t := 152) rfl rfl (show inr (u2_1) from q_38 h1) (show inr (16384) from q_80) (fun b7 => ?_) (fun b7 => ?_)
            · refine Ew_of (pcₚ := 153) (fun _ => x_iconst rfl) ?_
              refine w_iadd rfl ?_
              have : CZF ((w4)) (ub8 ((w3))) ((u2_1)) ((a2)) (((x52_6 + 5))) := .inr ⟨hcod, by by_cases q : (u2_1) < 16384 ∧ (x52_6) < 16384; (exact .inr (.inl ⟨by omega, by omega, by omega, by omega⟩)); exact .inr (.inr ⟨by omega, by omega, by omega⟩)⟩
              exact w_ireturn rfl (k ((x52_6 + 5)) _ _ _ H O (cF_52) (cA_52) (show inr ((x52_6 + 5)) by omega) (show 0 ≤ ((x52_6 + 5)) ∧ ((x52_6 + 5)) ≤ 1000000 by omega) (show CZF ((w4)) (ub8 ((w3))) ((u2_1)) (a2) (((x52_6 + 5))) by assumption))
            · refine Ew_of (pcₚ := 142) (fun _ => x_iload rfl l52_6) ?_
              refine Ew_of (pcₚ := 145) (fun _ => x_sipush (z := 16384) rfl (by decide)) ?_
              refine w_icmpge (t := 152) rfl rfl (show inr (x52_6) from j52_0) (show inr (16384) from q_80) (fun b8 => ?_) (fun b8 => ?_)
              · refine Ew_of (pcₚ := 153) (fun _ => x_iconst rfl) ?_
                refine w_iadd rfl ?_
                have : CZF ((w4)) (ub8 ((w3))) ((u2_1)) ((a2)) (((x52_6 + 5))) := .inr ⟨hcod, by by_cases q : (u2_1) < 16384 ∧ (x52_6) < 16384; (exact .inr (.inl ⟨by omega, by omega, by omega, by omega⟩)); exact .inr (.inr ⟨by omega, by omega, by omega⟩)⟩
                exact w_ireturn rfl (k ((x52_6 + 5)) _ _ _ H O (cF_52) (cA_52) (show inr ((x52_6 + 5)) by omega) (show 0 ≤ ((x52_6 + 5)) ∧ ((x52_6 + 5)) ≤ 1000000 by omega) (show CZF ((w4)) (ub8 ((w3))) ((u2_1)) (a2) (((x52_6 + 5))) by assumption))
              · refine Ew_of (pcₚ := 149) (fun _ => x_iconst rfl) ?_
                refine Ew_of (pcₚ := 153) (fun _ => x_goto rfl rfl) ?_
                refine w_iadd rfl ?_
                have : CZF ((w4)) (ub8 ((w3))) ((u2_1)) ((a2)) (((x52_6 + 4))) := .inr ⟨hcod, by by_cases q : (u2_1) < 16384 ∧ (x52_6) < 16384; (exact .inr (.inl ⟨by omega, by omega, by omega, by omega⟩)); exact .inr (.inr ⟨by omega, by omega, by omega⟩)⟩
                exact w_ireturn rfl (k ((x52_6 + 4)) _ _ _ H O (cF_52) (cA_52) (show inr ((x52_6 + 4)) from q_4285 b8 j52_4) (show 0 ≤ ((x52_6 + 4)) ∧ ((x52_6 + 4)) ≤ 1000000 by first | exact q_4284 b8 j52_4 | omega) (show CZF ((w4)) (ub8 ((w3))) ((u2_1)) (a2) (((x52_6 + 4))) by assumption))
          · refine Ew_of (pcₚ := 116) (fun _ => x_iload rfl l52_6) ?_
            refine Ew_of (pcₚ := 119) (fun _ => x_sipush (z := 1024) rfl (by decide)) ?_
            refine w_icmpge (t := 129) rfl rfl (show inr (x52_6) from j52_0) (show inr (1024) from q_2128) (fun b9 => ?_) (fun b9 => ?_)
            · refine Ew_of (pcₚ := 130) (fun _ => x_iconst rfl) ?_
              have : CZF ((w4)) (ub8 ((w3))) ((u2_1)) ((a2)) ((0)) := by by_cases q : (x52_6) < 1024; (exact .inr ⟨hcod, .inl ⟨by omega, by omega, by omega⟩⟩); exact .inl ⟨by omega, .inr ⟨by omega, by omega⟩⟩
              exact w_ireturn rfl (k (0) _ _ _ H O (cF_52) (cA_52) (show inr (0) from q_2) (show 0 ≤ (0) ∧ (0) ≤ 1000000 by first | exact q_4286 | omega) (show CZF ((w4)) (ub8 ((w3))) ((u2_1)) (a2) ((0)) by assumption))
            · refine Ew_of (pcₚ := 124) (fun _ => x_iload rfl l52_6) ?_
              refine Ew_of (pcₚ := 125) (fun _ => x_iconst rfl) ?_
              refine w_iadd rfl ?_
              refine Ew_of (pcₚ := 130) (fun _ => x_goto rfl rfl) ?_
              have : CZF ((w4)) (ub8 ((w3))) ((u2_1)) ((a2)) (((x52_6 + 3))) := by by_cases q : (x52_6) < 1024; (exact .inr ⟨hcod, .inl ⟨by omega, by omega, by omega⟩⟩); exact .inl ⟨by omega, .inr ⟨by omega, by omega⟩⟩
              exact w_ireturn rfl (k ((x52_6 + 3)) _ _ _ H O (cF_52) (cA_52) (show inr ((x52_6 + 3)) from q_4288 b9 j52_4) (show 0 ≤ ((x52_6 + 3)) ∧ ((x52_6 + 3)) ≤ 1000000 by first | exact q_4287 b9 j52_4 | omega) (show CZF ((w4)) (ub8 ((w3))) ((u2_1)) (a2) (((x52_6 + 3))) by assumption))
        · have hpa := prod_bd (x := (x52_7)) (y := ((((u2_1 + tc20_0) - 1) / tc20_0))) (a := 3) (b := 65536) (by omega) (by omega) (by omega) (by omega)
          have hpb := prod_bd (x := (x52_7) + 1) (y := ((((u2_1 + tc20_0) - 1) / tc20_0))) (a := 4) (b := 65536) (by omega) (by omega) (by omega) (by omega)
          have hpd : ((x52_7) + 1) * ((((u2_1 + tc20_0) - 1) / tc20_0)) = (x52_7) * ((((u2_1 + tc20_0) - 1) / tc20_0)) + ((((u2_1 + tc20_0) - 1) / tc20_0)) := by rw [Int.add_mul, Int.one_mul]
          have hpn : (x52_7) * ((((u2_1 + tc20_0) - 1) / tc20_0)) ≤ (u2_1) := by rcases hec with ⟨q, q2⟩ | ⟨q, q2⟩; (rw [show (x52_7) = 0 by omega, Int.zero_mul]; omega); (have h := Int.mul_le_mul_of_nonneg_right (show (x52_7) ≤ 3 from q_4290 b5 hqb2 j52_3) (show 0 ≤ ((((u2_1 + tc20_0) - 1) / tc20_0)) from q_4289 hea); omega)
          obtain ⟨ql7, hql7⟩ : ∃ q : Int, q = (x52_7) := ⟨_, rfl⟩
          refine Ew_of (pcₚ := 60) (fun _ => x_aload_n rfl l52_1) ?_
          refine Ew_of (pcₚ := 61) (fun _ => x_aload_n rfl l52_0) ?_
          refine v_g H (o := 0) (v := .ref (D 2)) rfl rfl rfl rfl rfl (vrf ((mF_52 0 9 rfl).trans (pf2))) ?_
          refine v_g H (o := 2) (v := .ref (D 3)) rfl rfl rfl rfl rfl (vrf ((mF_52 2 0 rfl).trans (pf3))) ?_
          refine Ew_of (pcₚ := 69) (fun _ => x_iload rfl l52_7) ?_
          refine Ew_of (pcₚ := 71) (fun _ => x_iload rfl l52_5) ?_
          refine w_imul rfl ?_
          refine Ew_of (pcₚ := 73) (fun _ => x_iload_n rfl l52_3) ?_
          refine Ew_of (pcₚ := 75) (fun _ => x_iload rfl l52_7) ?_
          refine Ew_of (pcₚ := 76) (fun _ => x_iconst rfl) ?_
          refine w_iadd rfl ?_
          refine Ew_of (pcₚ := 79) (fun _ => x_iload rfl l52_5) ?_
          refine w_imul rfl ?_
          refine v_min rfl rfl (show inr (u2_1) from q_38 h1) (show inr (((x52_7 + 1) * (((u2_1 + tc20_0) - 1) / tc20_0))) by omega) (fun z10 gz10 => ?_)
          have hmn : ((z10) : Int) = mnI ((u2_1)) ((ql7 + 1) * ((((u2_1 + tc20_0) - 1) / tc20_0))) := by rw [hql7]; exact mnI_e (by omega)
          refine v_inv H (o := 1) rfl rfl rfl rfl rfl rfl (by rfl) (C112_Br (D := puc 1050113 D) (N := puc 1050113 N) (HW_subc H oz_J1cls_22 oz_J1cls_23) ((mF_52 1 0 rfl).trans (pf4)) (n3) (en3) (n4) (en4) (u1_3) (((mF_52 1 3 rfl).trans (eu1_3))) (w3) ((funext (mA_52 3 rfl)).trans (ew3)) (w4) ((funext (mA_52 4 rfl)).trans (ew4)) (show inr ((x52_7 * (((u2_1 + tc20_0) - 1) / tc20_0))) by omega) (show inr (z10) by omega) (show 0 ≤ ((x52_7 * (((u2_1 + tc20_0) - 1) / tc20_0))) ∧ ((x52_7 * (((u2_1 + tc20_0) - 1) / tc20_0))) ≤ (z10) ∧ (z10) ≤ (n3) ∧ (n3) ≤ 65536 by omega) (show 0 ≤ ((u1_3)) ∧ ((u1_3)) ≤ 11 from h3) (hln0) (show (n4) = 256 from h5) (fun z11 σ11 F11ₚ A11ₚ Hₚ Oₚ hS11 hA11 pz11_0 pz11_1 pz11_2 => ⟨rfl, ?_⟩))
          refine v_backc (c := c) (s := s) H oz_J1cls_22 oz_J1cls_23 Hₚ Oₚ (fun F11 A11 H Oₚ eF11 eA11 => ?_)
          have O := OUT_trans O Oₚ
          -- Codes.packedSize
          have cF11 : SF oz_J1clsl_0 F F11 := SF_trans (cF_52) (SF_gluc (ι := oz_J1clsl_8) oz_J1cls_23 hS11 eF11 (by decide +kernel)) (any_sub (lₚ := []) (by decide +kernel))
          have mF11 := SFm_of cF11 oz_J1cls_3
          have cA11 : SA oz_J1clsl_1 A A11 := SA_trans (cA_52) (SA_gluc (ι := oz_J1clsl_8) oz_J1cls_23 hA11 eA11 (by decide +kernel)) (any_subA (lₚ := []) (by decide +kernel))
          have mA11 := SAm_of cA11 oz_J1cls_4
          have hps := pz11_1
          have hps2 := pz11_2
          refine Ew_of (pcₚ := 88) (fun _ => x_istore rfl) ?_
          refine Ew_of (pcₚ := 90) (fun _ => x_iload rfl rk_s) ?_
          refine w_ifne (t := 95) rfl rfl (show inr (z11) from pz11_0) (fun b12 => ?_) (fun b12 => ?_)
          · have hz83 := z1F_p hps2 (by omega)
            refine Ew_of (pcₚ := 97) (fun _ => x_iload rfl (rk_o (l52_6) rfl rfl)) ?_
            refine Ew_of (pcₚ := 99) (fun _ => x_iload rfl rk_s) ?_
            refine w_iadd rfl ?_
            refine Ew_of (pcₚ := 102) (fun _ => x_istore rfl) ?_
            refine Ew_of (pcₚ := 105) (fun _ => x_iinc (len := 3) rfl (rk_o (rk_o (l52_7) rfl rfl) rfl rfl)) ?_
            refine Ew_of (pcₚ := 52) (fun _ => x_goto rfl rfl) ?_
            have : ((x52_6 + z11)) = qb + PZ ((w4)) (ub8 ((w3))) ((u2_1)) (((((u2_1 + tc20_0) - 1) / tc20_0))) (((x52_7 + 1)) : Int).toNat := by rw [PZ_s (k := ql7) (m := ((x52_7 + 1))) (by omega) (by omega) (by rw [hql7]) hmn hz83, hql7, ← Int.add_assoc, ← j52_s]
            have : ∀ k, 0 ≤ k → k < mnI ((u2_1)) (((x52_7 + 1)) * ((((u2_1 + tc20_0) - 1) / tc20_0))) → ((w4)) ((ub8 ((w3))) k) ≠ 0 := fun k a b => by by_cases q : k < ql7 * ((((u2_1 + tc20_0) - 1) / tc20_0)); (exact j52_c k a (by rw [mnI_r (by omega), ← hql7]; exact q)); (rw [hql7] at q; exact z1F_n hps2 (by omega) k (by omega) (by rw [hmn, hql7]; exact b))
            exact ih52 _ (msE hm52 q_16 (q_17 b5)) _ _ _ _ ((x52_6 + z11)) ((x52_7 + 1)) (rk_o (rk_o (rk_o (l52_0) rfl rfl) rfl rfl) rfl rfl) (rk_o (rk_o (rk_o (l52_1) rfl rfl) rfl rfl) rfl rfl) (rk_o (rk_o (rk_o (l52_3) rfl rfl) rfl rfl) rfl rfl) (rk_o (rk_o (rk_o (l52_4) rfl rfl) rfl rfl) rfl rfl) (rk_o (rk_o (rk_o (l52_5) rfl rfl) rfl rfl) rfl rfl) (rk_o (rk_s) rfl rfl) (rk_s) H O (SF_trans (hS_52) (SF_gluc (ι := oz_J1clsl_8) oz_J1cls_23 hS11 eF11 (by decide +kernel)) (any_sub (lₚ := []) (by decide +kernel))) (SA_trans (hA_52) (SA_gluc (ι := oz_J1clsl_8) oz_J1cls_23 hA11 eA11 (by decide +kernel)) (any_subA (lₚ := []) (by decide +kernel)))     (show inr ((x52_6 + z11)) by omega) (show inr ((x52_7 + 1)) from q_4293 b5 hqb2 j52_3 j52_4) (show (0) ≤ ((x52_7 + 1)) from q_4292 j52_4) (show ((x52_7 + 1)) ≤ (0) ∨ ((x52_7 + 1)) ≤ ((tc20_0)) from q_13 b5) (show 0 ≤ ((x52_6 + z11)) ∧ ((x52_6 + z11)) ≤ 65542 + 100000 * ((x52_7 + 1)) from q_4291 j52_4 pz11_1) (show ((x52_6 + z11)) = qb + PZ ((w4)) (ub8 ((w3))) ((u2_1)) (((((u2_1 + tc20_0) - 1) / tc20_0))) (((x52_7 + 1)) : Int).toNat by assumption) (show ∀ k, 0 ≤ k → k < mnI ((u2_1)) (((x52_7 + 1)) * ((((u2_1 + tc20_0) - 1) / tc20_0))) → ((w4)) ((ub8 ((w3))) k) ≠ 0 by assumption) rfl
          · refine Ew_of (pcₚ := 94) (fun _ => x_iconst rfl) ?_
            have : CZF ((w4)) (ub8 ((w3))) ((u2_1)) ((a2)) (0) := .inl ⟨rfl, .inl (by have h := hps2; rw [show z11 = 0 by omega] at h; obtain ⟨k, a, b, c⟩ := PSZ_0 h hgn; exact ⟨k, by omega, by omega, c⟩)⟩
            exact w_ireturn rfl (k (0) _ _ _ H O (cF11) (cA11) (show inr (0) from q_2) (show 0 ≤ (0) ∧ (0) ≤ 1000000 by first | exact q_4286 | omega) (show CZF ((w4)) (ub8 ((w3))) ((u2_1)) (a2) ((0)) by assumption))
    refine w_icmpne (t := 45) rfl rfl (show inr (tc20_0) from jc20_0) (show inr (4) from q_216) (fun b13 => ?_) (fun b13 => ?_)
    · refine Ew_of (pcₚ := 46) (fun _ => x_iconst rfl) ?_
      exact hc46 (0) _ _ _ _  (rk_o (rk_o (lc20_0) rfl rfl) rfl rfl) (rk_o (rk_o (lc20_1) rfl rfl) rfl rfl) (rk_o (rk_o (lc20_3) rfl rfl) rfl rfl) (rk_o (rk_s) rfl rfl) (rk_s) H O (SF_refl) (SA_refl)     (show inr (0) from q_2) (show ((tc20_0) ≠ (4) ∧ (0) = (0)) ∨ ((tc20_0) = (4) ∧ (0) = (6)) from q_4294 b13)
    · refine Ew_of (pcₚ := 42) (fun _ => x_bipush (z := 6) rfl (by decide)) ?_
      refine Ew_of (pcₚ := 46) (fun _ => x_goto rfl rfl) ?_
      exact hc46 (6) _ _ _ _  (rk_o (rk_o (lc20_0) rfl rfl) rfl rfl) (rk_o (rk_o (lc20_1) rfl rfl) rfl rfl) (rk_o (rk_o (lc20_3) rfl rfl) rfl rfl) (rk_o (rk_s) rfl rfl) (rk_s) H O (SF_refl) (SA_refl)     (show inr (6) from q_756) (show ((tc20_0) ≠ (4) ∧ (6) = (0)) ∨ ((tc20_0) = (4) ∧ (6) = (6)) from q_4295 b13)
  refine w_icmpge (t := 19) rfl rfl (show inr (u2_1) from q_38 h1) (show inr (1024) from q_2128) (fun b14 => ?_) (fun b14 => ?_)
  · refine Ew_of (pcₚ := 20) (fun _ => x_iconst rfl) ?_
    exact hc20 (4) _ _ _ _  (rk_o (rfl) rfl rfl) (rk_o (rfl) rfl rfl) (rk_o (rfl) rfl rfl) (rk_s) H O (SF_refl) (SA_refl)     (show inr (4) from q_216) (show ((u2_1) ≥ (1024) ∧ (4) = (4)) ∨ ((u2_1) < (1024) ∧ (4) = (1)) from q_4296 b14)
  · refine Ew_of (pcₚ := 16) (fun _ => x_iconst rfl) ?_
    refine Ew_of (pcₚ := 20) (fun _ => x_goto rfl rfl) ?_
    exact hc20 (1) _ _ _ _  (rk_o (rfl) rfl rfl) (rk_o (rfl) rfl rfl) (rk_o (rfl) rfl rfl) (rk_s) H O (SF_refl) (SA_refl)     (show inr (1) from q_135) (show ((u2_1) ≥ (1024) ∧ (1) = (4)) ∨ ((u2_1) < (1024) ∧ (1) = (1)) from q_4297 b14)


end
section
/-! J1b.rows -/
def TI1 (x a : Int) : Prop := x = -1 ∨ x = a
theorem HIDe {p : Prop} (h : HID p) : p := h
theorem nrng {n : Nat} {t : Int} (h : n ≤ 1000000) (e : (n : Int) = t) : 0 ≤ t ∧ t ≤ 1000000 := by omega
theorem krg_e {f t lo hi : Int} (h : lo ≤ f ∧ f ≤ hi) (e : f = t) : lo ≤ t ∧ t ≤ hi := e ▸ h


end
