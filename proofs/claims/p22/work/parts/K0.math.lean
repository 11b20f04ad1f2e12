/-! the packer of states: what is counted, what a table holds -/
def RNG (r : Int → Int) (n m : Int) : Prop := ∀ j, 0 ≤ j → j < n → 0 ≤ r j ∧ r j < m
theorem RNG_0 {r : Int → Int} {m : Int} : RNG r 0 m := fun j a b => by omega
theorem RNG_s {r : Int → Int} {n n2 m v : Int} (h : RNG r n m) (e : n2 = n + 1) (hv : 0 ≤ v ∧ v < m) : RNG (upd1 r n v) n2 m := fun j a b => by
  by_cases w : j = n
  · subst w; rw [upd1_s]; exact hv
  · rw [upd1_o w]; exact h j a (by omega)
def CTN (r co : Int → Int) (n m : Int) : Prop := ∀ s, 0 ≤ s → s < m → co s = su (eqs r s) n.toNat
theorem CTN_0 {r co : Int → Int} {m : Int} (h : ∀ i, co i = 0) : CTN r co 0 m := fun s _ _ => h s
theorem CTN_s {r co : Int → Int} {n n2 m v y : Int} (h : CTN r co n m) (n0 : 0 ≤ n) (e : n2 = n + 1) (ev : r n = v) (ey : y = co v + 1) : CTN r (upd1 co v y) n2 m := fun s a b => by
  subst e
  rw [su_s n0]
  have q := eqs_eq r s n
  have w := h s a b
  by_cases p : s = v
  · subst p; rw [upd1_s]; omega
  · rw [upd1_o p]; omega
theorem CTN_le {r co : Int → Int} {n m s : Int} (h : CTN r co n m) (n0 : 0 ≤ n) (s0 : 0 ≤ s) (s1 : s < m) : 0 ≤ co s ∧ co s ≤ n := by
  rw [h s s0 s1]
  have a := su_nonneg (f := eqs r s) (n := n.toNat) (fun i _ _ => by have := eqs_eq r s i; omega)
  have b := su_ones (f := eqs r s) (n := n.toNat) (fun i => by have := eqs_eq r s i; omega)
  omega
theorem CTN_pos {r co : Int → Int} {n m i x : Int} (h : CTN r co n m) (i0 : 0 ≤ i) (i1 : i < n) (e : r i = x) (x0 : 0 ≤ x) (x1 : x < m) : 1 ≤ co x := by
  rw [h x x0 x1]
  have a := su_one (f := eqs r x) (i := i) (n := n.toNat) (fun k => by have := eqs_eq r x k; omega) i0 (by omega)
  have b := eqs_eq r x i
  omega
theorem CTP_0 {co : Int → Int} (h : ∀ i, co i = 0) : (0 : Int) = su (fun i => pos1 (co i)) 53 := (su_z pos1 rfl (fun i _ _ => h i)).symm
theorem CTP_s {co : Int → Int} {l lₚ v w y : Int} (h : l = su (fun i => pos1 (co i)) 53) (v0 : 0 ≤ v) (v1 : v < 53) (ew : co v = w) (w0 : 0 ≤ w) (hl : w = 0 ∧ lₚ = l + 1 ∨ w ≠ 0 ∧ lₚ = l) (ey : y = w + 1) : lₚ = su (fun i => pos1 (upd1 co v y i)) 53 := by
  rw [su_upd1 pos1 v0 (by omega), ew, ey]
  have := pos1_eq w
  have := pos1_eq (w + 1)
  omega
theorem CTP_le {co : Int → Int} {l : Int} (h : l = su (fun i => pos1 (co i)) 53) : 0 ≤ l ∧ l ≤ 53 := by
  have a := su_nonneg (f := fun i => pos1 (co i)) (n := 53) (fun i _ _ => by have := pos1_eq (co i); omega)
  have b := su_ones (f := fun i => pos1 (co i)) (n := 53) (fun i => by have := pos1_eq (co i); omega)
  omega
theorem su_allm {w : Int → Int} {m : Nat} : ∀ {n : Nat}, (∀ i, (0 : Int) ≤ i → i < n → 0 ≤ w i ∧ w i < m) → su (fun v => su (eqs w v) n) m = n
  | 0, _ => by
    show su (fun _ => 0) m = 0
    exact su_zero _
  | n + 1, h => by
    have ih := su_allm (m := m) (n := n) (fun i a b => h i a (by omega))
    have hn := h n (by omega) (by omega)
    have e : su (fun v => su (eqs w v) (n + 1)) m = su (fun v => su (eqs w v) n + eqs w v n) m := su_congr (fun i _ _ => rfl)
    have o : su (fun v => eqs w v n) m = 1 := by
      rw [su_only (r := w n) hn.1 hn.2 (fun i _ _ q => by have := eqs_eq w i n; omega)]
      have := eqs_eq w (w n) n
      omega
    rw [e, su_add, ih, o]
    omega
theorem CTN_CNT {r co : Int → Int} {n m L k : Int} (h : CTN r co n 53) (hm : 1 ≤ m ∧ m ≤ 53) (g : RNG r n m) (n0 : 1 ≤ n) (n1 : n ≤ 65536) (hL : 5 ≤ L ∧ L ≤ 9) (hd : k = su (fun i => pos1 (co i)) 53) (hk : k ≤ p2 L) : CNT co m n L := by
  refine ⟨fun s a b => CTN_le h (by omega) a (by omega), ?_, n0, n1, ?_, hL.1, hL.2, by omega, by omega⟩
  · rw [su_congr (h := fun v => su (eqs r v) n.toNat) (fun i a b => h i a (by omega)), su_allm (m := m.toNat) (fun i a b => by have := g i a (by omega); omega)]
    omega
  · have a := su_le_all (f := fun i => pos1 (co i)) (i := m) (n := 53) (by omega) (by omega) (fun i _ => by have := pos1_eq (co i); omega)
    have e : su (fun i => pos1 (co i)) (53 : Int).toNat = su (fun i => pos1 (co i)) 53 := rfl
    omega
theorem CTN_HLD {r co P : Int → Int} {n m : Int} (h : CTN r co n 53) (g : HLD co P m 53 1) (hr : RNG r n 53) : RWO r P m n := fun j a b => by
  have q := hr j a b
  have p := CTN_pos h a b rfl q.1 q.2
  have w := g rfl (r j) q.1 q.2 (by omega)
  exact ⟨q.1, w.1, w.2⟩
theorem RNG_mono {r : Int → Int} {n m k : Int} (h : RNG r n m) (hk : m ≤ k) : RNG r n k := fun j a b => by
  have := h j a b
  omega
theorem CTN_DVI {r co P : Int → Int} {n m : Int} (h : CTN r co n 53) (d : DVI co P m) (hr : RNG r n m) (hm : m ≤ 53) : RWO r P m n := fun j a b => by
  have q := hr j a b
  have p := CTN_pos h a b rfl q.1 (by omega)
  have w := d (r j) q.1 q.2
  exact ⟨q.1, q.2, by omega⟩
theorem pos1_two {co : Int → Int} {s t : Int} {m : Nat} (s0 : 0 ≤ s) (s1 : s < m) (t0 : 0 ≤ t) (t1 : t < m) (st : s ≠ t) (hs : co s ≠ 0) (ht : co t ≠ 0) : 2 ≤ su (fun i => pos1 (co i)) m := by
  have a := su_two (f := fun i => pos1 (co i)) (i := s) (j := t) (n := m) (fun i => by have := pos1_eq (co i); omega) s0 s1 t0 t1 st
  have b := pos1_eq (co s)
  have c := pos1_eq (co t)
  omega
theorem CTN_one {r co P : Int → Int} {n m k : Int} (h : CTN r co n 53) (hr : RNG r n m) (hm : m ≤ 53) (hd : k = su (fun i => pos1 (co i)) 53) (hk : k = 1) (n0 : 1 ≤ n) (hp : P (r 0) ≠ 0) : RWO r P m n := fun j a b => by
  have q := hr j a b
  have q0 := hr 0 (by omega) (by omega)
  have e : r j = r 0 := by
    by_cases w : r j = r 0
    · exact w
    · have p := CTN_pos h a b rfl q.1 (by omega)
      have p0 := CTN_pos h (i := 0) (by omega) (by omega) rfl q0.1 (by omega)
      have := pos1_two (co := co) (m := 53) q.1 (by omega) q0.1 (by omega) w (by omega) (by omega)
      omega
  rw [e]
  exact ⟨q0.1, q0.2, hp⟩
/-- bytes without sign -/
def ub (d : Int → Int) : Int → Int := fun j => d j % 256
theorem CTN_CTS {r co : Int → Int} {n : Int} (h : CTN r co n 256) (n0 : 0 ≤ n) (n1 : n ≤ 65536) : CTS co := fun s a b => by
  have := CTN_le h n0 a b
  omega
theorem CTN_DIF {d co : Int → Int} {n : Int} (h : CTN (ub d) co n 256) (hb : ∀ i, -128 ≤ d i ∧ d i ≤ 127) (hd : DIF d 0 n) : 2 ≤ su (fun i => pos1 (co i)) 256 := by
  obtain ⟨i, i0, i1, ne⟩ := hd
  have a := hb i
  have b := hb 0
  have p := CTN_pos h (i := i) (by omega) i1 rfl (by unfold ub; omega) (by unfold ub; omega)
  have q := CTN_pos h (i := 0) (by omega) (by omega) rfl (by unfold ub; omega) (by unfold ub; omega)
  have e1 : ub d i = d i % 256 := rfl
  have e2 : ub d 0 = d 0 % 256 := rfl
  exact pos1_two (s := ub d i) (t := ub d 0) (m := 256) (by omega) (by omega) (by omega) (by omega) (by omega) (by omega) (by omega)
def DSI (di : Int → Int) (n : Int) : Prop := ∀ j, 0 ≤ j → j < n → 1 ≤ di j ∧ di j ≤ 16384
theorem lgq_e {a b : Int} (h : a = b) (hb : lgq b = 0) : lgq a = 0 := by
  rw [h]; exact hb
theorem M03_of {m : Int → Int} (h0 : 0 ≤ m 0 ∧ m 0 ≤ 3) (h1 : 0 ≤ m 1 ∧ m 1 ≤ 3) (h2 : 0 ≤ m 2 ∧ m 2 ≤ 3) : M03 m := fun i a b => by
  rcases (show i = 0 ∨ i = 1 ∨ i = 2 by omega) with q | q | q <;> rw [q] <;> assumption
