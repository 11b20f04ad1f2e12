/-! cells, weights -/
def CEL (c : Int → Int) : Prop := ∀ i, 0 ≤ c i ∧ c i ≤ 3071
def FIL (a b : Int → Int) (i j v : Int) : Prop := ∀ k, (i ≤ k → k < j → b k = v) ∧ (k < i ∨ j ≤ k → b k = a k)
theorem FIL_0 {a : Int → Int} {i v : Int} : FIL a a i i v := fun k => ⟨fun x y => by omega, fun _ => rfl⟩
theorem FIL_s {a b : Int → Int} {i j j2 v : Int} (h : FIL a b i j v) (hj : i ≤ j) (e : j2 = j + 1) : FIL a (upd1 b j v) i j2 v := fun k => by
  by_cases w : k = j
  · subst w; exact ⟨fun _ _ => upd1_s, fun q => by omega⟩
  · rw [upd1_o w]; exact ⟨fun x y => (h k).1 x (by omega), fun q => (h k).2 (by omega)⟩
theorem CEL_fil {a b : Int → Int} {i j v : Int} (h : CEL a) (f : FIL a b i j v) (hv : 0 ≤ v ∧ v ≤ 3071) : CEL b := fun k => by
  by_cases w : i ≤ k ∧ k < j
  · rw [(f k).1 w.1 w.2]; exact hv
  · rw [(f k).2 (by omega)]; exact h k
def WTS (w : Int → Int) (n : Int) : Prop := ∀ i, 0 ≤ i → i < n → 0 ≤ w i ∧ w i ≤ 15
theorem WTS_s {w : Int → Int} {n n2 v : Int} (h : WTS w n) (e : n2 = n + 1) (hv : 0 ≤ v ∧ v ≤ 15) : WTS (upd1 w n v) n2 := fun i a b => by
  by_cases q : i = n
  · subst q; rw [upd1_s]; exact hv
  · rw [upd1_o q]; exact h i a (by omega)
def WGB (w : Int → Int) (g n : Int) : Prop := ∀ i, 0 ≤ i → i < n → 0 ≤ w i ∧ w i ≤ g
theorem WGB_s {w : Int → Int} {g n n2 v : Int} (h : WGB w g n) (e : n2 = n + 1) (hv : 0 ≤ v ∧ v ≤ g) : WGB (upd1 w n v) g n2 := fun i a b => by
  by_cases q : i = n
  · subst q; rw [upd1_s]; exact hv
  · rw [upd1_o q]; exact h i a (by omega)
def WSM (w : Int → Int) (n s : Int) : Prop := ∀ i, 0 ≤ i → i < n → 0 < w i → p2 (w i - 1) ≤ s
theorem WSM_s {w : Int → Int} {n n2 s s2 : Int} (h : WSM w n s) (e : n2 = n + 1) (hs : s ≤ s2) (hn : 0 < w n → p2 (w n - 1) ≤ s2) : WSM w n2 s2 := fun i a b c => by
  by_cases q : i = n
  · subst q; exact hn c
  · have := h i a (by omega) c; omega
theorem WGB_of {w : Int → Int} {n n2 s g v : Int} (h : WTS w n) (hs : WSM w n s) (g0 : 0 ≤ g) (hg : s < p2 g) (hv : 0 ≤ v ∧ v ≤ g) (e : n2 = n + 1) : WGB (upd1 w n v) g n2 := fun i a b => by
  by_cases q : i = n
  · subst q; rw [upd1_s]; exact hv
  · rw [upd1_o q]
    have x := h i a (by omega)
    refine ⟨x.1, ?_⟩
    by_cases p : 0 < w i
    · have y := hs i a (by omega) p
      have := p2_lt (a := w i - 1) (b := g) (by omega) (by omega)
      omega
    · omega
def WCN (w c : Int → Int) (n : Int) : Prop := ∀ v, 0 ≤ v → v < 12 → c v = su (eqs w v) n.toNat
theorem WCN_0 {w c : Int → Int} (h : ∀ i, c i = 0) : WCN w c 0 := fun v a b => h v
theorem su_eqs_upd {w : Int → Int} {v x k : Int} {n : Nat} (h : (n : Int) ≤ k) : su (eqs (upd1 w k x) v) n = su (eqs w v) n := su_congr (fun i a b => by unfold eqs; rw [upd1_o (by omega)])
theorem WCN_s {w c : Int → Int} {n n2 v y : Int} (h : WCN w c n) (n0 : 0 ≤ n) (e : n2 = n + 1) (v0 : 0 ≤ v) (v1 : v < 12) (ey : y = c v + 1) : WCN (upd1 w n v) (upd1 c v y) n2 := fun x a b => by
  subst e
  rw [su_s n0, su_eqs_upd (by omega)]
  have q := eqs_eq (upd1 w n v) x n
  rw [upd1_s] at q
  have r := h x a b
  by_cases p : x = v
  · subst p; rw [upd1_s]; omega
  · rw [upd1_o p]; omega
theorem WCN_le {w c : Int → Int} {n v : Int} (h : WCN w c n) (n0 : 0 ≤ n) (v0 : 0 ≤ v) (v1 : v < 12) : 0 ≤ c v ∧ c v ≤ n := by
  rw [h v v0 v1]
  have a := su_nonneg (f := eqs w v) (n := n.toNat) (fun i _ _ => by have := eqs_eq w v i; omega)
  have b := su_ones (f := eqs w v) (n := n.toNat) (fun i => by have := eqs_eq w v i; omega)
  omega
theorem WCN_pos {w c : Int → Int} {n i x : Int} (h : WCN w c n) (i0 : 0 ≤ i) (i1 : i < n) (e : w i = x) (x0 : 0 ≤ x) (x1 : x < 12) : 1 ≤ c x := by
  rw [h x x0 x1]
  have a := su_one (f := eqs w x) (i := i) (n := n.toNat) (fun k => by have := eqs_eq w x k; omega) i0 (by omega)
  have b := eqs_eq w x i
  omega
theorem su_all {w : Int → Int} : ∀ {n : Nat}, (∀ i, (0 : Int) ≤ i → i < n → 0 ≤ w i ∧ w i < 12) → su (fun v => su (eqs w v) n) 12 = n
  | 0, _ => by
    show su (fun _ => 0) 12 = 0
    exact su_zero _
  | n + 1, h => by
    have ih := su_all (n := n) (fun i a b => h i a (by omega))
    have hn := h n (by omega) (by omega)
    have e : su (fun v => su (eqs w v) (n + 1)) 12 = su (fun v => su (eqs w v) n + eqs w v n) 12 := su_congr (fun i _ _ => rfl)
    have o : su (fun v => eqs w v n) 12 = 1 := by
      rw [su_only (r := w n) hn.1 hn.2 (fun i _ _ q => by have := eqs_eq w i n; omega)]
      have := eqs_eq w (w n) n
      omega
    rw [e, su_add, ih, o]
    omega
theorem WCN_CNT {w c : Int → Int} {n L : Int} (h : WCN w c n) (g : WGB w 11 n) (n0 : 1 ≤ n) (n1 : n ≤ 65536) (hL : 5 ≤ L ∧ L ≤ 9) : CNT c 12 n L := by
  refine ⟨fun s a b => WCN_le h (by omega) a b, ?_, n0, n1, ?_, hL.1, hL.2, by omega, by omega⟩
  · show su c 12 = n
    rw [su_congr (h := fun v => su (eqs w v) n.toNat) (fun i a b => h i a (by omega)), su_all (fun i a b => by have := g i a (by omega); omega)]
    omega
  · have a : su (fun i => pos1 (c i)) 12 ≤ 12 := su_ones (n := 12) (fun i => by have := pos1_eq (c i); omega)
    have b := p2_5 hL
    show su (fun i => pos1 (c i)) 12 ≤ p2 L
    omega
theorem LNG_up {l : Int → Int} {g k s : Int} (h : LNG l g) (hg : g ≤ k) (a : 0 ≤ s) (b : s < 256) : 0 ≤ l s ∧ l s ≤ k := by
  have := h s a b
  omega
