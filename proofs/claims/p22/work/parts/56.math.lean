def HV (g0 g : Int → Int) (n : Int) : Prop := (∀ i, 0 ≤ i → i < n → g i = (g0 i + 1) / 2) ∧ (∀ i, n ≤ i → g i = g0 i)
theorem HV_0 {g : Int → Int} : HV g g 0 := ⟨fun i a b => by omega, fun _ _ => rfl⟩
theorem HV_next {g0 g : Int → Int} {n n2 v : Int} (h : HV g0 g n) (e : n2 = n + 1) (hv : v = (g n + 1) / 2) : HV g0 (upd1 g n v) n2 := by
  subst e
  refine ⟨fun i a b => ?_, fun i a => ?_⟩
  · by_cases q : i = n
    · subst q; rw [upd1_s, hv, h.2 i (by omega)]
    · rw [upd1_o q]; exact h.1 i a (by omega)
  · rw [upd1_o (by omega)]; exact h.2 i (by omega)
theorem HV_su {g0 g : Int → Int} (h : HV g0 g 256) : 2 * su (fun i => g i) 256 ≤ su (fun i => g0 i) 256 + 256 := by
  have e : ∀ m : Nat, m ≤ 256 → 2 * su (fun i => g i) m ≤ su (fun i => g0 i) m + m := by
    intro m
    induction m with
    | zero => intro _; show 2 * (0 : Int) ≤ 0 + 0; omega
    | succ m ih =>
      intro hm
      have := ih (by omega)
      have := h.1 m (by omega) (by omega)
      show 2 * (su (fun i => g i) m + g m) ≤ su (fun i => g0 i) m + g0 m + ((m + 1 : Nat) : Int)
      omega
  exact e 256 (by omega)
theorem HV_nn {g0 g : Int → Int} (h : HV g0 g 256) (h0 : ∀ i, (0 : Int) ≤ i → i < 256 → 0 ≤ g0 i) : ∀ i, (0 : Int) ≤ i → i < 256 → 0 ≤ g i := fun i a b => by
  have := h.1 i a b
  have := h0 i a b
  omega
theorem HV_pos {g0 g : Int → Int} (h : HV g0 g 256) {i : Int} (a : 0 ≤ i) (b : i < 256) (c : 1 ≤ g0 i) : 1 ≤ g i := by
  have := h.1 i a b
  omega
theorem HV_two {g0 g : Int → Int} (h : HV g0 g 256) (t : TWO g0) : TWO g := by
  obtain ⟨x, y, x0, x1, y0, y1, xy, hx, hy⟩ := t
  exact ⟨x, y, x0, x1, y0, y1, xy, by have := HV_pos h x0 x1 (by omega); omega, by have := HV_pos h y0 y1 (by omega); omega⟩
theorem CI_some {g : Int → Int} {T : Int} (h : CI g T) : ∃ i, 0 ≤ i ∧ i < 256 ∧ g i ≠ 0 := by
  have hp := p2_pos T
  obtain ⟨i, a, b, c⟩ := su_some (f := fun i => kr T (g i)) (n := 256) (by have := h.2.2.2.1; omega)
  have := kr_eq T (g i)
  have c : kr T (g i) ≠ 0 := c
  exact ⟨i, a, by omega, by omega⟩
theorem CI_1 {g : Int → Int} {T : Int} (h : CI g T) : 1 ≤ T := by
  obtain ⟨i, a, b, c⟩ := CI_some h
  have := h.2.2.1 i a b
  omega
theorem CI_BD {g : Int → Int} {T : Int} (h : CI g T) : BD g := fun i a b => by
  have := h.2.2.1 i a b
  have := h.2.1
  omega
theorem su_oneR {f : Int → Int} {i : Int} : ∀ {n : Nat}, (∀ i : Int, 0 ≤ i → i < n → 0 ≤ f i) → 0 ≤ i → i < n → f i ≤ su f n
  | 0, _, _, _ => by omega
  | n + 1, h, h0, h1 => by
    have e1 : su f (n + 1) = su f n + f n := rfl
    by_cases e : i = n
    · have := su_nonneg (f := f) (n := n) (fun i a b => h i a (by omega))
      rw [e]; omega
    · have := su_oneR (n := n) (fun i a b => h i a (by omega)) h0 (by omega)
      have := h n (by omega) (by omega)
      omega
theorem HV_b {g0 g : Int → Int} {n : Int} (h : HV g0 g n) (h0 : ∀ i, (0 : Int) ≤ i → i < 256 → 0 ≤ g0 i) (a : 0 ≤ n) (b : n < 256) : 0 ≤ g n ∧ g n ≤ su (fun i => g0 i) 256 := by
  rw [h.2 n (by omega)]
  exact ⟨h0 n a b, su_oneR (f := fun i => g0 i) (n := 256) (fun i x y => h0 i x (by omega)) a (by omega)⟩
