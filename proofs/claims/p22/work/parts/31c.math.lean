/-! what stays outside a stretch -/
def FRM (g gₚ : Int → Int) (lo hi : Int) : Prop := ∀ k, k < lo ∨ hi ≤ k → gₚ k = g k
theorem FRM_refl {g : Int → Int} {lo hi : Int} : FRM g g lo hi := fun _ _ => rfl
theorem FRM_upd {g gₚ : Int → Int} {lo hi i v : Int} (h : FRM g gₚ lo hi) (h0 : lo ≤ i) (h1 : i < hi) : FRM g (upd1 gₚ i v) lo hi := by
  intro k q
  rw [upd1_o (by omega)]
  exact h k q
theorem FRM_trans {g gₚ g2 : Int → Int} {lo hi : Int} (h : FRM g gₚ lo hi) (h' : FRM gₚ g2 lo hi) : FRM g g2 lo hi := fun k q => (h' k q).trans (h k q)
theorem FRM_wide {g gₚ : Int → Int} {lo hi lo2 hi2 : Int} (h : FRM g gₚ lo hi) (h0 : lo2 ≤ lo) (h1 : hi ≤ hi2) : FRM g gₚ lo2 hi2 := fun k q => h k (by omega)
/-! tables of the reader -/
def lastOf (t : Int) : Int := if t = 0 then 35 else if t = 1 then 31 else 52
theorem lastOf_eq (t : Int) : t = 0 ∧ lastOf t = 35 ∨ t = 1 ∧ lastOf t = 31 ∨ t ≠ 0 ∧ t ≠ 1 ∧ lastOf t = 52 := by
  unfold lastOf
  by_cases h : t = 0
  · rw [if_pos h]; omega
  · rw [if_neg h]
    by_cases h1 : t = 1
    · rw [if_pos h1]; omega
    · rw [if_neg h1]; omega
def RO (sy bi ba or_ : Int → Int) (t : Int) : Prop := or_ t < 0 ∨ 0 ≤ or_ t ∧ or_ t ≤ 9 ∧ TI sy bi ba (512 * t) (or_ t) (lastOf t)
def RT (sy bi ba or_ : Int → Int) : Prop := ∀ t, 0 ≤ t → t < 3 → RO sy bi ba or_ t
def RX (sy bi ba or_ : Int → Int) (x : Int) : Prop := ∀ t, 0 ≤ t → t < 3 → t ≠ x → RO sy bi ba or_ t
def PS (po or_ : Int → Int) (t : Int) : Prop := SH po (64 * t) 64 (or_ t) (lastOf t)
theorem p2_le9 {o : Int} (h : o ≤ 9) : p2 o ≤ 512 := by
  have := p2_mono h
  rw [show p2 9 = 512 from by decide] at this
  exact this
theorem TI_frm {sy bi ba sy' bi' ba' : Int → Int} {row o last lo hi : Int} (h : TI sy bi ba row o last) (h1 : FRM sy sy' lo hi) (h2 : FRM bi bi' lo hi) (h3 : FRM ba ba' lo hi) (hd : row + p2 o ≤ lo ∨ hi ≤ row) : TI sy' bi' ba' row o last := by
  intro k a b
  rw [h1 _ (by omega), h2 _ (by omega), h3 _ (by omega)]
  exact h k a b
theorem RT_lay {sy bi ba sy' bi' ba' or_ : Int → Int} {x : Int} (h : RX sy bi ba or_ x) (h1 : FRM sy sy' (512 * x) (512 * x + 512)) (h2 : FRM bi bi' (512 * x) (512 * x + 512)) (h3 : FRM ba ba' (512 * x) (512 * x + 512)) (hn : 0 ≤ or_ x ∧ or_ x ≤ 9) (ht : TI sy' bi' ba' (512 * x) (or_ x) (lastOf x)) : RT sy' bi' ba' or_ := by
  intro t a b
  by_cases e : t = x
  · subst e; exact .inr ⟨hn.1, hn.2, ht⟩
  · rcases h t a b e with q | ⟨q1, q2, q3⟩
    · exact .inl q
    · have := p2_le9 q2
      exact .inr ⟨q1, q2, TI_frm q3 h1 h2 h3 (by omega)⟩
theorem RX_of {sy bi ba or_ : Int → Int} {x v : Int} (h : RT sy bi ba or_) : RX sy bi ba (upd1 or_ x v) x := by
  intro t a b e
  unfold RO
  rw [upd1_o e]
  exact h t a b
theorem RT_neg {sy bi ba or_ : Int → Int} (h : ∀ t, (0 : Int) ≤ t → t < 3 → or_ t < 0) : RT sy bi ba or_ := fun t a b => .inl (h t a b)
/-! one symbol alone -/
theorem RT_one {sy bi ba or_ : Int → Int} {x s : Int} (h : RT sy bi ba or_) (hx : 0 ≤ x ∧ x < 3) (hs : 0 ≤ s ∧ s ≤ lastOf x) : RT (upd1 sy (512 * x) s) (upd1 bi (512 * x) 0) (upd1 ba (512 * x) 0) (upd1 or_ x 0) := by
  refine RT_lay (RX_of h) (FRM_upd FRM_refl (by omega) (by omega)) (FRM_upd FRM_refl (by omega) (by omega)) (FRM_upd FRM_refl (by omega) (by omega)) (by rw [upd1_s]; omega) ?_
  rw [upd1_s]
  intro k a b
  have : p2 0 = 1 := by decide
  have e : k = 0 := by omega
  subst e
  rw [Int.add_zero, upd1_s, upd1_s, upd1_s]
  exact ⟨hs.1, hs.2, by omega, by omega, by omega, by omega⟩
/-! points that are set in a row -/
def rns (g : Int → Int) (a n v : Int) : Int → Int := fun i => if a ≤ i ∧ i < a + n then v else g i
theorem rns_0 {g : Int → Int} {a v : Int} : rns g a 0 v = g := by
  funext i
  unfold rns
  rw [if_neg (by omega)]
theorem rns_s {g : Int → Int} {a n v : Int} (hn : 0 ≤ n) : upd1 (rns g a n v) (a + n) v = rns g a (n + 1) v := by
  funext i
  unfold upd1 rns
  by_cases e : i = a + n
  · rw [if_pos e, if_pos (by omega)]
  · rw [if_neg e]
    by_cases q : a ≤ i ∧ i < a + n
    · rw [if_pos q, if_pos (by omega)]
    · rw [if_neg q, if_neg (by omega)]
theorem rns_c {g h : Int → Int} {a n v i : Int} (e : g i = h i) : rns g a n v i = rns h a n v i := by
  unfold rns
  rw [e]
theorem rns_in {g h : Int → Int} {a n v i : Int} (h0 : a ≤ i) (h1 : i < a + n) : rns g a n v i = rns h a n v i := by
  unfold rns
  rw [if_pos ⟨h0, h1⟩, if_pos ⟨h0, h1⟩]
theorem rns_frm {g : Int → Int} {a n v lo hi : Int} (h0 : lo ≤ a) (h1 : a + n ≤ hi) : FRM g (rns g a n v) lo hi := by
  intro k q
  unfold rns
  rw [if_neg (by omega)]
/-! codes -/
def kr (T l : Int) : Int := if l = 0 then 0 else p2 (T - l)
theorem kr_eq (T l : Int) : l = 0 ∧ kr T l = 0 ∨ l ≠ 0 ∧ kr T l = p2 (T - l) := by
  unfold kr
  by_cases h : l = 0
  · rw [if_pos h]; omega
  · rw [if_neg h]; omega
def CI (g : Int → Int) (T : Int) : Prop := 0 ≤ T ∧ T ≤ 11 ∧ (∀ i, 0 ≤ i → i < 256 → 0 ≤ g i ∧ g i ≤ T) ∧ su (fun i => kr T (g i)) 256 = p2 T ∧ ∃ i, 0 ≤ i ∧ i < 256 ∧ g i = T
def kq (g : Int → Int) (T w : Int) : Int → Int := fun i => if g i ≠ 0 ∧ T + 1 - g i < w then p2 (T - g i) else 0
def ke (g : Int → Int) (T w : Int) : Int → Int := fun i => if g i ≠ 0 ∧ T + 1 - g i = w then p2 (T - g i) else 0
theorem ke_eq (g : Int → Int) (T w i : Int) : g i ≠ 0 ∧ T + 1 - g i = w ∧ ke g T w i = p2 (w - 1) ∨ ¬(g i ≠ 0 ∧ T + 1 - g i = w) ∧ ke g T w i = 0 := by
  unfold ke
  by_cases h : g i ≠ 0 ∧ T + 1 - g i = w
  · rw [if_pos h]; left; refine ⟨h.1, h.2, ?_⟩; congr 1; omega
  · rw [if_neg h]; right; exact ⟨h, rfl⟩
theorem kq_s {g : Int → Int} {T w : Int} {n : Nat} : su (kq g T (w + 1)) n = su (kq g T w) n + su (ke g T w) n := by
  rw [← su_add]
  refine su_congr (fun i _ _ => ?_)
  unfold kq ke
  by_cases h0 : g i = 0
  · rw [if_neg (by omega), if_neg (by omega), if_neg (by omega)]; omega
  · by_cases h1 : T + 1 - g i < w
    · rw [if_pos (by omega), if_pos (by omega), if_neg (by omega)]; omega
    · by_cases h2 : T + 1 - g i = w
      · rw [if_pos (by omega), if_neg (by omega), if_pos (by omega)]; omega
      · rw [if_neg (by omega), if_neg (by omega), if_neg (by omega)]; omega
theorem kq_1 {g : Int → Int} {T : Int} (h : ∀ i, (0 : Int) ≤ i → i < 256 → 0 ≤ g i ∧ g i ≤ T) : su (kq g T 1) 256 = 0 := by
  rw [su_congr (h := fun _ => 0)]
  · exact su_zero _
  · intro i a b
    have := h i a (by omega)
    unfold kq
    rw [if_neg (by omega)]
theorem CI_room {g : Int → Int} {T w s : Int} (h : CI g T) (h0 : 0 ≤ s) (h1 : s ≤ 256) : 0 ≤ su (kq g T w) 256 ∧ 0 ≤ su (ke g T w) s.toNat ∧ su (kq g T w) 256 + su (ke g T w) s.toNat ≤ p2 T := by
  have a : ∀ i : Int, 0 ≤ ke g T w i := fun i => by have := ke_eq g T w i; have := p2_pos (w - 1); omega
  have b := su_le_all (f := ke g T w) h0 h1 (fun i _ => a i)
  have c : su (kq g T w) 256 + su (ke g T w) 256 ≤ su (fun i => kr T (g i)) 256 := by
    rw [← kq_s]
    refine su_le (fun i _ _ => ?_)
    have := kr_eq T (g i)
    have := p2_pos (T - g i)
    unfold kq
    by_cases q : g i ≠ 0 ∧ T + 1 - g i < w + 1
    · rw [if_pos q]; omega
    · rw [if_neg q]; omega
  have d : 0 ≤ su (kq g T w) 256 := su_nonneg (fun i _ _ => by
    unfold kq
    have := p2_pos (T - g i)
    by_cases q : g i ≠ 0 ∧ T + 1 - g i < w
    · rw [if_pos q]; omega
    · rw [if_neg q]; omega)
  rw [h.2.2.2.1] at c
  have e : (256 : Int).toNat = 256 := rfl
  rw [e] at b
  exact ⟨d, b.1, by omega⟩
theorem p2_11 {T : Int} (h : T ≤ 11) : p2 T ≤ 2048 := by
  have := p2_mono h
  rw [show p2 11 = 2048 from by decide] at this
  exact this
theorem su_some {f : Int → Int} : ∀ {n : Nat}, su f n ≠ 0 → ∃ i : Int, 0 ≤ i ∧ i < n ∧ f i ≠ 0
  | 0, h => absurd rfl h
  | n + 1, h => by
    by_cases q : f n = 0
    · have e1 : su f (n + 1) = su f n + f n := rfl
      obtain ⟨i, a, b, c⟩ := su_some (f := f) (n := n) (by omega)
      exact ⟨i, a, by omega, c⟩
    · exact ⟨n, by omega, by omega, q⟩
def wk (x : Int) : Int := if 0 < x then p2 (x - 1) else 0
theorem wk_eq (x : Int) : 0 < x ∧ wk x = p2 (x - 1) ∨ x ≤ 0 ∧ wk x = 0 := by
  unfold wk
  by_cases h : 0 < x
  · rw [if_pos h]; omega
  · rw [if_neg h]; omega
def on1 (x : Int) : Int := if x = 1 then 1 else 0
theorem on1_eq (x : Int) : x = 1 ∧ on1 x = 1 ∨ x ≠ 1 ∧ on1 x = 0 := by
  unfold on1
  by_cases h : x = 1
  · rw [if_pos h]; omega
  · rw [if_neg h]; omega
/-- lengths by weights -/
def lw (w : Int → Int) (n t : Int) : Int → Int := fun i => if i ≤ n ∧ 0 < w i then t + 1 - w i else 0
theorem lw_eq (w : Int → Int) (n t i : Int) : i ≤ n ∧ 0 < w i ∧ lw w n t i = t + 1 - w i ∨ ¬(i ≤ n ∧ 0 < w i) ∧ lw w n t i = 0 := by
  unfold lw
  by_cases h : i ≤ n ∧ 0 < w i
  · rw [if_pos h]; omega
  · rw [if_neg h]; omega
theorem wk_le {w : Int → Int} {n i : Int} (h0 : 0 ≤ i) (h1 : i < n) : wk (w i) ≤ su (fun i => wk (w i)) n.toNat ∧ 0 ≤ wk (w i) := by
  have nn : ∀ i : Int, 0 ≤ i → 0 ≤ wk (w i) := fun i _ => by have := wk_eq (w i); have := p2_pos (w i - 1); omega
  have a := su_le_all (f := fun i => wk (w i)) (i := i + 1) (n := n) (by omega) (by omega) nn
  have b := su_le_all (f := fun i => wk (w i)) (i := i) (n := n) (by omega) (by omega) nn
  rw [su_s h0] at a
  exact ⟨by omega, nn i h0⟩
theorem CI_of {w : Int → Int} {n t : Int} (hn : 0 ≤ n) (hn2 : n ≤ 255) (ht : 1 ≤ t) (ht2 : t ≤ 11) (hw : ∀ i, 0 ≤ i → i ≤ n → w i ≤ t) (hs : su (fun i => wk (w i)) (n + 1).toNat = p2 t) (ho : su (fun i => on1 (w i)) (n + 1).toNat ≠ 0) : CI (lw w n t) t := by
  refine ⟨by omega, ht2, fun i a b => ?_, ?_, ?_⟩
  · have := lw_eq w n t i
    have := fun q => hw i a q
    omega
  · rw [← hs]
    have e := su_split (f := fun i => kr t (lw w n t i)) (n := (n + 1).toNat) (k := (255 - n).toNat) (fun i a b => by
      have := lw_eq w n t i
      have := kr_eq t (lw w n t i)
      show kr t (lw w n t i) = 0
      omega)
    rw [show (n + 1).toNat + (255 - n).toNat = 256 by omega] at e
    rw [e]
    refine su_congr (fun i a b => ?_)
    show kr t (lw w n t i) = wk (w i)
    have h1 := lw_eq w n t i
    have h2 := kr_eq t (lw w n t i)
    have h3 := wk_eq (w i)
    have h4 := hw i a (by omega)
    by_cases q : 0 < w i
    · have e2 : lw w n t i = t + 1 - w i := by omega
      rw [e2] at h2 ⊢
      have e3 : t - (t + 1 - w i) = w i - 1 := by omega
      rw [e3] at h2
      omega
    · omega
  · obtain ⟨i, a, b, c⟩ := su_some ho
    have := on1_eq (w i)
    have := lw_eq w n t i
    exact ⟨i, a, by omega, by omega⟩
