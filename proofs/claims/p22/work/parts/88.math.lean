theorem ngs_le {g : Int → Int} {a o l : Int} (h : SH g a 64 o l) : ngs (sh g a) 64 ≤ p2 o := by
  have q := SH_parts h
  have w : 0 ≤ su (fun i => posi (g (a + i))) (64 : Int).toNat := su_nonneg (fun i _ _ => by have := posi_eq (g (a + i)); omega)
  show su (fun i => neg1 (g (a + i))) (64 : Int).toNat ≤ p2 o
  omega
theorem ngs_in {P : Int → Int} {s L : Int} (h : ngs P 64 ≤ p2 L) (s0 : 0 ≤ s) (s1 : s < 64) (hs : P s < 0) : 0 ≤ p2 L - 1 - ngs P s ∧ p2 L - 1 - ngs P s < p2 L := by
  have a := su_le_all (f := fun i => neg1 (P i)) (i := s + 1) (n := 64) (by omega) (by omega) (fun i _ => by have := neg1_eq (P i); omega)
  have b := su_le_all (f := fun i => neg1 (P i)) (i := s) (n := 64) (by omega) (by omega) (fun i _ => by have := neg1_eq (P i); omega)
  have c := su_s (f := fun i => neg1 (P i)) (i := s) s0
  have d := neg1_eq (P s)
  have e : ngs P s = su (fun i => neg1 (P i)) s.toNat := rfl
  have f : ngs P 64 = su (fun i => neg1 (P i)) (64 : Int).toNat := rfl
  omega
theorem LD_rows {P sy bi ba sy' bi' ba' : Int → Int} {L : Int} (hL : 5 ≤ L ∧ L ≤ 9) (hn : ngs P 64 ≤ p2 L) (h : LD P 64 L sy bi ba) (e : ∀ k, 0 ≤ k → k < p2 L → sy' k = sy k ∧ bi' k = bi k ∧ ba' k = ba k) : LD P 64 L sy' bi' ba' := by
  have pp := p2_pos L
  have ee : ∀ s k, 0 ≤ k → k < p2 L → eqs sy' s k = eqs sy s k := fun s k a b => by unfold eqs; rw [(e k a b).1]
  refine ⟨⟨fun s a b c => ?_, fun j a b c => ?_⟩, fun s a b => ?_, fun k a b => ?_⟩
  · have w := ngs_in hn a b c
    rw [(e _ w.1 w.2).1]; exact h.1.1 s a b c
  · have q0 : 0 ≤ qs L j := Int.emod_nonneg _ (by omega)
    have q1 : qs L j < p2 L := Int.emod_lt_of_pos _ pp
    rw [(e _ q0 q1).1]; exact h.1.2 j a b c
  · rw [← h.2.1 s a b]; exact su_congr (fun i x y => ee s i x (by omega))
  · obtain ⟨r, q⟩ := h.2.2 k a b
    have x : XN P sy' k = XN P sy k := by
      unfold XN
      rw [(e k a b).1, su_congr (f := eqs sy' (sy k)) (h := eqs sy (sy k)) (fun i x y => ee _ i x (by omega))]
    exact ⟨r, by rw [x, (e k a b).2.1, (e k a b).2.2]; exact q⟩
theorem LOW_rows {sy bi sy' bi' : Int → Int} {L s m r : Int} (h : LOW sy bi L s m r) (e : ∀ k, 0 ≤ k → k < p2 L → sy' k = sy k ∧ bi' k = bi k) : LOW sy' bi' L s m r := by
  refine ⟨h.1, h.2.1, ?_, fun k a b => ?_⟩
  · have w := e r h.1 h.2.1
    unfold WQ; rw [w.1, w.2]; exact h.2.2.1
  · have w := e k a (by have := h.2.1; omega)
    unfold WQ; rw [w.1, w.2]; exact h.2.2.2 k a b
def STI (po or_ pS pB pA row : Int → Int) (t n d st x : Int) : Prop := (or_ t ≤ 0 → st = 0 ∧ x = 0) ∧ (1 ≤ or_ t → LD (sh po (64 * t)) 64 (or_ t) (sh pS (512 * t)) (sh pB (512 * t)) (sh pA (512 * t)) ∧ CHN (sh pS (512 * t)) (sh pB (512 * t)) (sh pA (512 * t)) (or_ t) row n d.toNat st (or_ t + x))
theorem STI_0 {po or_ pS pB pA pS' pB' pA' row : Int → Int} {t n st : Int} (hT : TBL po or_ row t n) (h0 : or_ t ≤ 0 → st = 0) (h1 : 1 ≤ or_ t → LD (sh po (64 * t)) 64 (or_ t) (sh pS (512 * t)) (sh pB (512 * t)) (sh pA (512 * t)) ∧ LOW (sh pS (512 * t)) (sh pB (512 * t)) (or_ t) (row (n - 1)) 0 st) (f : ∀ k, 512 * t ≤ k → k < 512 * t + 512 → pS' k = pS k ∧ pB' k = pB k ∧ pA' k = pA k) : STI po or_ pS' pB' pA' row t n 0 st 0 := by
  refine ⟨fun q => ⟨h0 q, rfl⟩, fun q => ?_⟩
  obtain ⟨a, b⟩ := h1 q
  obtain ⟨s, _⟩ := hT.2.2 q
  have p9 := p2_le9 (o := or_ t) s.2.1
  have ff : ∀ k, 0 ≤ k → k < p2 (or_ t) → sh pS' (512 * t) k = sh pS (512 * t) k ∧ sh pB' (512 * t) k = sh pB (512 * t) k ∧ sh pA' (512 * t) k = sh pA (512 * t) k := fun k x y => f (512 * t + k) (by omega) (by omega)
  refine ⟨LD_rows ⟨s.1, s.2.1⟩ (ngs_le s) a ff, ?_⟩
  show CHN _ _ _ _ row n 0 st (or_ t + 0)
  exact ⟨LOW_rows b (fun k x y => ⟨(ff k x y).1, (ff k x y).2.1⟩), by omega⟩
theorem STI_pre {po or_ pS pB pA row : Int → Int} {t n d st x i : Int} (h : STI po or_ pS pB pA row t n d st x) (hT : TBL po or_ row t n) (hn : 1 ≤ n) (i0 : 0 ≤ i) (i1 : i < n) (r : ∀ j, 0 ≤ row j ∧ row j < 64) : 1 ≤ or_ t → 5 ≤ or_ t ∧ LD (sh po (64 * t)) 64 (or_ t) (sh pS (512 * t)) (sh pB (512 * t)) (sh pA (512 * t)) ∧ 1 ≤ mass ((sh po (64 * t)) (row i)) ∧ mass ((sh po (64 * t)) (row i)) ≤ p2 (or_ t) ∧ 0 ≤ st ∧ st < p2 (or_ t) := fun q => by
  obtain ⟨a, b⟩ := h.2 q
  obtain ⟨s, c, hc, hC⟩ := hT.2.2 q
  have nz := COST_nz ⟨s.1, s.2.1⟩ hC hn i i0 i1
  have l := SH_le (row i) s (r i).1 (r i).2
  have m := mass_eq (sh po (64 * t) (row i))
  have e : sh po (64 * t) (row i) = po (64 * t + row i) := rfl
  have rg := CHN_rng b
  refine ⟨s.1, a, by omega, ?_, rg.1, rg.2⟩
  rw [e]; exact l.2.2.1
theorem STI_s {po or_ pS pB pA row : Int → Int} {t n d d2 st st' x i b b' : Int} (h : STI po or_ pS pB pA row t n d st x) (h0 : 0 ≤ d) (hi : i = n - 2 - d) (p0 : or_ t ≤ 0 → st' = 0 ∧ b' = b) (p1 : 1 ≤ or_ t → LEAD (sh pS (512 * t)) (sh pB (512 * t)) (sh pA (512 * t)) (or_ t) (row i) st st' ∧ b' = b + (sh pB (512 * t)) st') (e : d2 = d + 1) : STI po or_ pS pB pA row t n d2 st' (x + (b' - b)) := by
  refine ⟨fun q => ⟨(p0 q).1, by have := (p0 q).2; have := (h.1 q).2; omega⟩, fun q => ?_⟩
  obtain ⟨a, c⟩ := h.2 q
  obtain ⟨l, eb⟩ := p1 q
  exact ⟨a, CHN_s c h0 e hi l (by omega)⟩
theorem STI_end {po or_ pS pB pA row : Int → Int} {t n d st x : Int} (h : STI po or_ pS pB pA row t n d st x) (hT : TBL po or_ row t n) (hn : 1 ≤ n) (hd : d = n - 1) (hk : 0 ≤ kO t * n) : x + or_ t ≤ kO t * n := by
  by_cases q : 1 ≤ or_ t
  · obtain ⟨a, b⟩ := h.2 q
    obtain ⟨s, c, hc, hC⟩ := hT.2.2 q
    rw [hd] at b
    have := COST_uniq ⟨s.1, s.2.1⟩ hC ⟨_, _, _, st, a, b⟩
    omega
  · have := (h.1 (by omega)).2
    have := hT.1
    omega
def mo3 (mb : Int → Int) : Int → Int := fun j => mb (8001 * 0 + j) + mb (8001 * 2 + j) + mb (8001 * 1 + j)
def SSI (po or_ pS pB pA sy mb : Int → Int) (n i a b c bits : Int) : Prop := ∃ x0 x1 x2, STI po or_ pS pB pA (sh sy (8001 * 0)) 0 n (n - 2 - i) a x0 ∧ STI po or_ pS pB pA (sh sy (8001 * 1)) 1 n (n - 2 - i) b x1 ∧ STI po or_ pS pB pA (sh sy (8001 * 2)) 2 n (n - 2 - i) c x2 ∧ bits = x0 + x1 + x2 + (su (mo3 mb) n.toNat - su (mo3 mb) (i + 1).toNat)
theorem su_lin {f g : Int → Int} : ∀ {n : Nat}, (∀ i : Int, 0 ≤ i → i < n → 17 + f i ≤ 11 * g i) → 17 * (n : Int) + su f n ≤ 11 * su g n
  | 0, _ => by show 17 * ((0 : Nat) : Int) + 0 ≤ 11 * 0; omega
  | n + 1, h => by
    have a := su_lin (n := n) (fun i x y => h i x (by omega))
    have b := h n (by omega) (by omega)
    show 17 * ((n + 1 : Nat) : Int) + (su f n + f n) ≤ 11 * (su g n + g n)
    omega
/-- the bits that a stream of sequences may take -/
theorem TLI_sum {sy mb ll ml : Int → Int} {n M : Int} (h : TLI sy mb ll ml n) (g : GOE ll ml n M) (hn : 0 ≤ n) : 17 * n + su (mo3 mb) n.toNat ≤ 11 * M := by
  have a := su_lin (f := mo3 mb) (g := fun j => ll j + ml j) (n := n.toNat) (fun i x y => by have := (h i x (by omega)).2.2.2; unfold mo3; omega)
  have b := g.2
  omega
theorem TLI_sy {sy mb ll ml : Int → Int} {n t : Int} (h : TLI sy mb ll ml n) (t0 : 0 ≤ t) (t1 : t ≤ 2) : ∀ j, 0 ≤ j → j < n → (sh sy (8001 * t)) j ≤ lS t := fun j a b => by
  have q := h j a b
  have w := lS_eq t
  show sy (8001 * t + j) ≤ lS t
  rcases (show t = 0 ∨ t = 1 ∨ t = 2 by omega) with e | e | e <;> subst e <;> omega
