/-! contracts with what comes of them -/
abbrev wQ : Type := Option Value → rS → Nat → Nat → Prop
def Ew (μ d pc : Nat) (ls : rO) (st : List Value) (σ : rS) (c s : Nat) (Q : wQ) : Prop := ∃ v σₚ cₚ sₚ, Ev PP μ d pc ls st σ c s (v, σₚ, 0, [], cₚ, sₚ) ∧ Q v σₚ cₚ sₚ
abbrev inr (z : Int) : Prop := -2147483648 ≤ z ∧ z ≤ 2147483647
abbrev inrJ (z : Int) : Prop := -9223372036854775808 ≤ z ∧ z ≤ 9223372036854775807
theorem rk_s {ls : rO} {i : Nat} {v : Value} : rlook (rset ls i v) i = some v := by
  show @Bool.rec (fun _ => Option Value) _ (some v) (Nat.beq i i) = _
  rw [Nat.beq_refl]
theorem rk2_s {ls : rO} {i : Nat} {v : Value} : rlook (rset2 ls i v) i = some v := by
  show @Bool.rec (fun _ => Option Value) _ (some v) (Nat.beq i i) = _
  rw [Nat.beq_refl]
theorem rdrp_look {f : Nat × Value → Bool} : ∀ {ls : rO} {j : Nat} {w : Value}, rlook ls j = some w → f (j, w) = true → rlook (rdrp f ls) j = some w
  | [], j, w, h, _ => by cases h
  | (a, b) :: ls, j, w, h, hf => by
    have h : @Bool.rec (fun _ => Option Value) (rlook ls j) (some b) (Nat.beq a j) = some w := h
    show rlook (@Bool.rec (fun _ => rO) (rdrp f ls) ((a, b) :: rdrp f ls) (f (a, b))) j = _
    cases hb : Nat.beq a j with
    | true =>
      rw [hb] at h
      have e := Nat.eq_of_beq_eq_true hb
      subst e
      cases h
      rw [hf]
      show @Bool.rec (fun _ => Option Value) _ (some b) (Nat.beq a a) = _
      rw [Nat.beq_refl]
    | false =>
      rw [hb] at h
      cases hfa : f (a, b) with
      | true =>
        show @Bool.rec (fun _ => Option Value) (rlook (rdrp f ls) j) (some b) (Nat.beq a j) = _
        rw [hb]
        exact rdrp_look h hf
      | false => exact rdrp_look h hf
theorem rk_o {ls : rO} {i j : Nat} {v w : Value} (h : rlook ls j = some w) (hj : Nat.beq i j = false) (hc : rkp (j, w) i = true) : rlook (rset ls i v) j = some w := by
  show @Bool.rec (fun _ => Option Value) (rlook (rdrp (fun q => rkp q i) ls) j) (some v) (Nat.beq i j) = _
  rw [hj]
  exact rdrp_look h hc
theorem rk2_o {ls : rO} {i j : Nat} {v w : Value} (h : rlook ls j = some w) (hj : Nat.beq i j = false) (hc : rkp2 (j, w) i = true) : rlook (rset2 ls i v) j = some w := by
  show @Bool.rec (fun _ => Option Value) (rlook (rdrp (fun q => rkp2 q i) ls) j) (some v) (Nat.beq i j) = _
  rw [hj]
  exact rdrp_look h hc
section EW
variable {σ0 σ : rS} {D N : Nat → Nat} {F : hF} {A : hA} {μ d pc c s : Nat} {ls : rO} {st : List Value} {Q : wQ} {len : Nat} {act : rA}
theorem Ew_of {pcₚ : Nat} {ls' : rO} {st' : List Value} (f : ∀ r, Ev PP μ d pcₚ ls' st' σ c s r → Ev PP μ d pc ls st σ c s r) (k : Ew μ d pcₚ ls' st' σ c s Q) : Ew μ d pc ls st σ c s Q := by
  obtain ⟨v, σₚ, cₚ, sₚ, h, q⟩ := k
  exact ⟨v, σₚ, cₚ, sₚ, f _ h, q⟩
theorem w_gI (H : HS σ0 σ D N F A) {x q ci k o : Nat} {z : Value} {w : Int} (hf : PP.1 μ pc = some (.getfield x, len, (q, ci, k, z))) (hD : D o ≠ 0) (ha : t_arr o = false) (hc : t_cls o = ci) (hk : Nat.blt k (t_nf ci) = true) (hd : ∀ z, fv D (t_kd ci k) z = I z) (hw : F o k = w) (h : Ew μ d (pc + 3) ls (I w :: st) σ c s Q) : Ew μ d pc ls (.ref (D o) :: st) σ c s Q :=
  Ew_of (fun _ e => g_I H hf hD ha hc (Nat.le_of_ble_eq_true hk) hd (hw ▸ e)) h
theorem w_gJ (H : HS σ0 σ D N F A) {x q ci k o : Nat} {z : Value} {w : Int} (hf : PP.1 μ pc = some (.getfield x, len, (q, ci, k, z))) (hD : D o ≠ 0) (ha : t_arr o = false) (hc : t_cls o = ci) (hk : Nat.blt k (t_nf ci) = true) (hd : ∀ z, fv D (t_kd ci k) z = J z) (hw : F o k = w) (h : Ew μ d (pc + 3) ls (J w :: st) σ c s Q) : Ew μ d pc ls (.ref (D o) :: st) σ c s Q :=
  Ew_of (fun _ e => g_J H hf hD ha hc (Nat.le_of_ble_eq_true hk) hd (hw ▸ e)) h
theorem w_gR (H : HS σ0 σ D N F A) {x q ci k o t : Nat} {z : Value} (hf : PP.1 μ pc = some (.getfield x, len, (q, ci, k, z))) (hD : D o ≠ 0) (ha : t_arr o = false) (hc : t_cls o = ci) (hk : Nat.blt k (t_nf ci) = true) (hd : t_kd ci k = 3) (hw : F o k = (t : Int)) (h : Ew μ d (pc + 3) ls (.ref (D t) :: st) σ c s Q) : Ew μ d pc ls (.ref (D o) :: st) σ c s Q :=
  Ew_of (fun _ e => g_R H hf hD ha hc (Nat.le_of_ble_eq_true hk) hd hw e) h
/-- a final field that refers to one thing always -/
theorem w_gT (H : HS σ0 σ D N F A) {x q ci k o t : Nat} {z : Value} (hf : PP.1 μ pc = some (.getfield x, len, (q, ci, k, z))) (hD : D o ≠ 0) (ha : t_arr o = false) (hc : t_cls o = ci) (hk : Nat.blt k (t_nf ci) = true) (hd : t_kd ci k = 3) (h1 : t_flo (t_cls o) k = (t : Int)) (h2 : t_fhi (t_cls o) k = (t : Int)) (h : Ew μ d (pc + 3) ls (.ref (D t) :: st) σ c s Q) : Ew μ d pc ls (.ref (D o) :: st) σ c s Q := by
  refine w_gR H hf hD ha hc hk hd ?_ h
  have := H.frng o k
  rw [h1, h2] at this
  omega
theorem w_pI (H : HS σ0 σ D N F A) {x q ci k o tag : Nat} {z : Int} (hf : PP.1 μ pc = some (.putfield x, len, (q, ci, k, .ref tag))) (hp : (Nat.blt tag 8 || (Nat.blt tag 16 && PP.2.2.2.1 μ)) = true) (hD : D o ≠ 0) (ha : t_arr o = false) (hc : t_cls o = ci) (hk : Nat.blt k (t_nf ci) = true) (hd : ∀ z, fv D (t_kd ci k) z = I z) (hv : rfit (tag % 8) (I z) = true) (h1 : t_flo ci k ≤ z ∧ z ≤ t_fhi ci k)
    (h : ∀ σ, HS σ0 σ D N (updF F o k z) A → Ew μ d (pc + 3) ls st σ c s Q) : Ew μ d pc ls (I z :: .ref (D o) :: st) σ c s Q := by
  subst hc
  have e := HS_put H (z := z) (k := k) hD ha h1.1 h1.2
  rw [hd] at e
  obtain ⟨v, σₚ, cₚ, sₚ, h, q⟩ := h _ e
  exact ⟨v, σₚ, cₚ, sₚ, x_putfield hf hp (H.obj o hD ha) (by have := Nat.le_of_ble_eq_true hk; simp; omega) (H.lo o hD) hv h, q⟩
theorem w_pJ (H : HS σ0 σ D N F A) {x q ci k o tag : Nat} {z : Int} (hf : PP.1 μ pc = some (.putfield x, len, (q, ci, k, .ref tag))) (hp : (Nat.blt tag 8 || (Nat.blt tag 16 && PP.2.2.2.1 μ)) = true) (hD : D o ≠ 0) (ha : t_arr o = false) (hc : t_cls o = ci) (hk : Nat.blt k (t_nf ci) = true) (hd : ∀ z, fv D (t_kd ci k) z = J z) (hv : rfit (tag % 8) (J z) = true) (h1 : t_flo ci k ≤ z ∧ z ≤ t_fhi ci k)
    (h : ∀ σ, HS σ0 σ D N (updF F o k z) A → Ew μ d (pc + 3) ls st σ c s Q) : Ew μ d pc ls (J z :: .ref (D o) :: st) σ c s Q := by
  subst hc
  have e := HS_put H (z := z) (k := k) hD ha h1.1 h1.2
  rw [hd] at e
  obtain ⟨v, σₚ, cₚ, sₚ, h, q⟩ := h _ e
  exact ⟨v, σₚ, cₚ, sₚ, x_putfield hf hp (H.obj o hD ha) (by have := Nat.le_of_ble_eq_true hk; simp; omega) (H.lo o hD) hv h, q⟩
theorem w_lI (H : HS σ0 σ D N F A) {o n : Nat} {j : Int} (hf : PP.1 μ pc = some (.iaload, len, act)) (hD : D o ≠ 0) (ha : t_arr o = true) (hk : t_ak o = 1) (hn : N o = n) (h0 : 0 ≤ j ∧ j < n) (hm : n ≤ 1000000) (h : ∀ v, A o j = v → t_alo o ≤ v ∧ v ≤ t_ahi o → Ew μ d (pc + 1) ls (I v :: st) σ c s Q) : Ew μ d pc ls (I j :: .ref (D o) :: st) σ c s Q :=
  Ew_of (fun _ e => l_I H hf hD ha hk h0.1 (by rw [hn]; exact h0.2) (by omega) e) (h _ rfl (H.arng o j))
theorem w_sI (H : HS σ0 σ D N F A) {o n : Nat} {j z : Int} (hf : PP.1 μ pc = some (.iastore, len, act)) (hD : D o ≠ 0) (ha : t_arr o = true) (hk : t_ak o = 1) (hn : N o = n) (h0 : 0 ≤ j ∧ j < n) (hm : n ≤ 1000000) (h1 : t_alo o ≤ z ∧ z ≤ t_ahi o)
    (h : ∀ σ, HS σ0 σ D N F (updA A o j z) → Ew μ d (pc + 1) ls st σ c s Q) : Ew μ d pc ls (I z :: I j :: .ref (D o) :: st) σ c s Q := by
  obtain ⟨dv, ov, q1, q2⟩ := H.arr o hD ha
  have e := HS_sto H (j := j.toNat) (z := z) hD ha h1.1 h1.2 q1 q2
  rw [hk, Int.toNat_of_nonneg h0.1] at e
  obtain ⟨v, σₚ, cₚ, sₚ, h, q⟩ := h _ e
  rw [hk] at q1
  exact ⟨v, σₚ, cₚ, sₚ, x_iastore hf q1 (ofI_nn h0.1 (by omega)) (ofI_nat h0.1 (by omega)) (by omega) (H.lo o hD) h, q⟩
theorem w_ret (hf : PP.1 μ pc = some (.return_, len, act)) (h : Q none σ c s) : Ew μ d pc ls [] σ c s Q := ⟨_, _, _, _, x_return hf, h⟩
theorem w_ireturn {z : Int} (hf : PP.1 μ pc = some (.ireturn, len, act)) (h : Q (some (I z)) σ c s) : Ew μ d pc ls [I z] σ c s Q := ⟨_, _, _, _, x_ireturn hf, h⟩
theorem w_lreturn {z : Int} (hf : PP.1 μ pc = some (.lreturn, len, act)) (h : Q (some (J z)) σ c s) : Ew μ d pc ls [J z] σ c s Q := ⟨_, _, _, _, x_lreturn hf, h⟩
theorem w_call {μ' n q : Nat} {ci : Value} {i : Instr} {vs rest : List Value} {Q' : wQ} (hf : PP.1 μ pc = some (i, len, (q, μ', n, ci)))
    (hi : ∀ rec : rF, rinstr PP rec μ (d + 1) pc ls st σ 0 [] c s i len (q, μ', n, ci) = rcall PP.2.1 PP.2.2.1 PP.2.2.2.2.2.2.2 rec μ (d + 1) pc ls μ' vs rest σ 0 [] c s)
    (hw : (Nat.ble (rwords rest) 8 && Nat.ble (rwords vs) (PP.2.1 μ')) = true) (h1 : Ew μ' d 0 (rargs 0 vs) [] σ 0 0 Q')
    (h : ∀ v σₚ cₚ sₚ, Q' v σₚ cₚ sₚ → rretok (PP.2.2.1 μ') v = true ∧ Ew μ (d + 1) (pc + 3) ls (v.toList ++ rest) σₚ (c + cₚ) (s + sₚ) Q) : Ew μ (d + 1) pc ls st σ c s Q := by
  obtain ⟨v, σₚ, cₚ, sₚ, e, q⟩ := h1
  obtain ⟨hr, v2, σ2, c2, s2, e2, q2⟩ := h v σₚ cₚ sₚ q
  exact ⟨v2, σ2, c2, s2, x_call rfl hf hi hw hr e e2, q2⟩
theorem rcmp_eq {a b : Int} (ha : inr a) (hb : inr b) : rcmp (rcond .eq) (Int32.ofInt a) (Int32.ofInt b) = decide (a = b) := by
  show (decide (Int32.ofInt a = Int32.ofInt b)) = _
  exact decide_eq_decide.mpr (ofI_eq ha.1 ha.2 hb.1 hb.2)
theorem w_icmpeq {a b off : Int} {t : Nat} (hf : PP.1 μ pc = some (.if_icmp .eq off, len, act)) (ht : (pc : Int) + off = Int.ofNat t) (ha : inr a) (hb : inr b) (h1 : a = b → Ew μ d t ls st σ c s Q) (h2 : a ≠ b → Ew μ d (pc + 3) ls st σ c s Q) : Ew μ d pc ls (I b :: I a :: st) σ c s Q := by
  by_cases hc : a = b
  · exact Ew_of (fun _ e => x_icmp_t hf ht (by rw [rcmp_eq ha hb]; exact decide_eq_true hc) e) (h1 hc)
  · exact Ew_of (fun _ e => x_icmp_f hf ht (by rw [rcmp_eq ha hb]; exact decide_eq_false hc) e) (h2 (by omega))
theorem w_ifeq {a off : Int} {t : Nat} (hf : PP.1 μ pc = some (.ifCond .eq off, len, act)) (ht : (pc : Int) + off = Int.ofNat t) (ha : inr a) (h1 : a = 0 → Ew μ d t ls st σ c s Q) (h2 : a ≠ 0 → Ew μ d (pc + 3) ls st σ c s Q) : Ew μ d pc ls (I a :: st) σ c s Q := by
  have hz : (0 : Int32) = Int32.ofInt 0 := rfl
  by_cases hc : a = 0
  · exact Ew_of (fun _ e => x_ifc_t hf ht (by rw [hz, rcmp_eq ha (by omega)]; exact decide_eq_true hc) e) (h1 hc)
  · exact Ew_of (fun _ e => x_ifc_f hf ht (by rw [hz, rcmp_eq ha (by omega)]; exact decide_eq_false hc) e) (h2 (by omega))
theorem rcmp_ne {a b : Int} (ha : inr a) (hb : inr b) : rcmp (rcond .ne) (Int32.ofInt a) (Int32.ofInt b) = decide (a ≠ b) := by
  show (!(decide (Int32.ofInt a = Int32.ofInt b))) = _
  by_cases h : a = b
  · rw [h]; simp
  · rw [decide_eq_false (fun q => h ((ofI_eq ha.1 ha.2 hb.1 hb.2).mp q)), decide_eq_true h]; rfl
theorem w_icmpne {a b off : Int} {t : Nat} (hf : PP.1 μ pc = some (.if_icmp .ne off, len, act)) (ht : (pc : Int) + off = Int.ofNat t) (ha : inr a) (hb : inr b) (h1 : a ≠ b → Ew μ d t ls st σ c s Q) (h2 : a = b → Ew μ d (pc + 3) ls st σ c s Q) : Ew μ d pc ls (I b :: I a :: st) σ c s Q := by
  by_cases hc : a ≠ b
  · exact Ew_of (fun _ e => x_icmp_t hf ht (by rw [rcmp_ne ha hb]; exact decide_eq_true hc) e) (h1 hc)
  · exact Ew_of (fun _ e => x_icmp_f hf ht (by rw [rcmp_ne ha hb]; exact decide_eq_false hc) e) (h2 (by omega))
theorem w_ifne {a off : Int} {t : Nat} (hf : PP.1 μ pc = some (.ifCond .ne off, len, act)) (ht : (pc : Int) + off = Int.ofNat t) (ha : inr a) (h1 : a ≠ 0 → Ew μ d t ls st σ c s Q) (h2 : a = 0 → Ew μ d (pc + 3) ls st σ c s Q) : Ew μ d pc ls (I a :: st) σ c s Q := by
  have hz : (0 : Int32) = Int32.ofInt 0 := rfl
  by_cases hc : a ≠ 0
  · exact Ew_of (fun _ e => x_ifc_t hf ht (by rw [hz, rcmp_ne ha (by omega)]; exact decide_eq_true hc) e) (h1 hc)
  · exact Ew_of (fun _ e => x_ifc_f hf ht (by rw [hz, rcmp_ne ha (by omega)]; exact decide_eq_false hc) e) (h2 (by omega))
theorem rcmp_lt {a b : Int} (ha : inr a) (hb : inr b) : rcmp (rcond .lt) (Int32.ofInt a) (Int32.ofInt b) = decide (a < b) := by
  show (decide (Int32.ofInt a < Int32.ofInt b)) = _
  exact decide_eq_decide.mpr (ofI_lt ha.1 ha.2 hb.1 hb.2)
theorem w_icmplt {a b off : Int} {t : Nat} (hf : PP.1 μ pc = some (.if_icmp .lt off, len, act)) (ht : (pc : Int) + off = Int.ofNat t) (ha : inr a) (hb : inr b) (h1 : a < b → Ew μ d t ls st σ c s Q) (h2 : b ≤ a → Ew μ d (pc + 3) ls st σ c s Q) : Ew μ d pc ls (I b :: I a :: st) σ c s Q := by
  by_cases hc : a < b
  · exact Ew_of (fun _ e => x_icmp_t hf ht (by rw [rcmp_lt ha hb]; exact decide_eq_true hc) e) (h1 hc)
  · exact Ew_of (fun _ e => x_icmp_f hf ht (by rw [rcmp_lt ha hb]; exact decide_eq_false hc) e) (h2 (by omega))
theorem w_iflt {a off : Int} {t : Nat} (hf : PP.1 μ pc = some (.ifCond .lt off, len, act)) (ht : (pc : Int) + off = Int.ofNat t) (ha : inr a) (h1 : a < 0 → Ew μ d t ls st σ c s Q) (h2 : 0 ≤ a → Ew μ d (pc + 3) ls st σ c s Q) : Ew μ d pc ls (I a :: st) σ c s Q := by
  have hz : (0 : Int32) = Int32.ofInt 0 := rfl
  by_cases hc : a < 0
  · exact Ew_of (fun _ e => x_ifc_t hf ht (by rw [hz, rcmp_lt ha (by omega)]; exact decide_eq_true hc) e) (h1 hc)
  · exact Ew_of (fun _ e => x_ifc_f hf ht (by rw [hz, rcmp_lt ha (by omega)]; exact decide_eq_false hc) e) (h2 (by omega))
theorem rcmp_ge {a b : Int} (ha : inr a) (hb : inr b) : rcmp (rcond .ge) (Int32.ofInt a) (Int32.ofInt b) = decide (b ≤ a) := by
  show (decide (Int32.ofInt b ≤ Int32.ofInt a)) = _
  exact decide_eq_decide.mpr (ofI_le hb.1 hb.2 ha.1 ha.2)
theorem w_icmpge {a b off : Int} {t : Nat} (hf : PP.1 μ pc = some (.if_icmp .ge off, len, act)) (ht : (pc : Int) + off = Int.ofNat t) (ha : inr a) (hb : inr b) (h1 : b ≤ a → Ew μ d t ls st σ c s Q) (h2 : a < b → Ew μ d (pc + 3) ls st σ c s Q) : Ew μ d pc ls (I b :: I a :: st) σ c s Q := by
  by_cases hc : b ≤ a
  · exact Ew_of (fun _ e => x_icmp_t hf ht (by rw [rcmp_ge ha hb]; exact decide_eq_true hc) e) (h1 hc)
  · exact Ew_of (fun _ e => x_icmp_f hf ht (by rw [rcmp_ge ha hb]; exact decide_eq_false hc) e) (h2 (by omega))
theorem w_ifge {a off : Int} {t : Nat} (hf : PP.1 μ pc = some (.ifCond .ge off, len, act)) (ht : (pc : Int) + off = Int.ofNat t) (ha : inr a) (h1 : 0 ≤ a → Ew μ d t ls st σ c s Q) (h2 : a < 0 → Ew μ d (pc + 3) ls st σ c s Q) : Ew μ d pc ls (I a :: st) σ c s Q := by
  have hz : (0 : Int32) = Int32.ofInt 0 := rfl
  by_cases hc : 0 ≤ a
  · exact Ew_of (fun _ e => x_ifc_t hf ht (by rw [hz, rcmp_ge ha (by omega)]; exact decide_eq_true hc) e) (h1 hc)
  · exact Ew_of (fun _ e => x_ifc_f hf ht (by rw [hz, rcmp_ge ha (by omega)]; exact decide_eq_false hc) e) (h2 (by omega))
theorem rcmp_gt {a b : Int} (ha : inr a) (hb : inr b) : rcmp (rcond .gt) (Int32.ofInt a) (Int32.ofInt b) = decide (b < a) := by
  show (decide (Int32.ofInt b < Int32.ofInt a)) = _
  exact decide_eq_decide.mpr (ofI_lt hb.1 hb.2 ha.1 ha.2)
theorem w_icmpgt {a b off : Int} {t : Nat} (hf : PP.1 μ pc = some (.if_icmp .gt off, len, act)) (ht : (pc : Int) + off = Int.ofNat t) (ha : inr a) (hb : inr b) (h1 : b < a → Ew μ d t ls st σ c s Q) (h2 : a ≤ b → Ew μ d (pc + 3) ls st σ c s Q) : Ew μ d pc ls (I b :: I a :: st) σ c s Q := by
  by_cases hc : b < a
  · exact Ew_of (fun _ e => x_icmp_t hf ht (by rw [rcmp_gt ha hb]; exact decide_eq_true hc) e) (h1 hc)
  · exact Ew_of (fun _ e => x_icmp_f hf ht (by rw [rcmp_gt ha hb]; exact decide_eq_false hc) e) (h2 (by omega))
theorem w_ifgt {a off : Int} {t : Nat} (hf : PP.1 μ pc = some (.ifCond .gt off, len, act)) (ht : (pc : Int) + off = Int.ofNat t) (ha : inr a) (h1 : 0 < a → Ew μ d t ls st σ c s Q) (h2 : a ≤ 0 → Ew μ d (pc + 3) ls st σ c s Q) : Ew μ d pc ls (I a :: st) σ c s Q := by
  have hz : (0 : Int32) = Int32.ofInt 0 := rfl
  by_cases hc : 0 < a
  · exact Ew_of (fun _ e => x_ifc_t hf ht (by rw [hz, rcmp_gt ha (by omega)]; exact decide_eq_true hc) e) (h1 hc)
  · exact Ew_of (fun _ e => x_ifc_f hf ht (by rw [hz, rcmp_gt ha (by omega)]; exact decide_eq_false hc) e) (h2 (by omega))
theorem rcmp_le {a b : Int} (ha : inr a) (hb : inr b) : rcmp (rcond .le) (Int32.ofInt a) (Int32.ofInt b) = decide (a ≤ b) := by
  show (decide (Int32.ofInt a ≤ Int32.ofInt b)) = _
  exact decide_eq_decide.mpr (ofI_le ha.1 ha.2 hb.1 hb.2)
theorem w_icmple {a b off : Int} {t : Nat} (hf : PP.1 μ pc = some (.if_icmp .le off, len, act)) (ht : (pc : Int) + off = Int.ofNat t) (ha : inr a) (hb : inr b) (h1 : a ≤ b → Ew μ d t ls st σ c s Q) (h2 : b < a → Ew μ d (pc + 3) ls st σ c s Q) : Ew μ d pc ls (I b :: I a :: st) σ c s Q := by
  by_cases hc : a ≤ b
  · exact Ew_of (fun _ e => x_icmp_t hf ht (by rw [rcmp_le ha hb]; exact decide_eq_true hc) e) (h1 hc)
  · exact Ew_of (fun _ e => x_icmp_f hf ht (by rw [rcmp_le ha hb]; exact decide_eq_false hc) e) (h2 (by omega))
theorem w_ifle {a off : Int} {t : Nat} (hf : PP.1 μ pc = some (.ifCond .le off, len, act)) (ht : (pc : Int) + off = Int.ofNat t) (ha : inr a) (h1 : a ≤ 0 → Ew μ d t ls st σ c s Q) (h2 : 0 < a → Ew μ d (pc + 3) ls st σ c s Q) : Ew μ d pc ls (I a :: st) σ c s Q := by
  have hz : (0 : Int32) = Int32.ofInt 0 := rfl
  by_cases hc : a ≤ 0
  · exact Ew_of (fun _ e => x_ifc_t hf ht (by rw [hz, rcmp_le ha (by omega)]; exact decide_eq_true hc) e) (h1 hc)
  · exact Ew_of (fun _ e => x_ifc_f hf ht (by rw [hz, rcmp_le ha (by omega)]; exact decide_eq_false hc) e) (h2 (by omega))
theorem w_iadd {a b : Int} (hf : PP.1 μ pc = some (.iadd, len, act)) (h : Ew μ d (pc + 1) ls (I (a + b) :: st) σ c s Q) : Ew μ d pc ls (I b :: I a :: st) σ c s Q :=
  Ew_of (fun _ e => x_iadd hf (by rw [Int32.ofInt_add]; rfl) e) h
theorem w_isub {a b : Int} (hf : PP.1 μ pc = some (.isub, len, act)) (h : Ew μ d (pc + 1) ls (I (a - b) :: st) σ c s Q) : Ew μ d pc ls (I b :: I a :: st) σ c s Q :=
  Ew_of (fun _ e => x_isub hf (by rw [Int32.ofInt_sub]; rfl) e) h
theorem w_imul {a b : Int} (hf : PP.1 μ pc = some (.imul, len, act)) (h : Ew μ d (pc + 1) ls (I (a * b) :: st) σ c s Q) : Ew μ d pc ls (I b :: I a :: st) σ c s Q :=
  Ew_of (fun _ e => x_imul hf (by rw [Int32.ofInt_mul]; rfl) e) h
theorem w_callk {μ' n q : Nat} {ci : Value} {i : Instr} {vs rest : List Value} (hf : PP.1 μ pc = some (i, len, (q, μ', n, ci)))
    (hi : ∀ rec : rF, rinstr PP rec μ (d + 1) pc ls st σ 0 [] c s i len (q, μ', n, ci) = rcall PP.2.1 PP.2.2.1 PP.2.2.2.2.2.2.2 rec μ (d + 1) pc ls μ' vs rest σ 0 [] c s)
    (hw : (Nat.ble (rwords rest) 8 && Nat.ble (rwords vs) (PP.2.1 μ')) = true) (h1 : Ew μ' d 0 (rargs 0 vs) [] σ 0 0 (fun v σₚ cₚ sₚ => rretok (PP.2.2.1 μ') v = true ∧ Ew μ (d + 1) (pc + 3) ls (v.toList ++ rest) σₚ (c + cₚ) (s + sₚ) Q)) : Ew μ (d + 1) pc ls st σ c s Q :=
  w_call hf hi hw h1 (fun _ _ _ _ q => q)
theorem rinvv {μ' n : Nat} {ci b x : Nat} {vs rest : List Value} {fs : List Value} {q : Nat} (hq : (Nat.beq q 20 || Nat.beq q 21) = true) (hp : rpopn n [] st = some (vs, .ref b :: rest)) (hc : rat σ b = some (.inl (ci, fs))) (rec : rF) :
    rinstr PP rec μ (d + 1) pc ls st σ 0 [] c s (.invokevirtual x) len (q, μ', n, .ref ci) = rcall PP.2.1 PP.2.2.1 PP.2.2.2.2.2.2.2 rec μ (d + 1) pc ls μ' (.ref b :: vs) rest σ 0 [] c s := by
  show (match Nat.beq q 20 || Nat.beq q 21 with | true => rinv PP.2.1 PP.2.2.1 PP.2.2.2.2.2.2.2 rec μ (d + 1) pc ls st σ 0 [] c s (q, μ', n, .ref ci) | false => none) = _
  rw [hq]
  show rinv PP.2.1 PP.2.2.1 PP.2.2.2.2.2.2.2 rec μ (d + 1) pc ls st σ 0 [] c s (q, μ', n, .ref ci) = _
  unfold rinv
  rw [show rpopn (q, μ', n, Value.ref ci).2.2.1 [] st = some (vs, .ref b :: rest) from hp]
  have h24 : Nat.ble 24 q = false := by
    simp only [Bool.or_eq_true] at hq
    rcases hq with h | h
    · rw [Nat.eq_of_beq_eq_true h]; rfl
    · rw [Nat.eq_of_beq_eq_true h]; rfl
  show (match Nat.ble 24 q with | true => _ | false => _) = _
  rw [h24]
  show rinvo PP.2.1 PP.2.2.1 PP.2.2.2.2.2.2.2 rec μ (d + 1) pc ls vs (.ref b :: rest) σ 0 [] c s (q, μ', n, .ref ci) = _
  unfold rinvo
  simp only [hc, Nat.beq_refl]
/-- a method of a thing is called -/
theorem w_inv (H : HS σ0 σ D N F A) {μ' n q x ci o : Nat} {vs rest : List Value} (hf : PP.1 μ pc = some (.invokevirtual x, len, (q, μ', n, .ref ci))) (hq : (Nat.beq q 20 || Nat.beq q 21) = true) (hp : rpopn n [] st = some (vs, .ref (D o) :: rest)) (hD : D o ≠ 0) (ha : t_arr o = false) (hc : t_cls o = ci)
    (hw : (Nat.ble (rwords rest) 8 && Nat.ble (rwords (.ref (D o) :: vs)) (PP.2.1 μ')) = true) (h1 : Ew μ' d 0 (rargs 0 (.ref (D o) :: vs)) [] σ 0 0 (fun v σₚ cₚ sₚ => rretok (PP.2.2.1 μ') v = true ∧ Ew μ (d + 1) (pc + 3) ls (v.toList ++ rest) σₚ (c + cₚ) (s + sₚ) Q)) : Ew μ (d + 1) pc ls st σ c s Q := by
  subst hc
  exact w_callk hf (fun rec => rinvv hq hp (H.obj o hD ha) rec) hw h1
theorem rstat24 {μ' n x : Nat} {ci : Value} {vs rest : List Value} (hp : rpopn n [] st = some (vs, rest)) (rec : rF) :
    rinstr PP rec μ (d + 1) pc ls st σ 0 [] c s (.invokestatic x) len (24, μ', n, ci) = rcall PP.2.1 PP.2.2.1 PP.2.2.2.2.2.2.2 rec μ (d + 1) pc ls μ' vs rest σ 0 [] c s := by
  show rinv PP.2.1 PP.2.2.1 PP.2.2.2.2.2.2.2 rec μ (d + 1) pc ls st σ 0 [] c s (24, μ', n, ci) = _
  unfold rinv
  rw [show rpopn ((24, μ', n, ci) : rA).2.2.1 [] st = some (vs, rest) from hp]
  rfl
theorem w_stat24 {μ' n x : Nat} {ci : Value} {vs rest : List Value} (hf : PP.1 μ pc = some (.invokestatic x, len, (24, μ', n, ci))) (hp : rpopn n [] st = some (vs, rest))
    (hw : (Nat.ble (rwords rest) 8 && Nat.ble (rwords vs) (PP.2.1 μ')) = true) (h1 : Ew μ' d 0 (rargs 0 vs) [] σ 0 0 (fun v σₚ cₚ sₚ => rretok (PP.2.2.1 μ') v = true ∧ Ew μ (d + 1) (pc + 3) ls (v.toList ++ rest) σₚ (c + cₚ) (s + sₚ) Q)) : Ew μ (d + 1) pc ls st σ c s Q := w_callk hf (rstat24 hp) hw h1
theorem rstat25 {μ' n x : Nat} {ci : Value} {vs rest : List Value} (hp : rpopn n [] st = some (vs, rest)) (rec : rF) :
    rinstr PP rec μ (d + 1) pc ls st σ 0 [] c s (.invokestatic x) len (25, μ', n, ci) = rcall PP.2.1 PP.2.2.1 PP.2.2.2.2.2.2.2 rec μ (d + 1) pc ls μ' vs rest σ 0 [] c s := by
  show rinv PP.2.1 PP.2.2.1 PP.2.2.2.2.2.2.2 rec μ (d + 1) pc ls st σ 0 [] c s (25, μ', n, ci) = _
  unfold rinv
  rw [show rpopn ((25, μ', n, ci) : rA).2.2.1 [] st = some (vs, rest) from hp]
  rfl
theorem w_stat25 {μ' n x : Nat} {ci : Value} {vs rest : List Value} (hf : PP.1 μ pc = some (.invokestatic x, len, (25, μ', n, ci))) (hp : rpopn n [] st = some (vs, rest))
    (hw : (Nat.ble (rwords rest) 8 && Nat.ble (rwords vs) (PP.2.1 μ')) = true) (h1 : Ew μ' d 0 (rargs 0 vs) [] σ 0 0 (fun v σₚ cₚ sₚ => rretok (PP.2.2.1 μ') v = true ∧ Ew μ (d + 1) (pc + 3) ls (v.toList ++ rest) σₚ (c + cₚ) (s + sₚ) Q)) : Ew μ (d + 1) pc ls st σ c s Q := w_callk hf (rstat25 hp) hw h1
def SF (l : List (Nat × Nat)) (F Fₚ : hF) : Prop := ∀ o k, l.any (fun q => Nat.beq q.1 o && Nat.beq q.2 k) = false → Fₚ o k = F o k
def SA (l : List Nat) (A Aₚ : hA) : Prop := ∀ o, l.any (fun q => Nat.beq q o) = false → ∀ i, Aₚ o i = A o i
theorem SF_refl {l : List (Nat × Nat)} {F : hF} : SF l F F := fun _ _ _ => rfl
theorem SA_refl {l : List Nat} {A : hA} : SA l A A := fun _ _ _ => rfl
theorem SF_upd {l : List (Nat × Nat)} {F Fₚ : hF} {o k : Nat} {z : Int} (h : SF l F Fₚ) (hm : l.any (fun q => Nat.beq q.1 o && Nat.beq q.2 k) = true) : SF l F (updF Fₚ o k z) := by
  intro o' kₚ hn
  show (bif Nat.beq o' o && Nat.beq kₚ k then z else Fₚ o' kₚ) = _
  cases hb : (Nat.beq o' o && Nat.beq kₚ k) with
  | false => exact h o' kₚ hn
  | true =>
    rw [Bool.and_eq_true] at hb
    rw [Nat.eq_of_beq_eq_true hb.1, Nat.eq_of_beq_eq_true hb.2, hm] at hn
    cases hn
theorem SA_upd {l : List Nat} {A Aₚ : hA} {o : Nat} {j z : Int} (h : SA l A Aₚ) (hm : l.any (fun q => Nat.beq q o) = true) : SA l A (updA Aₚ o j z) := by
  intro o' hn i
  show (bif Nat.beq o' o then (if i = j then z else Aₚ o i) else Aₚ o' i) = _
  cases hb : Nat.beq o' o with
  | false => exact h o' hn i
  | true =>
    rw [Nat.eq_of_beq_eq_true hb, hm] at hn
    cases hn
theorem SF_trans {l lₚ : List (Nat × Nat)} {F Fₚ F'' : hF} (h : SF l F Fₚ) (h' : SF lₚ Fₚ F'') (hl : ∀ o k, l.any (fun q => Nat.beq q.1 o && Nat.beq q.2 k) = false → lₚ.any (fun q => Nat.beq q.1 o && Nat.beq q.2 k) = false) : SF l F F'' := fun o k hn => (h' o k (hl o k hn)).trans (h o k hn)
theorem SA_trans {l lₚ : List Nat} {A Aₚ A'' : hA} (h : SA l A Aₚ) (h' : SA lₚ Aₚ A'') (hl : ∀ o, l.any (fun q => Nat.beq q o) = false → lₚ.any (fun q => Nat.beq q o) = false) : SA l A A'' := fun o hn i => (h' o (hl o hn) i).trans (h o hn i)
theorem any_sub {l lₚ : List (Nat × Nat)} (h : lₚ.all (fun p => l.any (fun q => Nat.beq q.1 p.1 && Nat.beq q.2 p.2)) = true) : ∀ o k, l.any (fun q => Nat.beq q.1 o && Nat.beq q.2 k) = false → lₚ.any (fun q => Nat.beq q.1 o && Nat.beq q.2 k) = false := by
  intro o k hn
  cases hb : lₚ.any (fun q => Nat.beq q.1 o && Nat.beq q.2 k) with
  | false => rfl
  | true =>
    obtain ⟨p, hp, hq⟩ := List.any_eq_true.mp hb
    rw [Bool.and_eq_true] at hq
    have := List.all_eq_true.mp h p hp
    rw [Nat.eq_of_beq_eq_true hq.1, Nat.eq_of_beq_eq_true hq.2, hn] at this
    cases this
theorem any_subA {l lₚ : List Nat} (h : lₚ.all (fun p => l.any (fun q => Nat.beq q p)) = true) : ∀ o, l.any (fun q => Nat.beq q o) = false → lₚ.any (fun q => Nat.beq q o) = false := by
  intro o hn
  cases hb : lₚ.any (fun q => Nat.beq q o) with
  | false => rfl
  | true =>
    obtain ⟨p, hp, hq⟩ := List.any_eq_true.mp hb
    have := List.all_eq_true.mp h p hp
    rw [Nat.eq_of_beq_eq_true hq, hn] at this
    cases this
theorem rfit_b {z : Int} (h : z = 0 ∨ z = 1) : rfit 1 (I z) = true := by
  rcases h with rfl | rfl <;> rfl
theorem rretB {m : Nat} {z : Int} (hm : PP.2.2.1 m = 1) (h : z = 0 ∨ z = 1) : rretok (PP.2.2.1 m) (some (I z)) = true := by
  rw [hm]
  rcases h with rfl | rfl <;> rfl
end EW
