/-! null in locals; new int[3][n] -/
section XN
variable {P : rP} {μ d pc c s : Nat} {ls : rO} {st : List Value} {σ : rS} {r : rT} {len : Nat} {act : rA}
theorem x_aloadN {i : Nat} (hf : P.1 μ pc = some (.aload i, len, act)) (hl : rlook ls i = some .null) (h : Ev P μ d (pc + 2) ls (.null :: st) σ c s r) : Ev P μ d pc ls st σ c s r := by
  obtain ⟨n0, h⟩ := h
  refine Ev_of hf (n0 := n0) (fun n hn => ?_)
  show rload ls i risR (fun v => rn (pc + 2) (fun pcₚ => rrun P n μ d pcₚ ls (v :: st) σ 0 [] c s)) = _
  unfold rload
  rw [hl]
  show rn (pc + 2) (fun pcₚ => rrun P n μ d pcₚ ls (.null :: st) σ 0 [] c s) = _
  rw [rn_eq]
  exact h n hn
theorem x_astoreN {i : Nat} (hf : P.1 μ pc = some (.astore i, len, act)) (h : Ev P μ d (pc + 2) (rset ls i .null) st σ c s r) : Ev P μ d pc ls (.null :: st) σ c s r := by
  obtain ⟨n0, h⟩ := h
  refine Ev_of hf (n0 := n0) (fun n hn => ?_)
  show rn (pc + 2) (fun pcₚ => rrun P n μ d pcₚ (rset ls i .null) st σ 0 [] c s) = _
  rw [rn_eq]
  exact h n hn
theorem x_aload_nN {i : Fin 4} (hf : P.1 μ pc = some (.aload_n i, len, act)) (hl : rlook ls i = some .null) (h : Ev P μ d (pc + 1) ls (.null :: st) σ c s r) : Ev P μ d pc ls st σ c s r := by
  obtain ⟨n0, h⟩ := h
  refine Ev_of hf (n0 := n0) (fun n hn => ?_)
  show rload ls i risR (fun v => rn (pc + 1) (fun pcₚ => rrun P n μ d pcₚ ls (v :: st) σ 0 [] c s)) = _
  unfold rload
  rw [hl]
  show rn (pc + 1) (fun pcₚ => rrun P n μ d pcₚ ls (.null :: st) σ 0 [] c s) = _
  rw [rn_eq]
  exact h n hn
theorem x_astore_nN {i : Fin 4} (hf : P.1 μ pc = some (.astore_n i, len, act)) (h : Ev P μ d (pc + 1) (rset ls i .null) st σ c s r) : Ev P μ d pc ls (.null :: st) σ c s r := by
  obtain ⟨n0, h⟩ := h
  refine Ev_of hf (n0 := n0) (fun n hn => ?_)
  show rn (pc + 1) (fun pcₚ => rrun P n μ d pcₚ (rset ls i .null) st σ 0 [] c s) = _
  rw [rn_eq]
  exact h n hn
theorem x_multi {n : Int} {ix dm : _} (hf : P.1 μ pc = some (.multianewarray ix dm, len, act)) (h0 : 0 ≤ n) (h1 : n ≤ 1000000) (h : Ev P μ d (pc + 4) ls (.ref σ.length :: st) (σ ++ [.inr (7, 3, .null, [(0, .ref (σ.length + 1)), (1, .ref (σ.length + 2)), (2, .ref (σ.length + 3))]), .inr (1, n.toNat, .int 0, []), .inr (1, n.toNat, .int 0, []), .inr (1, n.toNat, .int 0, [])]) (c + 4) (s + (3 + 3 * n.toNat)) r) : Ev P μ d pc ls (I n :: I 3 :: st) σ c s r := by
  obtain ⟨n0, h⟩ := h
  refine Ev_of hf (n0 := n0) (fun m hm => ?_)
  show (match !(decide (Int32.ofInt n < 0)) && decide (Int32.ofInt 3 = 3) with
      | true => rn (Int32.ofInt n).toNatClampNeg (fun x => match Nat.ble x 1000000 with
        | true => rn σ.length (fun k => rn (pc + 4) (fun pcₚ => rrun P m μ d pcₚ ls (.ref k :: st) (σ ++ ([.inr (7, 3, .null, [(0, .ref (k + 1)), (1, .ref (k + 2)), (2, .ref (k + 3))]), .inr (1, x, .int 0, []), .inr (1, x, .int 0, []), .inr (1, x, .int 0, [])] : rS)) 0 [] (c + 4) (s + (3 + 3 * x))))
        | false => none)
      | false => none) = _
  rw [ofI_nn h0 (by omega), show (!false && decide (Int32.ofInt 3 = 3)) = true from by decide]
  show rn (Int32.ofInt n).toNatClampNeg _ = _
  rw [rn_eq, ofI_nat h0 (by omega)]
  show (match Nat.ble n.toNat 1000000 with | true => _ | false => _) = _
  rw [show Nat.ble n.toNat 1000000 = true from Nat.ble_eq.mpr (by omega)]
  show rn σ.length _ = _
  rw [rn_eq]
  show rn (pc + 4) _ = _
  rw [rn_eq]
  exact h m hm
end XN
theorem rat_apps {σ l : rS} {a : Nat} (h : a < σ.length) : rat (σ ++ l) a = rat σ a := by
  rw [rat_eq, rat_eq, List.getElem?_append_left h]
theorem OUT_multi {V : vV} {σ : rS} {D N : Nat → Nat} {t a b e n c s : Nat} {l : rS} (ht : t < V.length) (ha : a < V.length) (hb : b < V.length) (he : e < V.length) (hd : t ≠ a ∧ t ≠ b ∧ t ≠ e ∧ a ≠ b ∧ a ≠ e ∧ b ≠ e) (h3 : N t = 3)
    (hA : pC (N a) + 2 ≤ pC n ∧ pS (N a) + n + 1 ≤ pS n) (hB : pC (N b) + 2 ≤ pC n ∧ pS (N b) + n + 1 ≤ pS n) (hE : pC (N e) + 2 ≤ pC n ∧ pS (N e) + n + 1 ≤ pS n) :
    OUT V.length D N σ c s (updN (updN (updN (updN D t σ.length) a (σ.length + 1)) b (σ.length + 2)) e (σ.length + 3)) (updN (updN (updN (updN N t 3) a n) b n) e n) (σ ++ l) (c + 4) (s + (3 + 3 * n)) := by
  obtain ⟨d1, d2, d3, d4, d5, d6⟩ := hd
  refine ⟨fun x hx hn => rat_apps hx, ?_, fun x hx => ?_, ?_, ?_⟩
  · rw [List.length_append]; omega
  · by_cases q : x = e
    · rw [q, updN_s]; exact .inr (by omega)
    · rw [updN_o q]
      by_cases q : x = b
      · rw [q, updN_s]; exact .inr (by omega)
      · rw [updN_o q]
        by_cases q : x = a
        · rw [q, updN_s]; exact .inr (by omega)
        · rw [updN_o q]
          by_cases q : x = t
          · rw [q, updN_s]; exact .inr (by omega)
          · rw [updN_o q]; exact .inl rfl
  · have w1 := vs_at (g := fun x => pC (updN N t 3 x)) (h := fun x => pC (N x)) ht (fun y _ e => by rw [updN_o e])
    have w2 := vs_at (g := fun x => pC (updN (updN N t 3) a n x)) (h := fun x => pC (updN N t 3 x)) ha (fun y _ e => by rw [updN_o e])
    have w3 := vs_at (g := fun x => pC (updN (updN (updN N t 3) a n) b n x)) (h := fun x => pC (updN (updN N t 3) a n x)) hb (fun y _ e => by rw [updN_o e])
    have w4 := vs_at (g := fun x => pC (updN (updN (updN (updN N t 3) a n) b n) e n x)) (h := fun x => pC (updN (updN (updN N t 3) a n) b n x)) he (fun y _ e => by rw [updN_o e])
    simp only [updN_s, updN_o d1.symm, updN_o d2.symm, updN_o d3.symm, updN_o d4.symm, updN_o d5.symm, updN_o d6.symm, h3] at w1 w2 w3 w4
    omega
  · have w1 := vs_at (g := fun x => pS (updN N t 3 x)) (h := fun x => pS (N x)) ht (fun y _ e => by rw [updN_o e])
    have w2 := vs_at (g := fun x => pS (updN (updN N t 3) a n x)) (h := fun x => pS (updN N t 3 x)) ha (fun y _ e => by rw [updN_o e])
    have w3 := vs_at (g := fun x => pS (updN (updN (updN N t 3) a n) b n x)) (h := fun x => pS (updN (updN N t 3) a n x)) hb (fun y _ e => by rw [updN_o e])
    have w4 := vs_at (g := fun x => pS (updN (updN (updN (updN N t 3) a n) b n) e n x)) (h := fun x => pS (updN (updN (updN N t 3) a n) b n x)) he (fun y _ e => by rw [updN_o e])
    simp only [updN_s, updN_o d1.symm, updN_o d2.symm, updN_o d3.symm, updN_o d4.symm, updN_o d5.symm, updN_o d6.symm, h3] at w1 w2 w3 w4
    omega
theorem grow_ok2 {m n : Int} (h0 : 0 ≤ m) (h1 : m < n) (hm : lgq m = 0) (hn : lgq n = 0) : pC m.toNat + 1 ≤ pC n.toNat ∧ pS m.toNat + n ≤ pS n.toNat ∧ pC m.toNat + 2 ≤ pC n.toNat ∧ pS m.toNat + n + 1 ≤ pS n.toNat := by
  have a := lgq_i hm
  have b := lgq_i hn
  unfold pC pS
  rcases a with a | a | a | a | a | a <;> rcases b with b | b | b | b | b | b <;> first | omega | (subst a b; decide)
section VMU
variable {V : vV} {σ : rS} {D N : Nat → Nat} {F : hF} {A : hA} {μ d pc c s : Nat} {ls : rO} {st : List Value} {Q : wQ} {len : Nat} {act : rA}
def mu3 (L : Nat) : Int → Int := fun i => if i = 0 then ((L + 1 : Nat) : Int) else if i = 1 then ((L + 2 : Nat) : Int) else if i = 2 then ((L + 3 : Nat) : Int) else -1
theorem mu3_0 {L : Nat} : mu3 L 0 = ((L + 1 : Nat) : Int) := by unfold mu3; rw [if_pos rfl]
theorem mu3_1 {L : Nat} : mu3 L 1 = ((L + 2 : Nat) : Int) := by unfold mu3; rw [if_neg (by decide), if_pos rfl]
theorem mu3_2 {L : Nat} : mu3 L 2 = ((L + 3 : Nat) : Int) := by unfold mu3; rw [if_neg (by decide), if_neg (by decide), if_pos rfl]
theorem mu3_o {L : Nat} {i : Int} (h : i ≠ 0 ∧ i ≠ 1 ∧ i ≠ 2) : mu3 L i = -1 := by unfold mu3; rw [if_neg h.1, if_neg h.2.1, if_neg h.2.2]
theorem mu3_lk {L j : Nat} : rlk [(0, .ref (L + 1)), (1, .ref (L + 2)), (2, .ref (L + 3))] .null j = va 7 (mu3 L j) := by
  rw [va4 rfl]
  match j with
  | 0 => rw [show ((0 : Nat) : Int) = 0 from rfl, mu3_0, vrf rfl]; rfl
  | 1 => rw [show ((1 : Nat) : Int) = 1 from rfl, mu3_1, vrf rfl]; rfl
  | 2 => rw [show ((2 : Nat) : Int) = 2 from rfl, mu3_2, vrf rfl]; rfl
  | j + 3 => rw [mu3_o (by omega)]; rfl
theorem mu3_rng {L : Nat} {i : Int} : arng 7 (mu3 L i) := by
  rw [arng4 rfl]
  unfold mu3
  repeat' split
  all_goals omega
theorem v_multi (H : HW V σ D N F A) {y q ci2 len2 p k t a b e tag : Nat} {ix dm : _} {n m0 m1 m2 : Int} (hf : PP.1 μ pc = some (.multianewarray ix dm, len, act)) (hf2 : PP.1 μ (pc + 4) = some (.putfield y, len2, (q, ci2, k, .ref tag))) (hp : (Nat.blt tag 8 || (Nat.blt tag 16 && PP.2.2.2.1 μ)) = true) (hfit : ∀ v, rfit (tag % 8) (.ref v) = true)
    (ho : Nat.blt p V.length = true) (ha : varr V p = false) (hc : vcls V p = ci2) (hk : Nat.blt k (vnf V p) = true) (hv : ∀ z : Nat, vf D (vfd V p k) z = .ref z) (hkr : (vfd V p k).1 = 4) (ht : Nat.blt t V.length = true) (hta : varr V t = true) (htk : vak V t = 7) (h3 : v3 V t = true)
    (hA : Nat.blt a V.length = true) (hAa : varr V a = true) (hAk : vak V a = 1) (hA3 : v3 V a = true) (hB : Nat.blt b V.length = true) (hBa : varr V b = true) (hBk : vak V b = 1) (hB3 : v3 V b = true) (hE : Nat.blt e V.length = true) (hEa : varr V e = true) (hEk : vak V e = 1) (hE3 : v3 V e = true)
    (hd : t ≠ a ∧ t ≠ b ∧ t ≠ e ∧ a ≠ b ∧ a ≠ e ∧ b ≠ e ∧ p ≠ t ∧ p ≠ a ∧ p ≠ b ∧ p ≠ e) (hN : (N t : Int) = 3) (hm0 : (N a : Int) = m0) (hm1 : (N b : Int) = m1) (hm2 : (N e : Int) = m2) (hn : 0 ≤ n ∧ n ≤ 1000000)
    (hC0 : pC m0.toNat + 2 ≤ pC n.toNat ∧ pS m0.toNat + n + 1 ≤ pS n.toNat) (hC1 : pC m1.toNat + 2 ≤ pC n.toNat ∧ pS m1.toNat + n + 1 ≤ pS n.toNat) (hC2 : pC m2.toNat + 2 ≤ pC n.toNat ∧ pS m2.toNat + n + 1 ≤ pS n.toNat)
    (h : ∀ σₚ Dₚ Nₚ Fₚ Aₚ, HW V σₚ Dₚ Nₚ Fₚ Aₚ → OUT V.length D N σ c s Dₚ Nₚ σₚ (c + 4) (s + (3 + 3 * n.toNat)) → SD [t, a, b, e] D Dₚ → SD [t, a, b, e] N Nₚ → (Nₚ t : Int) = 3 → (Nₚ a : Int) = n → (Nₚ b : Int) = n → (Nₚ e : Int) = n → SF [(p, k)] F Fₚ → Fₚ p k = (Dₚ t : Int) → SA [t, a, b, e] A Aₚ → Aₚ t 0 = (Dₚ a : Int) → Aₚ t 1 = (Dₚ b : Int) → Aₚ t 2 = (Dₚ e : Int) → Ew μ d (pc + 7) ls st σₚ (c + 4) (s + (3 + 3 * n.toNat)) Q) : Ew μ d pc ls (I n :: I 3 :: .ref (D p) :: st) σ c s Q := by
  subst hc hm0 hm1 hm2
  have ht := blt_of ht
  have hA := blt_of hA
  have hB := blt_of hB
  have hE := blt_of hE
  obtain ⟨d1, d2, d3, d4, d5, d6, d7, d8, d9, d10⟩ := hd
  refine Ew_ofc (fun _ e => x_multi hf hn.1 hn.2 e) ?_
  have e1 := HW_ret H (n := 3) (dv := .null) (ov := [(0, .ref (σ.length + 1)), (1, .ref (σ.length + 2)), (2, .ref (σ.length + 3))]) (f := mu3 σ.length) ht hta h3 (by omega) (fun j => by rw [htk]; exact mu3_lk) (fun i => by rw [htk]; exact mu3_rng)
  have e2 := HW_ret e1 (n := n.toNat) (dv := .int 0) (ov := []) (f := fun _ => 0) hA hAa hA3 (by omega) (fun j => by rw [hAk]; rfl) (fun i => by rw [hAk]; exact ⟨by decide, by decide⟩)
  have e3 := HW_ret e2 (n := n.toNat) (dv := .int 0) (ov := []) (f := fun _ => 0) hB hBa hB3 (by omega) (fun j => by rw [hBk]; rfl) (fun i => by rw [hBk]; exact ⟨by decide, by decide⟩)
  have e4 := HW_ret e3 (n := n.toNat) (dv := .int 0) (ov := []) (f := fun _ => 0) hE hEa hE3 (by omega) (fun j => by rw [hEk]; rfl) (fun i => by rw [hEk]; exact ⟨by decide, by decide⟩)
  rw [htk, hAk, hBk, hEk] at e4
  simp only [List.length_append, List.length_cons, List.length_nil, List.append_assoc, List.cons_append, List.nil_append, Nat.zero_add] at e4
  rw [show σ.length + 1 + 1 = σ.length + 2 from rfl, show σ.length + (1 + 1) = σ.length + 2 from rfl] at e4
  have oo := OUT_multi (V := V) (σ := σ) (D := D) (N := N) (t := t) (a := a) (b := b) (e := e) (n := n.toNat) (c := c) (s := s) (l := [.inr (7, 3, .null, [(0, .ref (σ.length + 1)), (1, .ref (σ.length + 2)), (2, .ref (σ.length + 3))]), .inr (1, n.toNat, .int 0, []), .inr (1, n.toNat, .int 0, []), .inr (1, n.toNat, .int 0, [])]) ht hA hB hE ⟨d1, d2, d3, d4, d5, d6⟩ (by omega)
    (by rw [Int.toNat_natCast] at hC0; omega) (by rw [Int.toNat_natCast] at hC1; omega) (by rw [Int.toNat_natCast] at hC2; omega)
  have eD : updN (updN (updN (updN D t σ.length) a (σ.length + 1)) b (σ.length + 2)) e (σ.length + 3) p = D p := by rw [updN_o d10, updN_o d9, updN_o d8, updN_o d7]
  rw [← eD]
  refine v_p e4 hf2 hp ho ha rfl hk (z := (σ.length : Int)) ?_ (hfit _) (by rw [hkr]; show (-1 : Int) ≤ _; omega) (fun σₚ Hₚ Oₚ => ?_)
  · have := hv σ.length
    have w : vf (updN (updN (updN (updN D t σ.length) a (σ.length + 1)) b (σ.length + 2)) e (σ.length + 3)) (vfd V p k) (σ.length : Int) = vf D (vfd V p k) (σ.length : Int) := vf_eq rfl (fun h => by rw [hkr] at h; cases h)
    exact w.trans this
  · have an : ∀ x, [t, a, b, e].any (fun q => Nat.beq q x) = false → x ≠ t ∧ x ≠ a ∧ x ≠ b ∧ x ≠ e := fun x hx => by
      refine ⟨fun w => ?_, fun w => ?_, fun w => ?_, fun w => ?_⟩ <;> (subst w; simp at hx)
    refine h σₚ _ _ _ _ Hₚ (OUT_trans oo Oₚ) (fun x hx => ?_) (fun x hx => ?_) ?_ ?_ ?_ ?_ (SF_upd SF_refl (by show (Nat.beq p p && Nat.beq k k || false) = true; rw [Nat.beq_refl, Nat.beq_refl]; rfl)) ?_ (fun x hx i => ?_) ?_ ?_ ?_
    · have w := an x hx; rw [updN_o w.2.2.2, updN_o w.2.2.1, updN_o w.2.1, updN_o w.1]
    · have w := an x hx; rw [updN_o w.2.2.2, updN_o w.2.2.1, updN_o w.2.1, updN_o w.1]
    · rw [updN_o d3, updN_o d2, updN_o d1, updN_s]; rfl
    · rw [updN_o d5, updN_o d4, updN_s]; omega
    · rw [updN_o d6, updN_s]; omega
    · rw [updN_s]; omega
    · rw [updN_o d3, updN_o d2, updN_o d1, updN_s]; show (bif Nat.beq p p && Nat.beq k k then (σ.length : Int) else F p k) = _; rw [Nat.beq_refl, Nat.beq_refl]; rfl
    · have w := an x hx; rw [updR_o w.2.2.2, updR_o w.2.2.1, updR_o w.2.1, updR_o w.1]
    · rw [updR_o d3, updR_o d2, updR_o d1, updR_s, updN_o d5, updN_o d4, updN_s]; exact mu3_0
    · rw [updR_o d3, updR_o d2, updR_o d1, updR_s, updN_o d6, updN_s]; exact mu3_1
    · rw [updR_o d3, updR_o d2, updR_o d1, updR_s, updN_s]; exact mu3_2
end VMU
