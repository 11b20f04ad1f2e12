/-! arrays that grow: Arrays.copyOf and the field that takes it -/
section XG
variable {P : rP} {μ d pc c s : Nat} {ls : rO} {st : List Value} {σ : rS} {r : rT} {len : Nat} {act : rA}
theorem x_newaB {n : Int} (hf : P.1 μ pc = some (.newarray .byte, len, act)) (h0 : 0 ≤ n) (h1 : n ≤ 1000000) (h : Ev P μ d (pc + 2) ls (.ref σ.length :: st) (σ ++ [.inr (0, n.toNat, .int 0, [])]) (c + 1) (s + n.toNat) r) : Ev P μ d pc ls (I n :: st) σ c s r := by
  obtain ⟨n0, h⟩ := h
  refine Ev_of hf (n0 := n0) (fun m hm => ?_)
  show rnewa 0 σ (I n) (fun v σ x => rn (pc + 2) (fun pcₚ => rrun P m μ d pcₚ ls (v :: st) σ 0 [] (c + 1) (s + x))) = _
  unfold rnewa
  show (match decide (Int32.ofInt n < 0) with | false => _ | true => _) = _
  rw [ofI_nn h0 (by omega)]
  show rn (Int32.ofInt n).toNatClampNeg _ = _
  rw [rn_eq, ofI_nat h0 (by omega)]
  show (match Nat.ble n.toNat 1000000 with | true => _ | false => _) = _
  rw [show Nat.ble n.toNat 1000000 = true from Nat.ble_eq.mpr (by omega)]
  show rn σ.length _ = _
  rw [rn_eq]
  show rn (pc + 2) _ = _
  rw [rn_eq]
  exact h m hm
theorem x_newaI {n : Int} (hf : P.1 μ pc = some (.newarray .int, len, act)) (h0 : 0 ≤ n) (h1 : n ≤ 1000000) (h : Ev P μ d (pc + 2) ls (.ref σ.length :: st) (σ ++ [.inr (1, n.toNat, .int 0, [])]) (c + 1) (s + n.toNat) r) : Ev P μ d pc ls (I n :: st) σ c s r := by
  obtain ⟨n0, h⟩ := h
  refine Ev_of hf (n0 := n0) (fun m hm => ?_)
  show rnewa 1 σ (I n) (fun v σ x => rn (pc + 2) (fun pcₚ => rrun P m μ d pcₚ ls (v :: st) σ 0 [] (c + 1) (s + x))) = _
  unfold rnewa
  show (match decide (Int32.ofInt n < 0) with | false => _ | true => _) = _
  rw [ofI_nn h0 (by omega)]
  show rn (Int32.ofInt n).toNatClampNeg _ = _
  rw [rn_eq, ofI_nat h0 (by omega)]
  show (match Nat.ble n.toNat 1000000 with | true => _ | false => _) = _
  rw [show Nat.ble n.toNat 1000000 = true from Nat.ble_eq.mpr (by omega)]
  show rn σ.length _ = _
  rw [rn_eq]
  show rn (pc + 2) _ = _
  rw [rn_eq]
  exact h m hm
theorem x_copy {x b e a a0 kd n n0 : Nat} {z dv dv0 : Value} {ov ov0 : rO} {m dp sp : Int} (hf : P.1 μ pc = some (.invokestatic x, len, (27, b, e, z))) (hw : Nat.ble (rwords st) 8 = true) (hc : rat σ a = some (.inr (kd, n, dv, ov))) (hc0 : rat σ a0 = some (.inr (kd, n0, dv0, ov0))) (hk : kd ≤ 1) (hm : 0 ≤ m ∧ m ≤ 1000000) (hd : 0 ≤ dp ∧ dp ≤ 1000000) (hs : 0 ≤ sp ∧ sp ≤ 1000000) (h0 : sp.toNat + m.toNat ≤ n0) (h1 : dp.toNat + m.toNat ≤ n) (hB : P.2.2.2.2.2.2.1 ≤ a) (hv : rcall0 kd ov0 dv0 sp.toNat m.toNat = true)
    (h : Ev P μ d (pc + 3) ls st (rstl σ a (.inr (kd, n, dv, rcpy ov0 dv0 sp.toNat dp.toNat m.toNat ov))) c s r) : Ev P μ d pc ls (I m :: I dp :: .ref a :: I sp :: .ref a0 :: st) σ c s r := by
  obtain ⟨k0, h⟩ := h
  refine Ev_of hf (n0 := k0) (fun k hk' => ?_)
  show (match Nat.ble (rwords st) 8 with | true => rcopy P.2.2.2.2.2.2.1 σ (I m) (I dp) (.ref a) (I sp) (.ref a0) (fun σ => rn (pc + 3) (fun pcₚ => rrun P k μ d pcₚ ls st σ 0 [] c s)) | false => none) = _
  rw [hw]
  show rcopy P.2.2.2.2.2.2.1 σ (I m) (I dp) (.ref a) (I sp) (.ref a0) (fun σ => rn (pc + 3) (fun pcₚ => rrun P k μ d pcₚ ls st σ 0 [] c s)) = _
  unfold rcopy
  simp only [hc, hc0, ofI_nn hm.1 (by omega), ofI_nn hd.1 (by omega), ofI_nn hs.1 (by omega), Bool.or_self, rn_eq, ofI_nat hm.1 (by omega), ofI_nat hd.1 (by omega), ofI_nat hs.1 (by omega), Nat.beq_refl]
  rw [show Nat.ble kd 1 = true from Nat.ble_eq.mpr hk, show Nat.ble (sp.toNat + m.toNat) n0 = true from Nat.ble_eq.mpr h0, show Nat.ble (dp.toNat + m.toNat) n = true from Nat.ble_eq.mpr h1, show Nat.ble P.2.2.2.2.2.2.1 a = true from Nat.ble_eq.mpr hB, hv]
  exact h k hk'
end XG
theorem rcall0_of {kd : Nat} {ov0 : rO} {dv0 : Value} {sp : Nat} : ∀ {n : Nat}, (∀ j, j < n → rcel kd (rlk ov0 dv0 (sp + j)) = true) → rcall0 kd ov0 dv0 sp n = true
  | 0, _ => rfl
  | n + 1, h => by
    show (rcel kd (rlk ov0 dv0 (sp + n)) && rcall0 kd ov0 dv0 sp n) = true
    rw [h n (by omega), rcall0_of (fun j hj => h j (by omega))]
    rfl
theorem rcel_B {z : Int} (h : -128 ≤ z ∧ z ≤ 127) : rcel 0 (I z) = true := by
  show decide ((Int32.ofInt z).toInt8.toInt32 = Int32.ofInt z) = true
  rw [decide_eq_true_iff]
  have e : ((Int32.ofInt z).toInt8.toInt32).toInt = z := by
    rw [Int8.toInt_toInt32, Int32.toInt_toInt8, Int32.toInt_ofInt_of_le (by omega) (by omega)]
    unfold Int.bmod
    simp only [show ((2 ^ 8 : Nat) : Int) = 256 from rfl]
    split <;> omega
  exact Int32.toInt_inj.mp (by rw [e, Int32.toInt_ofInt_of_le (by omega) (by omega)])
theorem rat_app {σ : rS} {q : rC} {a : Nat} (h : a < σ.length) : rat (σ ++ [q]) a = rat σ a := by
  rw [rat_eq, rat_eq, List.getElem?_append_left h]
theorem rat_new {σ : rS} {q : rC} : rat (σ ++ [q]) σ.length = some q := by
  rw [rat_eq]
  simp
theorem rstl_new {σ : rS} {q qₚ : rC} : rstl (σ ++ [q]) σ.length qₚ = σ ++ [qₚ] := by
  rw [rstl_eq]
  simp
/-- a longer copy -/
theorem K_copyB {σ : rS} {d a m : Nat} {dv : Value} {ov : rO} {n : Int} {Q : wQ} (hc : rat σ a = some (.inr (0, m, dv, ov))) (hn : (m : Int) < n ∧ n ≤ 1000000) (hl : 12 ≤ σ.length) (hv : ∀ j, j < m → rcel 0 (rlk ov dv j) = true)
    (k : ∀ ov', (∀ j, rlk ov' (.int 0) j = if j < m then rlk ov dv j else .int 0) → Q (some (.ref σ.length)) (σ ++ [.inr (0, n.toNat, .int 0, ov')]) 1 n.toNat) : Ew 456 d 0 (rargs 0 [.ref a, I n]) [] σ 0 0 Q := by
  have ha : a < σ.length := by
    rw [rat_eq] at hc
    obtain ⟨h, -⟩ := List.getElem?_eq_some_iff.mp hc
    exact h
  refine ⟨_, _, _, _, ?_, k (rcpy ov dv 0 0 m []) (fun j => by rw [rcpy_lk]; simp; rfl)⟩
  refine x_iload_n (v := Int32.ofInt n) rfl rfl ?_
  refine x_aload_n rfl rfl ?_
  refine x_alen rfl hc (by omega) (by decide) ?_
  refine x_icmp_t (t := 14) rfl rfl (by rw [rcmp_ne ⟨by omega, by omega⟩ ⟨by omega, by omega⟩]; exact decide_eq_true (by omega)) ?_
  refine x_iload_n (v := Int32.ofInt n) rfl rfl ?_
  refine x_newaB rfl (by omega) hn.2 ?_
  refine x_astore_n rfl ?_
  refine x_aload_n rfl (rk_o rfl rfl rfl) ?_
  refine x_iconst rfl ?_
  refine x_aload_n rfl rk_s ?_
  refine x_iconst rfl ?_
  refine x_aload_n rfl (rk_o rfl rfl rfl) ?_
  refine x_alen rfl (by rw [rat_app ha]; exact hc) (by omega) (by decide) ?_
  refine x_iload_n (v := Int32.ofInt n) rfl (rk_o rfl rfl rfl) ?_
  refine x_min_f rfl (by rfl) (by have := rcmp_gt (a := (m : Int)) (b := n) ⟨by omega, by omega⟩ ⟨by omega, by omega⟩; exact this.trans (decide_eq_false (by omega))) ?_
  refine x_copy (a := σ.length) (a0 := a) rfl (by rfl) rat_new (by rw [rat_app ha]; exact hc) (by decide) (by omega) (by omega) (by omega) (by simp) (by simp; omega) hl (rcall0_of (fun j hj => by simp at hj ⊢; exact hv j hj)) ?_
  rw [rstl_new]
  refine x_aload_n rfl rk_s ?_
  simp only [Int.toNat_zero, Int.toNat_natCast, Nat.zero_add]
  exact x_areturn rfl
/-- a longer copy -/
theorem K_copyI {σ : rS} {d a m : Nat} {dv : Value} {ov : rO} {n : Int} {Q : wQ} (hc : rat σ a = some (.inr (1, m, dv, ov))) (hn : (m : Int) < n ∧ n ≤ 1000000) (hl : 12 ≤ σ.length) (hv : ∀ j, j < m → rcel 1 (rlk ov dv j) = true)
    (k : ∀ ov', (∀ j, rlk ov' (.int 0) j = if j < m then rlk ov dv j else .int 0) → Q (some (.ref σ.length)) (σ ++ [.inr (1, n.toNat, .int 0, ov')]) 1 n.toNat) : Ew 457 d 0 (rargs 0 [.ref a, I n]) [] σ 0 0 Q := by
  have ha : a < σ.length := by
    rw [rat_eq] at hc
    obtain ⟨h, -⟩ := List.getElem?_eq_some_iff.mp hc
    exact h
  refine ⟨_, _, _, _, ?_, k (rcpy ov dv 0 0 m []) (fun j => by rw [rcpy_lk]; simp; rfl)⟩
  refine x_iload_n (v := Int32.ofInt n) rfl rfl ?_
  refine x_aload_n rfl rfl ?_
  refine x_alen rfl hc (by omega) (by decide) ?_
  refine x_icmp_t (t := 14) rfl rfl (by rw [rcmp_ne ⟨by omega, by omega⟩ ⟨by omega, by omega⟩]; exact decide_eq_true (by omega)) ?_
  refine x_iload_n (v := Int32.ofInt n) rfl rfl ?_
  refine x_newaI rfl (by omega) hn.2 ?_
  refine x_astore_n rfl ?_
  refine x_aload_n rfl (rk_o rfl rfl rfl) ?_
  refine x_iconst rfl ?_
  refine x_aload_n rfl rk_s ?_
  refine x_iconst rfl ?_
  refine x_aload_n rfl (rk_o rfl rfl rfl) ?_
  refine x_alen rfl (by rw [rat_app ha]; exact hc) (by omega) (by decide) ?_
  refine x_iload_n (v := Int32.ofInt n) rfl (rk_o rfl rfl rfl) ?_
  refine x_min_f rfl (by rfl) (by have := rcmp_gt (a := (m : Int)) (b := n) ⟨by omega, by omega⟩ ⟨by omega, by omega⟩; exact this.trans (decide_eq_false (by omega))) ?_
  refine x_copy (a := σ.length) (a0 := a) rfl (by rfl) rat_new (by rw [rat_app ha]; exact hc) (by decide) (by omega) (by omega) (by omega) (by simp) (by simp; omega) hl (rcall0_of (fun j hj => by simp at hj ⊢; exact hv j hj)) ?_
  rw [rstl_new]
  refine x_aload_n rfl rk_s ?_
  simp only [Int.toNat_zero, Int.toNat_natCast, Nat.zero_add]
  exact x_areturn rfl
