/-! its steps are steps of the listing -/
section YR
variable {P : rP} {μ d pc c s : Nat} {ls ls' : rO} {st st' : List Value} {σ : rS} {r : rT} {len : Nat} {act : rA}
theorem Ev_l (e : ls = ls') (h : Ev P μ d pc ls st σ c s r) : Ev P μ d pc ls' st σ c s r := e ▸ h
theorem Ev_s (e : st = st') (h : Ev P μ d pc ls st σ c s r) : Ev P μ d pc ls st' σ c s r := e ▸ h
theorem Ev_c {cₚ sₚ : Nat} (e : c = cₚ) (e' : s = sₚ) (h : Ev P μ d pc ls st σ c s r) : Ev P μ d pc ls st σ cₚ sₚ r := e ▸ e' ▸ h
theorem Ev_i {x : Int32} (h : Ev P μ d pc ls (.int x :: st) σ c s r) : Ev P μ d pc ls (I x.toInt :: st) σ c s r := Ev_s (congrArg (fun q => Value.int q :: st) (toI_of x).symm) h
theorem Ev_j {x : Int64} (h : Ev P μ d pc ls (.long x :: st) σ c s r) : Ev P μ d pc ls (J x.toInt :: st) σ c s r := Ev_s (congrArg (fun q => Value.long q :: st) (Int64.ofInt_toInt x).symm) h
theorem y_aaload {a N x t : Nat} {dv v : Value} {ov : rO} {j : Int32} (hf : P.1 μ pc = some (.aaload, len, act)) (hc : rat σ a = some (.inr (t, N, dv, ov))) (ht : (Nat.ble 4 t && Nat.blt t 8) = true) (hj : decide (j < 0) = false) (hx : j.toNatClampNeg = x) (hlt : x < N) (hv : rlk ov dv x = v) (hr : risR v = true) (h : Ev P μ d (pc + 1) ls (v :: st) σ c s r) : Ev P μ d pc ls (.int j :: .ref a :: st) σ c s r := by
  subst hv
  obtain ⟨n0, h⟩ := h
  refine Ev_of hf (n0 := n0) (fun n hn => ?_)
  show ralq σ (.ref a) (.int j) (fun v => rn (pc + 1) (fun pcₚ => rrun P n μ d pcₚ ls (v :: st) σ 0 [] c s)) = _
  unfold ralq
  rw [rplace_eq hc hj hx hlt]
  show (match Nat.ble 4 t && Nat.blt t 8 with | true => (match risR (rlk ov dv x) with | true => _ | false => _) | false => _) = _
  rw [ht]
  show (match risR (rlk ov dv x) with | true => _ | false => _) = _
  rw [hr]
  show rn (pc + 1) _ = _
  rw [rn_eq]
  exact h n hn
theorem y_aastore {a N x t : Nat} {dv v : Value} {ov : rO} {j : Int32} (hf : P.1 μ pc = some (.aastore, len, act)) (hc : rat σ a = some (.inr (t, N, dv, ov))) (ht : (Nat.ble 4 t && Nat.blt t 7) = true) (hj : decide (j < 0) = false) (hx : j.toNatClampNeg = x) (hlt : x < N) (hB : P.2.2.2.2.2.2.1 ≤ a) (hk : rkin P.2.2.2.2.2.1 σ t v = true) (h : Ev P μ d (pc + 1) ls st (rstl σ a (.inr (t, N, dv, rup ov x v))) c s r) : Ev P μ d pc ls (v :: .int j :: .ref a :: st) σ c s r := by
  obtain ⟨n0, h⟩ := h
  refine Ev_of hf (n0 := n0) (fun n hn => ?_)
  show rasq P.2.2.2.2.2.1 P.2.2.2.2.2.2.1 σ (.ref a) (.int j) v (fun σ => rn (pc + 1) (fun pcₚ => rrun P n μ d pcₚ ls st σ 0 [] c s)) = _
  unfold rasq
  rw [rplace_eq hc hj hx hlt]
  show (match Nat.ble 4 t && (Nat.blt t 7 && (Nat.ble P.2.2.2.2.2.2.1 a && rkin P.2.2.2.2.2.1 σ t v)) with | true => _ | false => _) = _
  rw [show Nat.ble P.2.2.2.2.2.2.1 a = true from Nat.ble_eq.mpr hB, hk, show (Nat.ble 4 t && (Nat.blt t 7 && (true && true))) = (Nat.ble 4 t && Nat.blt t 7) by cases Nat.ble 4 t <;> cases Nat.blt t 7 <;> rfl, ht]
  show rn (pc + 1) _ = _
  rw [rn_eq]
  exact h n hn
theorem y_newa {kd w : Nat} {j : Int32} {i : Instr} (hf : P.1 μ pc = some (i, len, act)) (hi : ∀ rec : rF, rinstr P rec μ d pc ls (.int j :: st) σ 0 [] c s i len act = rnewa kd σ (.int j) (fun v σ x => rn (pc + w) (fun pcₚ => rec μ d pcₚ ls (v :: st) σ 0 [] (c + 1) (s + x)))) (hj : decide (j < 0) = false) (hn : Nat.ble j.toNatClampNeg 1000000 = true)
    (h : Ev P μ d (pc + w) ls (.ref σ.length :: st) (σ ++ [.inr (kd, j.toNatClampNeg, rdef kd, [])]) (c + 1) (s + j.toNatClampNeg) r) : Ev P μ d pc ls (.int j :: st) σ c s r := by
  obtain ⟨n0, h⟩ := h
  refine Ev_of hf (n0 := n0) (fun n hn' => ?_)
  rw [hi]
  unfold rnewa
  simp only [hj, rn_eq, hn]
  exact h n hn'
theorem y_new {x q ci ns : Nat} {z : Value} (hf : P.1 μ pc = some (.new x, len, (q, ci, ns, z))) (h : Ev P μ d (pc + 3) ls (.ref σ.length :: st) (σ ++ [.inl (ci, P.2.2.2.2.1 ci)]) (c + 1) (s + ns) r) : Ev P μ d pc ls st σ c s r := by
  obtain ⟨n0, h⟩ := h
  refine Ev_of hf (n0 := n0) (fun n hn => ?_)
  show rn σ.length (fun a => rn (pc + 3) (fun pcₚ => rrun P n μ d pcₚ ls (.ref a :: st) (σ ++ [.inl (ci, P.2.2.2.2.1 ci)]) 0 [] (c + 1) (s + ns))) = _
  rw [rn_eq]
  show rn (pc + 3) _ = _
  rw [rn_eq]
  exact h n hn
theorem y_multi {b a : Int32} {ix dm : _} (hf : P.1 μ pc = some (.multianewarray ix dm, len, act)) (hb : (!(decide (b < 0)) && decide (a = 3)) = true) (hn : Nat.ble b.toNatClampNeg 1000000 = true) (h : Ev P μ d (pc + 4) ls (.ref σ.length :: st) (σ ++ [.inr (7, 3, .null, [(0, .ref (σ.length + 1)), (1, .ref (σ.length + 2)), (2, .ref (σ.length + 3))]), .inr (1, b.toNatClampNeg, .int 0, []), .inr (1, b.toNatClampNeg, .int 0, []), .inr (1, b.toNatClampNeg, .int 0, [])]) (c + 4) (s + (3 + 3 * b.toNatClampNeg)) r) : Ev P μ d pc ls (.int b :: .int a :: st) σ c s r := by
  obtain ⟨n0, h⟩ := h
  refine Ev_of hf (n0 := n0) (fun m hm => ?_)
  show (match !(decide (b < 0)) && decide (a = 3) with
      | true => rn b.toNatClampNeg (fun x => match Nat.ble x 1000000 with
        | true => rn σ.length (fun k => rn (pc + 4) (fun pcₚ => rrun P m μ d pcₚ ls (.ref k :: st) (σ ++ ([.inr (7, 3, .null, [(0, .ref (k + 1)), (1, .ref (k + 2)), (2, .ref (k + 3))]), .inr (1, x, .int 0, []), .inr (1, x, .int 0, []), .inr (1, x, .int 0, [])] : rS)) 0 [] (c + 4) (s + (3 + 3 * x))))
        | false => none)
      | false => none) = _
  rw [hb]
  show rn b.toNatClampNeg _ = _
  rw [rn_eq]
  show (match Nat.ble b.toNatClampNeg 1000000 with | true => _ | false => _) = _
  rw [hn]
  show rn σ.length _ = _
  rw [rn_eq]
  show rn (pc + 4) _ = _
  rw [rn_eq]
  exact h m hm
theorem y_obj {x b e a : Nat} {z : Value} (hf : P.1 μ pc = some (.invokespecial x, len, (26, b, e, z))) (hw : Nat.ble (rwords st) 8 = true) (h : Ev P μ d (pc + 3) ls st σ c s r) : Ev P μ d pc ls (.ref a :: st) σ c s r := by
  obtain ⟨n0, h⟩ := h
  refine Ev_of hf (n0 := n0) (fun n hn => ?_)
  show (match Nat.ble (rwords st) 8 with | true => rn (pc + 3) (fun pcₚ => rrun P n μ d pcₚ ls st σ 0 [] c s) | false => none) = _
  rw [hw]
  show rn (pc + 3) _ = _
  rw [rn_eq]
  exact h n hn
theorem y_copy {x b e a a0 n n0 : Nat} {z dv dv0 : Value} {ov ov0 : rO} {k dp sp : Int32} (hf : P.1 μ pc = some (.invokestatic x, len, (27, b, e, z))) (hw : Nat.ble (rwords st) 8 = true) (hc : rat σ a = some (.inr (1, n, dv, ov))) (hc0 : rat σ a0 = some (.inr (1, n0, dv0, ov0))) (hm : (decide (k < 0) || (decide (dp < 0) || decide (sp < 0))) = false) (h0 : Nat.ble (sp.toNatClampNeg + k.toNatClampNeg) n0 = true) (h1 : Nat.ble (dp.toNatClampNeg + k.toNatClampNeg) n = true) (hB : Nat.ble P.2.2.2.2.2.2.1 a = true) (hv : rcall0 1 ov0 dv0 sp.toNatClampNeg k.toNatClampNeg = true)
    (h : Ev P μ d (pc + 3) ls st (rstl σ a (.inr (1, n, dv, rcpy ov0 dv0 sp.toNatClampNeg dp.toNatClampNeg k.toNatClampNeg ov))) c s r) : Ev P μ d pc ls (.int k :: .int dp :: .ref a :: .int sp :: .ref a0 :: st) σ c s r := by
  obtain ⟨k0, h⟩ := h
  refine Ev_of hf (n0 := k0) (fun q hq => ?_)
  show (match Nat.ble (rwords st) 8 with | true => rcopy P.2.2.2.2.2.2.1 σ (.int k) (.int dp) (.ref a) (.int sp) (.ref a0) (fun σ => rn (pc + 3) (fun pcₚ => rrun P q μ d pcₚ ls st σ 0 [] c s)) | false => none) = _
  rw [hw]
  show rcopy P.2.2.2.2.2.2.1 σ (.int k) (.int dp) (.ref a) (.int sp) (.ref a0) (fun σ => rn (pc + 3) (fun pcₚ => rrun P q μ d pcₚ ls st σ 0 [] c s)) = _
  unfold rcopy
  simp only [hc, hc0, hm, rn_eq, Nat.beq_refl]
  rw [show Nat.ble 1 1 = true from rfl, h0, h1, hB, hv]
  exact h q hq
end YR
section YS
variable {ν : mE} {ρ : Nat → Nat} {K L0 : Nat} {σ0 : rS} {μ d pc c s len : Nat} {act : rA} {ls : rO} {st : List Value} {m : rS} {t : mS}
def mOK (ν : mE) (ρ : Nat → Nat) (K L0 : Nat) (σ0 : rS) (μ d pc : Nat) (ls : rO) (st : List Value) (m : rS) (c s : Nat) (t : mS) : Prop :=
  ∀ C S σ, mI ν ρ K L0 σ0 m σ → ∃ σₚ, mI ν ρ K L0 σ0 t.2.2.2.1 σₚ ∧ ∀ r, Ev PP μ d t.1 (mL ν ρ t.2.1) (mT ν ρ t.2.2.1) σₚ (C + t.2.2.2.2.1) (S + t.2.2.2.2.2) r → Ev PP μ d pc (mL ν ρ ls) (mT ν ρ st) σ (C + c) (S + s) r
theorem s_aload_n {x : Fin 4} (hf : PP.1 μ pc = some (.aload_n x, len, act)) (h : mstep (.aload_n x) len act μ pc ls st m c s = some t) : mOK ν ρ K L0 σ0 μ d pc ls st m c s t := by
  unfold mstep at h
  dsimp only at h
  split at h
  · rename_i a e
    cases h
    exact fun C S σ hI => ⟨σ, hI, fun r hr => x_aload_n hf (by rw [mL_look, e]; rfl) hr⟩
  · cases h
theorem s_iload_n {x : Fin 4} (hf : PP.1 μ pc = some (.iload_n x, len, act)) (h : mstep (.iload_n x) len act μ pc ls st m c s = some t) : mOK ν ρ K L0 σ0 μ d pc ls st m c s t := by
  unfold mstep at h
  dsimp only at h
  split at h
  · rename_i a e
    cases h
    exact fun C S σ hI => ⟨σ, hI, fun r hr => x_iload_n hf (by rw [mL_look, e]; rfl) hr⟩
  · cases h
theorem s_iload {x : Nat} (hf : PP.1 μ pc = some (.iload x, len, act)) (h : mstep (.iload x) len act μ pc ls st m c s = some t) : mOK ν ρ K L0 σ0 μ d pc ls st m c s t := by
  unfold mstep at h
  dsimp only at h
  split at h
  · rename_i a e
    cases h
    exact fun C S σ hI => ⟨σ, hI, fun r hr => x_iload hf (by rw [mL_look, e]; rfl) hr⟩
  · cases h
theorem s_istore_n {x : Fin 4} (hf : PP.1 μ pc = some (.istore_n x, len, act)) (h : mstep (.istore_n x) len act μ pc ls st m c s = some t) : mOK ν ρ K L0 σ0 μ d pc ls st m c s t := by
  unfold mstep at h
  dsimp only at h
  split at h
  · cases h
    exact fun C S σ hI => ⟨σ, hI, fun r hr => x_istore_n hf (Ev_l mL_set.symm hr)⟩
  · cases h
theorem s_istore {x : Nat} (hf : PP.1 μ pc = some (.istore x, len, act)) (h : mstep (.istore x) len act μ pc ls st m c s = some t) : mOK ν ρ K L0 σ0 μ d pc ls st m c s t := by
  unfold mstep at h
  dsimp only at h
  split at h
  · cases h
    exact fun C S σ hI => ⟨σ, hI, fun r hr => x_istore hf (Ev_l mL_set.symm hr)⟩
  · cases h
theorem s_astore_n {x : Fin 4} (hf : PP.1 μ pc = some (.astore_n x, len, act)) (h : mstep (.astore_n x) len act μ pc ls st m c s = some t) : mOK ν ρ K L0 σ0 μ d pc ls st m c s t := by
  unfold mstep at h
  dsimp only at h
  split at h
  · cases h
    exact fun C S σ hI => ⟨σ, hI, fun r hr => x_astore_n hf (Ev_l mL_set.symm hr)⟩
  · cases h
theorem s_iconst {z : Int} (hf : PP.1 μ pc = some (.iconst z, len, act)) (h : mstep (.iconst z) len act μ pc ls st m c s = some t) : mOK ν ρ K L0 σ0 μ d pc ls st m c s t := by
  unfold mstep at h
  dsimp only at h
  rw [rci_eq] at h
  cases h
  exact fun C S σ hI => ⟨σ, hI, fun r hr => x_iconst hf hr⟩
theorem s_bipush {z : Int} (hf : PP.1 μ pc = some (.bipush z, len, act)) (h : mstep (.bipush z) len act μ pc ls st m c s = some t) : mOK ν ρ K L0 σ0 μ d pc ls st m c s t := by
  unfold mstep at h
  dsimp only at h
  rw [rci_eq] at h
  cases h
  exact fun C S σ hI => ⟨σ, hI, fun r hr => x_bipush hf (toI_of _).symm (Ev_i hr)⟩
theorem s_sipush {z : Int} (hf : PP.1 μ pc = some (.sipush z, len, act)) (h : mstep (.sipush z) len act μ pc ls st m c s = some t) : mOK ν ρ K L0 σ0 μ d pc ls st m c s t := by
  unfold mstep at h
  dsimp only at h
  rw [rci_eq] at h
  cases h
  exact fun C S σ hI => ⟨σ, hI, fun r hr => x_sipush hf (toI_of _).symm (Ev_i hr)⟩
theorem s_lconst {z : Fin 2} (hf : PP.1 μ pc = some (.lconst z, len, act)) (h : mstep (.lconst z) len act μ pc ls st m c s = some t) : mOK ν ρ K L0 σ0 μ d pc ls st m c s t := by
  unfold mstep at h
  dsimp only at h
  rw [rcl_eq] at h
  cases h
  exact fun C S σ hI => ⟨σ, hI, fun r hr => x_lconst hf (Int64.ofInt_toInt _).symm (Ev_j hr)⟩
theorem s_ldc2 {x : Nat} (hf : PP.1 μ pc = some (.ldc2_w x, len, act)) (h : mstep (.ldc2_w x) len act μ pc ls st m c s = some t) : mOK ν ρ K L0 σ0 μ d pc ls st m c s t := by
  obtain ⟨a, b, e, w⟩ := act
  unfold mstep at h
  dsimp only at h
  split at h
  · cases h
    exact fun C S σ hI => ⟨σ, hI, fun r hr => x_ldc2 hf (Int64.ofInt_toInt _).symm (Ev_j hr)⟩
  · cases h
theorem s_ldc {x : Nat} (hf : PP.1 μ pc = some (.ldc x, len, act)) (h : mstep (.ldc x) len act μ pc ls st m c s = some t) : mOK ν ρ K L0 σ0 μ d pc ls st m c s t := by
  obtain ⟨a, b, e, w⟩ := act
  unfold mstep at h
  dsimp only at h
  split at h
  · rename_i v
    cases h
    exact fun C S σ hI => ⟨σ, hI, fun r hr => x_ldc hf (z := v.toInt) (toI_of v).symm (Ev_s (show Value.int v :: mT ν ρ st = I v.toInt :: mT ν ρ st from congrArg (fun q => Value.int q :: mT ν ρ st) (toI_of v).symm) hr)⟩
  · cases h
theorem s_dup (hf : PP.1 μ pc = some (.dup, len, act)) (h : mstep .dup len act μ pc ls st m c s = some t) : mOK ν ρ K L0 σ0 μ d pc ls st m c s t := by
  unfold mstep at h
  dsimp only at h
  split at h
  · split at h
    · rename_i e
      cases h
      exact fun C S σ hI => ⟨σ, hI, fun r hr => x_dup hf (by rw [mg_cat]; exact e) hr⟩
    · cases h
  · cases h
theorem s_dup2 (hf : PP.1 μ pc = some (.dup2, len, act)) (h : mstep .dup2 len act μ pc ls st m c s = some t) : mOK ν ρ K L0 σ0 μ d pc ls st m c s t := by
  unfold mstep at h
  dsimp only at h
  split at h
  · split at h
    · rename_i e
      cases h
      rw [Bool.and_eq_true] at e
      exact fun C S σ hI => ⟨σ, hI, fun r hr => x_dup2 hf (by rw [mg_cat]; exact e.1) (by rw [mg_cat]; exact e.2) hr⟩
    · cases h
  · cases h
theorem s_goto {off : Int} (hf : PP.1 μ pc = some (.goto off, len, act)) (h : mstep (.goto off) len act μ pc ls st m c s = some t) : mOK ν ρ K L0 σ0 μ d pc ls st m c s t := by
  unfold mstep at h
  dsimp only at h
  unfold mjmp at h
  split at h
  · rename_i e
    cases h
    exact fun C S σ hI => ⟨σ, hI, fun r hr => x_goto hf e hr⟩
  · cases h
theorem s_icmp {k : ClassFile.Cond} {off : Int} (hf : PP.1 μ pc = some (.if_icmp k off, len, act)) (h : mstep (.if_icmp k off) len act μ pc ls st m c s = some t) : mOK ν ρ K L0 σ0 μ d pc ls st m c s t := by
  unfold mstep at h
  dsimp only at h
  split at h
  · unfold mjmp at h
    split at h
    · rename_i e
      split at h
      · rename_i e2
        cases h
        exact fun C S σ hI => ⟨σ, hI, fun r hr => x_icmp_t hf e e2 hr⟩
      · rename_i e2
        cases h
        exact fun C S σ hI => ⟨σ, hI, fun r hr => x_icmp_f hf e e2 hr⟩
    · cases h
  · cases h
theorem s_ifc {k : ClassFile.Cond} {off : Int} (hf : PP.1 μ pc = some (.ifCond k off, len, act)) (h : mstep (.ifCond k off) len act μ pc ls st m c s = some t) : mOK ν ρ K L0 σ0 μ d pc ls st m c s t := by
  unfold mstep at h
  dsimp only at h
  split at h
  · unfold mjmp at h
    split at h
    · rename_i e
      split at h
      · rename_i e2
        cases h
        exact fun C S σ hI => ⟨σ, hI, fun r hr => x_ifc_t hf e e2 hr⟩
      · rename_i e2
        cases h
        exact fun C S σ hI => ⟨σ, hI, fun r hr => x_ifc_f hf e e2 hr⟩
    · cases h
  · cases h
theorem s_ifnn {off : Int} (hf : PP.1 μ pc = some (.ifnonnull off, len, act)) (h : mstep (.ifnonnull off) len act μ pc ls st m c s = some t) : mOK ν ρ K L0 σ0 μ d pc ls st m c s t := by
  unfold mstep at h
  dsimp only at h
  split at h
  · unfold mjmp at h
    split at h
    · rename_i e
      cases h
      exact fun C S σ hI => ⟨σ, hI, fun r hr => x_ifnonnull_t hf e hr⟩
    · cases h
  · unfold mjmp at h
    split at h
    · rename_i e
      cases h
      exact fun C S σ hI => ⟨σ, hI, fun r hr => x_ifnonnull_f hf e hr⟩
    · cases h
  · cases h
theorem s_iinc {x : Nat} {z : Int} (hf : PP.1 μ pc = some (.iinc x z, len, act)) (h : mstep (.iinc x z) len act μ pc ls st m c s = some t) : mOK ν ρ K L0 σ0 μ d pc ls st m c s t := by
  unfold mstep at h
  dsimp only at h
  split at h
  · rename_i v e
    rw [rci_eq] at h
    cases h
    exact fun C S σ hI => ⟨σ, hI, fun r hr => x_iinc (z := v.toInt) hf (by rw [mL_look, e]; show some (Value.int v) = some (.int (Int32.ofInt v.toInt)); rw [toI_of]) (Ev_l (mL_set (v := .int (Int32.ofInt (v.toInt + z)))).symm hr)⟩
  · cases h
theorem s_getstatic {x : Nat} (hF : mF ρ K L0) (hf : PP.1 μ pc = some (.getstatic x, len, act)) (h : mstep (.getstatic x) len act μ pc ls st m c s = some t) : mOK ν ρ K L0 σ0 μ d pc ls st m c s t := by
  obtain ⟨a, b, e, w⟩ := act
  unfold mstep at h
  dsimp only at h
  split at h
  · rename_i e
    cases h
    exact fun C S σ hI => ⟨σ, hI, fun r hr => x_getstatic hf (Ev_s (by show Value.ref (ρ b) :: mT ν ρ st = .ref b :: mT ν ρ st; rw [hF.st b (blt_of e)]) hr)⟩
  · cases h
theorem s_getfield {x : Nat} (hf : PP.1 μ pc = some (.getfield x, len, act)) (h : mstep (.getfield x) len act μ pc ls st m c s = some t) : mOK ν ρ K L0 σ0 μ d pc ls st m c s t := by
  obtain ⟨a1, b1, e1, w1⟩ := act
  unfold mstep at h
  dsimp only at h
  split at h
  · rename_i a st'
    split at h
    · rename_i q e
      split at h
      · rename_i e2
        split at h
        · rename_i v e3
          cases h
          intro C S σ hI
          obtain ⟨qₚ, p1, p2⟩ := hI.1 a _ e
          have p2 : qₚ = .inl (q.1, mT ν ρ q.2) := p2
          rw [p2, Nat.eq_of_beq_eq_true e2] at p1
          refine ⟨σ, hI, fun r hr => x_getfield hf p1 (v := mg ν ρ v) ?_ hr⟩
          rw [rnth_eq] at e3 ⊢
          unfold mT
          rw [List.getElem?_map, e3]
          rfl
        · cases h
      · cases h
    · cases h
  · cases h
theorem s_putfield {x : Nat} (hF : mF ρ K L0) (hf : PP.1 μ pc = some (.putfield x, len, act)) (h : mstep (.putfield x) len act μ pc ls st m c s = some t) : mOK ν ρ K L0 σ0 μ d pc ls st m c s t := by
  obtain ⟨a1, b1, e1, w1⟩ := act
  unfold mstep at h
  dsimp only at h
  split at h
  · rename_i v a st'
    split at h
    · rename_i tag
      split at h
      · rename_i q e
        obtain ⟨ci, fs⟩ := q
        dsimp only at h
        split at h
        · rename_i e2
          cases h
          simp only [Bool.and_eq_true] at e2
          obtain ⟨h1, h2, h3, h4, h5⟩ := e2
          have h2 := Nat.eq_of_beq_eq_true h2
          subst h2
          intro C S σ hI
          obtain ⟨qₚ, p1, p2⟩ := hI.1 a _ e
          have p2 : qₚ = .inl (ci, mT ν ρ fs) := p2
          rw [p2] at p1
          have ha := rat_lt e
          have hl := hI.2.2.1
          refine ⟨_, mI_set hF hI e (qₚ := .inl (ci, rstl (mT ν ρ fs) e1 (mg ν ρ v))) ?_, fun r hr => x_putfield hf h1 p1 ?_ (show 12 ≤ ρ a from hF.lo a (Nat.le_of_ble_eq_true h4) (by omega)) (rfit_mg h5) hr⟩
          · show Sum.inl (ci, rstl (mT ν ρ fs) e1 (mg ν ρ v)) = Sum.inl (ci, mT ν ρ (rstl fs e1 v))
            rw [rstl_eq, rstl_eq]
            unfold mT
            rw [List.map_set]
          · unfold mT
            rw [List.length_map]
            exact blt_of h3
        · cases h
      · cases h
    · cases h
  · cases h
theorem mread_ok {σ : rS} (hI : mI ν ρ K L0 σ0 m σ) {kd a : Nat} {j : Int32} {v : Value} (h : mread kd m a j = some v) : ∃ N dv ov, rat σ (ρ a) = some (.inr (kd, N, dv, ov)) ∧ decide (j < 0) = false ∧ j.toNatClampNeg < N ∧ rlk ov dv j.toNatClampNeg = mg ν ρ v := by
  unfold mread at h
  split at h
  · rename_i q e
    split at h
    · rename_i e1
      cases h
      simp only [Bool.and_eq_true, Bool.not_eq_true'] at e1
      obtain ⟨h1, h2, h3⟩ := e1
      obtain ⟨qₚ, p1, p2⟩ := hI.1 a _ e
      have p2 : ∃ dv ov, qₚ = .inr (q.1, q.2.1, dv, ov) ∧ ∀ j, rlk ov dv j = mg ν ρ (rlk q.2.2.2 q.2.2.1 j) := p2
      obtain ⟨dv, ov, p3, p4⟩ := p2
      rw [p3, Nat.eq_of_beq_eq_true h3] at p1
      exact ⟨q.2.1, dv, ov, p1, h1, blt_of h2, p4 _⟩
    · cases h
  · cases h
theorem mwrite_ok {σ : rS} (hF : mF ρ K L0) (hI : mI ν ρ K L0 σ0 m σ) {kd a : Nat} {j : Int32} {v : Value} {m' : rS} (h : mwrite kd m a j v = some m') : ∃ N dv ov, rat σ (ρ a) = some (.inr (kd, N, dv, ov)) ∧ decide (j < 0) = false ∧ j.toNatClampNeg < N ∧ 12 ≤ ρ a ∧ mI ν ρ K L0 σ0 m' (rstl σ (ρ a) (.inr (kd, N, dv, rup ov j.toNatClampNeg (mg ν ρ v)))) := by
  unfold mwrite at h
  split at h
  · rename_i q e
    obtain ⟨kd', N, dv0, ov0⟩ := q
    dsimp only at h
    split at h
    · rename_i e1
      cases h
      simp only [Bool.and_eq_true, Bool.not_eq_true'] at e1
      obtain ⟨h1, h2, h3, h4⟩ := e1
      have h3 := Nat.eq_of_beq_eq_true h3
      subst h3
      obtain ⟨qₚ, p1, p2⟩ := hI.1 a _ e
      have p2 : ∃ dv ov, qₚ = .inr (kd', N, dv, ov) ∧ ∀ j, rlk ov dv j = mg ν ρ (rlk ov0 dv0 j) := p2
      obtain ⟨dv, ov, p3, p4⟩ := p2
      rw [p3] at p1
      have ha := rat_lt e
      have hl := hI.2.2.1
      exact ⟨N, dv, ov, p1, h1, blt_of h2, hF.lo a (Nat.le_of_ble_eq_true h4) (by omega), mI_set hF hI e (mC_up p4)⟩
    · cases h
  · cases h
theorem s_iaload (hf : PP.1 μ pc = some (.iaload, len, act)) (h : mstep .iaload len act μ pc ls st m c s = some t) : mOK ν ρ K L0 σ0 μ d pc ls st m c s t := by
  unfold mstep at h
  dsimp only at h
  split at h
  · split at h
    · rename_i e
      cases h
      intro C S σ hI
      obtain ⟨N, dv, ov, p1, p2, p3, p4⟩ := mread_ok hI e
      exact ⟨σ, hI, fun r hr => x_iaload hf p1 p2 rfl p3 p4 hr⟩
    · cases h
  · cases h
theorem s_aaload (hf : PP.1 μ pc = some (.aaload, len, act)) (h : mstep .aaload len act μ pc ls st m c s = some t) : mOK ν ρ K L0 σ0 μ d pc ls st m c s t := by
  unfold mstep at h
  dsimp only at h
  split at h
  · split at h
    · rename_i e
      cases h
      intro C S σ hI
      obtain ⟨N, dv, ov, p1, p2, p3, p4⟩ := mread_ok hI e
      exact ⟨σ, hI, fun r hr => y_aaload hf p1 rfl p2 rfl p3 p4 rfl hr⟩
    · cases h
  · cases h
theorem s_iastore (hF : mF ρ K L0) (hf : PP.1 μ pc = some (.iastore, len, act)) (h : mstep .iastore len act μ pc ls st m c s = some t) : mOK ν ρ K L0 σ0 μ d pc ls st m c s t := by
  unfold mstep at h
  dsimp only at h
  split at h
  · split at h
    · rename_i e
      cases h
      intro C S σ hI
      obtain ⟨N, dv, ov, p1, p2, p3, p4, p5⟩ := mwrite_ok hF hI e
      exact ⟨_, p5, fun r hr => x_iastore hf p1 p2 rfl p3 p4 hr⟩
    · cases h
  · cases h
theorem s_lastore (hF : mF ρ K L0) (hf : PP.1 μ pc = some (.lastore, len, act)) (h : mstep .lastore len act μ pc ls st m c s = some t) : mOK ν ρ K L0 σ0 μ d pc ls st m c s t := by
  unfold mstep at h
  dsimp only at h
  split at h
  · split at h
    · rename_i e
      cases h
      intro C S σ hI
      obtain ⟨N, dv, ov, p1, p2, p3, p4, p5⟩ := mwrite_ok hF hI e
      exact ⟨_, p5, fun r hr => x_lastore hf p1 p2 rfl p3 p4 hr⟩
    · cases h
  · cases h
theorem s_aastore (hF : mF ρ K L0) (hf : PP.1 μ pc = some (.aastore, len, act)) (h : mstep .aastore len act μ pc ls st m c s = some t) : mOK ν ρ K L0 σ0 μ d pc ls st m c s t := by
  unfold mstep at h
  dsimp only at h
  split at h
  · split at h
    · rename_i e0
      split at h
      · rename_i e
        cases h
        intro C S σ hI
        obtain ⟨N, dv, ov, p1, p2, p3, p4, p5⟩ := mwrite_ok hF hI e
        exact ⟨_, p5, fun r hr => y_aastore hf p1 rfl p2 rfl p3 p4 (mrkin hI e0) hr⟩
      · cases h
    · split at h
      · rename_i e0
        split at h
        · rename_i e
          cases h
          intro C S σ hI
          obtain ⟨N, dv, ov, p1, p2, p3, p4, p5⟩ := mwrite_ok hF hI e
          exact ⟨_, p5, fun r hr => y_aastore hf p1 rfl p2 rfl p3 p4 (mrkin hI e0) hr⟩
        · cases h
      · split at h
        · rename_i e0
          split at h
          · rename_i e
            cases h
            intro C S σ hI
            obtain ⟨N, dv, ov, p1, p2, p3, p4, p5⟩ := mwrite_ok hF hI e
            exact ⟨_, p5, fun r hr => y_aastore hf p1 rfl p2 rfl p3 p4 (mrkin hI e0) hr⟩
          · cases h
        · cases h
  · cases h
theorem s_bin {o : Nat} {i : Instr} (hx : ∀ (a b : Int32) (l : List Value) (c s : Nat) (σ : rS) (r : rT), Ev PP μ d (pc + 1) (mL ν ρ ls) (I (rop o a b).toInt :: l) σ c s r → Ev PP μ d pc (mL ν ρ ls) (.int b :: .int a :: l) σ c s r) (h : mbin o pc ls st m c s = some t) : mOK ν ρ K L0 σ0 μ d pc ls st m c s t := by
  unfold mbin at h
  split at h
  · rw [rci_eq] at h
    cases h
    exact fun C S σ hI => ⟨σ, hI, fun r hr => hx _ _ _ _ _ _ _ (Ev_i hr)⟩
  · cases h
theorem s_newa {kd w : Nat} (hF : mF ρ K L0) (hx : ∀ (j : Int32) (l : List Value) (c s : Nat) (σ : rS) (r : rT), decide (j < 0) = false → Nat.ble j.toNatClampNeg 1000000 = true → Ev PP μ d (pc + w) (mL ν ρ ls) (.ref σ.length :: l) (σ ++ [.inr (kd, j.toNatClampNeg, rdef kd, [])]) (c + 1) (s + j.toNatClampNeg) r → Ev PP μ d pc (mL ν ρ ls) (.int j :: l) σ c s r) (h : mnewa kd w pc ls st m c s = some t) : mOK ν ρ K L0 σ0 μ d pc ls st m c s t := by
  unfold mnewa at h
  split at h
  · rename_i j st'
    split at h
    · rename_i e
      cases h
      simp only [Bool.and_eq_true, Bool.not_eq_true'] at e
      intro C S σ hI
      obtain ⟨p1, p2⟩ := mI_app hF hI (blt_of e.2.2) (mC_new (t := kd) (n := j.toNatClampNeg))
      exact ⟨_, p1, fun r hr => hx j _ _ _ _ _ e.1 e.2.1 (Ev_c rfl (Nat.add_assoc _ _ _).symm (Ev_s (by show Value.ref (ρ m.length) :: mT ν ρ st' = .ref σ.length :: mT ν ρ st'; rw [p2]) hr))⟩
    · cases h
  · cases h
theorem s_new {x : Nat} (hF : mF ρ K L0) (hf : PP.1 μ pc = some (.new x, len, act)) (h : mstep (.new x) len act μ pc ls st m c s = some t) : mOK ν ρ K L0 σ0 μ d pc ls st m c s t := by
  obtain ⟨a1, b1, e1, w1⟩ := act
  unfold mstep at h
  dsimp only at h
  split at h
  · rename_i e
    cases h
    rw [Bool.and_eq_true] at e
    intro C S σ hI
    obtain ⟨p1, p2⟩ := mI_app hF hI (blt_of e.2) (q := .inl (b1, PP.2.2.2.2.1 b1)) (qₚ := .inl (b1, PP.2.2.2.2.1 b1)) (by show Sum.inl (b1, PP.2.2.2.2.1 b1) = Sum.inl (b1, mT ν ρ (PP.2.2.2.2.1 b1)); rw [mpl_all e.1])
    exact ⟨_, p1, fun r hr => y_new hf (Ev_c rfl (Nat.add_assoc _ _ _).symm (Ev_s (by show Value.ref (ρ m.length) :: mT ν ρ st = .ref σ.length :: mT ν ρ st; rw [p2]) hr))⟩
  · cases h
theorem s_multi {x y : _} (hF : mF ρ K L0) (hf : PP.1 μ pc = some (.multianewarray x y, len, act)) (h : mstep (.multianewarray x y) len act μ pc ls st m c s = some t) : mOK ν ρ K L0 σ0 μ d pc ls st m c s t := by
  unfold mstep at h
  dsimp only at h
  split at h
  · rename_i b a st'
    split at h
    · rename_i e
      cases h
      rw [Bool.and_eq_true] at e
      have e2 := e.2
      rw [Bool.and_eq_true] at e2
      have hl := blt_of e2.2
      intro C S σ hI
      have q0 := hI.2.2.2.1
      have q1 := hI.2.1
      have r1 := hF.new (m.length + 1) (by omega) (by omega)
      have r2 := hF.new (m.length + 2) (by omega) (by omega)
      have r3 := hF.new (m.length + 3) (by omega) (by omega)
      obtain ⟨p1, p2⟩ := mI_app hF hI (by omega) (q := .inr (7, 3, .null, [(0, .ref (m.length + 1)), (1, .ref (m.length + 2)), (2, .ref (m.length + 3))])) (qₚ := .inr (7, 3, .null, [(0, .ref (σ.length + 1)), (1, .ref (σ.length + 2)), (2, .ref (σ.length + 3))])) ⟨.null, _, rfl, fun j => by
        rw [show σ.length + 1 = ρ (m.length + 1) by omega, show σ.length + 2 = ρ (m.length + 2) by omega, show σ.length + 3 = ρ (m.length + 3) by omega]
        match j with
        | 0 => rfl
        | 1 => rfl
        | 2 => rfl
        | _ + 3 => rfl⟩
      have z0 : mC ν ρ (.inr (1, b.toNatClampNeg, .int 0, [])) (.inr (1, b.toNatClampNeg, .int 0, [])) := mC_new (t := 1)
      obtain ⟨p3, -⟩ := mI_app hF p1 (by simp; omega) z0
      obtain ⟨p4, -⟩ := mI_app hF p3 (by simp; omega) z0
      obtain ⟨p5, -⟩ := mI_app hF p4 (by simp; omega) z0
      simp only [List.append_assoc, List.cons_append, List.nil_append] at p5
      exact ⟨_, p5, fun r hr => y_multi hf e.1 e2.1 (Ev_c rfl (Nat.add_assoc _ _ _).symm (Ev_s (by show Value.ref (ρ m.length) :: mT ν ρ st' = .ref σ.length :: mT ν ρ st'; rw [p2]) hr))⟩
    · cases h
  · cases h
theorem s_special {x : Nat} (hf : PP.1 μ pc = some (.invokespecial x, len, act)) (h : mstep (.invokespecial x) len act μ pc ls st m c s = some t) : mOK ν ρ K L0 σ0 μ d pc ls st m c s t := by
  obtain ⟨a1, b1, e1, w1⟩ := act
  unfold mstep at h
  dsimp only at h
  split at h
  · split at h
    · split at h
      · rename_i e
        cases h
        exact fun C S σ hI => ⟨σ, hI, fun r hr => y_obj hf ((congrArg (fun q => Nat.ble q 8) (mT_words (ν := ν) (ρ := ρ) _)).trans e) hr⟩
      · cases h
    · cases h
  · cases h
theorem rcall0_1 {ov0 ov : rO} {dv0 dv : Value} (hv : ∀ j, rlk ov dv j = mg ν ρ (rlk ov0 dv0 j)) {sp : Nat} : ∀ {n : Nat}, rcall0 1 ov0 dv0 sp n = true → rcall0 1 ov dv sp n = true
  | 0, _ => rfl
  | n + 1, h => by
    have h : (risI (rlk ov0 dv0 (sp + n)) && rcall0 1 ov0 dv0 sp n) = true := h
    rw [Bool.and_eq_true] at h
    show (risI (rlk ov dv (sp + n)) && rcall0 1 ov dv sp n) = true
    obtain ⟨w, hw⟩ := mg_i (ν := ν) (ρ := ρ) h.1
    rw [hv, hw, rcall0_1 hv h.2]
    rfl
theorem s_static {x : Nat} (hF : mF ρ K L0) (hf : PP.1 μ pc = some (.invokestatic x, len, act)) (h : mstep (.invokestatic x) len act μ pc ls st m c s = some t) : mOK ν ρ K L0 σ0 μ d pc ls st m c s t := by
  obtain ⟨a1, b1, e1, w1⟩ := act
  unfold mstep at h
  dsimp only at h
  split at h
  · split at h
    · rename_i n dp a sp a0 st'
      split at h
      · rename_i q q0 e e0
        obtain ⟨kd, N, dv, ov⟩ := q
        obtain ⟨kd0, N0, dv0, ov0⟩ := q0
        dsimp only at h
        split at h
        · rename_i e2
          cases h
          simp only [Bool.and_eq_true, Bool.not_eq_true'] at e2
          obtain ⟨⟨h1, h2⟩, h3, h4, h5, h6, h7, h8⟩ := e2
          have h3 := Nat.eq_of_beq_eq_true h3
          have h4 := Nat.eq_of_beq_eq_true h4
          subst h3 h4
          intro C S σ hI
          obtain ⟨qₚ, p1, p2⟩ := hI.1 a _ e
          have p2 : ∃ dv' ov', qₚ = .inr (1, N, dv', ov') ∧ ∀ j, rlk ov' dv' j = mg ν ρ (rlk ov dv j) := p2
          obtain ⟨dv', ov', p3, p4⟩ := p2
          rw [p3] at p1
          obtain ⟨q0', u1, u2⟩ := hI.1 a0 _ e0
          have u2 : ∃ dv' ov', q0' = .inr (1, N0, dv', ov') ∧ ∀ j, rlk ov' dv' j = mg ν ρ (rlk ov0 dv0 j) := u2
          obtain ⟨dv0', ov0', u3, u4⟩ := u2
          rw [u3] at u1
          have ha := rat_lt e
          have hl := hI.2.2.1
          refine ⟨_, mI_set hF hI e (qₚ := .inr (1, N, dv', rcpy ov0' dv0' sp.toNatClampNeg dp.toNatClampNeg n.toNatClampNeg ov')) ⟨dv', _, rfl, fun j => ?_⟩, fun r hr => y_copy hf ((congrArg (fun q => Nat.ble q 8) (mT_words (ν := ν) (ρ := ρ) _)).trans h1) p1 u1 h2 h5 h6 (Nat.ble_eq.mpr (show 12 ≤ ρ a from hF.lo a (Nat.le_of_ble_eq_true h7) (by omega))) (rcall0_1 u4 h8) hr⟩
          rw [rcpy_lk]
          show _ = mg ν ρ (rlk (rcpy ov0 dv0 sp.toNatClampNeg dp.toNatClampNeg n.toNatClampNeg ov) dv j)
          rw [rcpy_lk, u4, p4]
          split <;> rfl
        · cases h
      · cases h
    · cases h
  · cases h
end YS
