/-! what a constructor makes out of nothing -/
section INI
variable {σ σₚ : rS}
def mnu0 : mE := ((fun _ => 0, fun _ => 0), fun _ => none)
def mr0 (a : Nat) : Nat → Nat := mrho a (a + 1) (fun _ => 0)
theorem rat_ap {q : rC} {a : Nat} (h : a < σ.length) : rat (σ ++ [q]) a = rat σ a := by
  rw [rat_eq, rat_eq, List.getElem?_append_left h]
theorem rat_ae {q : rC} : rat (σ ++ [q]) σ.length = some q := by
  rw [rat_eq, List.getElem?_append_right (Nat.le_refl _), Nat.sub_self]
  rfl
theorem STC_ap {q : rC} (HT : STC σ) : STC (σ ++ [q]) := fun b hb => by
  obtain ⟨dv, ov, q1, q2⟩ := HT b hb
  exact ⟨dv, ov, by rw [rat_ap (rat_lt q1)]; exact q1, q2⟩
theorem mr0_F {a : Nat} (h : 12 ≤ a) : mF (mr0 a) 12 (a + 1) := mrho_F h (Nat.lt_succ_self a)
theorem mk_I0 {ci : Nat} {fl : List Value} (HT : STC σ) (hfl : fl.all mpl = true) : mI mnu0 (mr0 σ.length) 12 (σ.length + 1) (σ ++ [.inl (ci, fl)]) (mstat ++ [.inl (ci, fl)]) (σ ++ [.inl (ci, fl)]) := by
  have hl : (mstat ++ [(.inl (ci, fl) : rC)]).length = 12 := by rw [List.length_append, mstat_len]; rfl
  refine ⟨fun k q hk => ?_, by omega, by omega, by rw [List.length_append]; show σ.length + 1 = _; omega, fun a _ _ => rfl⟩
  have := rat_lt hk
  by_cases w : k < 11
  · rw [rat_app (by rw [mstat_len]; exact w), mstat_at w] at hk
    cases hk
    obtain ⟨dv, ov, q1, q2⟩ := STC_ap (q := .inl (ci, fl)) HT k w
    refine ⟨_, by rw [show mr0 σ.length k = k from mrho_lo w]; exact q1, dv, ov, rfl, fun j => ?_⟩
    rw [q2]
    show _ = mg _ _ (rlk (mov 0 (stl k)) (.int 0) j)
    have e := mov_lk (stl k) 0 j
    rw [Nat.zero_add] at e
    rw [e]
    rfl
  · have w : k = 11 := by omega
    subst w
    have e : rat (mstat ++ [(.inl (ci, fl) : rC)]) 11 = some (.inl (ci, fl)) := by
      have := rat_new (σ := mstat) (q := .inl (ci, fl))
      rw [mstat_len] at this
      exact this
    rw [e] at hk
    cases hk
    refine ⟨_, rat_ae, ?_⟩
    show Sum.inl (ci, fl) = Sum.inl (ci, mT mnu0 (mr0 σ.length) fl)
    rw [mpl_all hfl]
/-- a constructor is called -/
theorem mk_new {n d e μ ci cc ss C T : Nat} {fl : List Value} {l : rS} {Q : wQ}
    (he : mrun n d μ 0 (rargs 0 [.ref 11]) [] (mstat ++ [.inl (ci, fl)]) 0 0 = some (none, mstat ++ l, cc, ss)) (HT : STC σ) (hfl : fl.all mpl = true) (h12 : 12 ≤ σ.length)
    (k : ∀ σₚ, mI mnu0 (mr0 σ.length) 12 (σ.length + 1) (σ ++ [.inl (ci, fl)]) (mstat ++ l) σₚ → Q none σₚ (C + cc) (T + ss)) :
    Ew μ (d + e) 0 (rargs 0 [.ref σ.length]) [] (σ ++ [.inl (ci, fl)]) C T Q := by
  have w : ∀ Q : wQ, (∀ σₚ, mI mnu0 (mr0 σ.length) 12 (σ.length + 1) (σ ++ [.inl (ci, fl)]) (mstat ++ l) σₚ → Q (Option.map (mg mnu0 (mr0 σ.length)) none) σₚ (C + cc) (T + ss)) → Ew μ (d + e) 0 (mL mnu0 (mr0 σ.length) (rargs 0 [.ref 11])) (mT mnu0 (mr0 σ.length) []) (σ ++ [.inl (ci, fl)]) (C + 0) (T + 0) Q :=
    fun Q hQ => mrun_ok (mr0_F h12) n (d + e) μ 0 (rargs 0 [.ref 11]) [] (mstat ++ [.inl (ci, fl)]) 0 0 (none, mstat ++ l, cc, ss) (mrun_d n d μ 0 _ _ _ 0 0 _ he e) C T (σ ++ [.inl (ci, fl)]) Q (mk_I0 HT hfl) hQ
  exact w Q k
theorem mk_newR {n d e μ ci cc ss C T : Nat} {fl : List Value} {l : rS} {Q : wQ}
    (he : mrun n d μ 0 (rargs 0 [.ref 11]) [] (mstat ++ [.inl (ci, fl)]) 0 0 = some (none, mstat ++ l, cc, ss)) (HT : STC σ) (hfl : fl.all mpl = true) (h12 : 12 ≤ σ.length)
    (k : ∀ σₚ, mI mnu0 (mr0 σ.length) 12 (σ.length + 1) (σ ++ [.inl (ci, fl)]) (mstat ++ l) σₚ → Q none σₚ (C + cc) (T + ss)) :
    Ew μ (e + d) 0 (rargs 0 [.ref σ.length]) [] (σ ++ [.inl (ci, fl)]) C T Q := by
  rw [Nat.add_comm e d]
  exact mk_new he HT hfl h12 k
theorem w_new {μ d pc len c s x q ci ns : Nat} {ls : rO} {st : List Value} {z : Value} {Q : wQ} (hf : PP.1 μ pc = some (.new x, len, (q, ci, ns, z))) (k : Ew μ d (pc + 3) ls (.ref σ.length :: st) (σ ++ [.inl (ci, PP.2.2.2.2.1 ci)]) (c + 1) (s + ns) Q) : Ew μ d pc ls st σ c s Q := by
  obtain ⟨v, σₚ, cₚ, sₚ, h, w⟩ := k
  exact ⟨v, σₚ, cₚ, sₚ, y_new hf h, w⟩
theorem PHI_keep {g : Nat → Bool} {D N : Nat → Nat} {F : hF} {A : hA} (X : PHI g σ D N F A) (HT : STC σₚ) (e : ∀ x, x < VPH.length → SPH g x = true → rat σₚ (D x) = rat σ (D x)) : PHI g σₚ D N F A := by
  obtain ⟨HX, -, rest⟩ := X
  exact ⟨⟨fun x hx hp ha => by rw [e x hx hp]; exact HX.1 x hx hp ha, fun x hx hp ha => by rw [e x hx hp]; exact HX.2.1 x hx hp ha, HX.2.2.1, HX.2.2.2.1, HX.2.2.2.2.1, HX.2.2.2.2.2.1, HX.2.2.2.2.2.2⟩, HT, rest⟩
/-- the cells that were there stay -/
theorem mk_stay {ci : Nat} {fl : List Value} {l : rS} (hI : mI mnu0 (mr0 σ.length) 12 (σ.length + 1) (σ ++ [.inl (ci, fl)]) (mstat ++ l) σₚ) {a : Nat} (h1 : 11 ≤ a) (h2 : a < σ.length) : rat σₚ a = rat σ a := by
  rw [hI.2.2.2.2 a (by omega) (fun k hk e => ?_), rat_ap h2]
  by_cases w : k < 11
  · rw [show mr0 σ.length k = k from mrho_lo w] at e; omega
  · have w : k = 11 := by omega
    subst w
    rw [show mr0 σ.length 11 = σ.length from mrho_11] at e
    omega
/-- a view out of nothing -/
theorem HWs_nil {V : vV} {D N : Nat → Nat} {F : hF} {A : hA} : HWs (fun _ => false) V σ D N F A := ⟨fun _ _ h => Bool.noConfusion h, fun _ _ h => Bool.noConfusion h, fun _ _ _ _ h => Bool.noConfusion h, fun _ _ h => Bool.noConfusion h, fun _ _ _ h => Bool.noConfusion h, fun _ _ _ h => Bool.noConfusion h, fun _ _ h => Bool.noConfusion h⟩
theorem HWs_new {V W : vV} {ι : List Nat} {D N Dₚ Nₚ : Nat → Nat} {F Fₚ : hF} {A Aₚ : hA} (h3 : vn3 V = true) (hs : VS V W ι) (Hₚ : HW W σₚ Dₚ Nₚ Fₚ Aₚ) : HWs (fun y => (fnd y ι).isSome) V σₚ (glu ι D Dₚ) (glu ι N Nₚ) (glu ι F Fₚ) (glu ι A Aₚ) := by
  refine HWs_congr (HWs_glue (S := fun _ => false) (σ := []) (D := D) (N := N) (F := F) (A := A) HWs_nil h3 hs Hₚ (fun a _ h _ => absurd h (Nat.not_lt_zero a)) (fun x _ => .inr (Nat.zero_le _))) (fun x _ hx => ?_)
  show (false || (fnd x ι).isSome) = true
  rw [hx]
  rfl
end INI
/-! the reference's tables out of a run -/
section INR
variable {ν : mE} {ρ : Nat → Nat} {K L0 : Nat} {σ0 σ m : rS} {κ : List Nat}
def rfz (κ : List Nat) : Value → Int
  | .int v => v.toInt
  | .long v => v.toInt
  | .ref a => match fnd a κ with
    | some p => (p : Int)
    | none => -1
  | _ => -1
def hzD (ρ : Nat → Nat) (κ : List Nat) : Nat → Nat := fun o => bif Nat.beq (κ.getD o 0) 0 then 0 else ρ (κ.getD o 0)
noncomputable def hzN (κ : List Nat) (m : rS) : Nat → Nat := fun o => match rat m (κ.getD o 0) with
  | some (.inr q) => q.2.1
  | _ => 0
noncomputable def hzF (κ : List Nat) (m : rS) : hF := fun o k => bif Nat.beq (κ.getD o 0) 0 then 0 else match rat m (κ.getD o 0) with
  | some (.inl q) => rfz κ (q.2.getD k (.int 0))
  | _ => 0
noncomputable def hzA (κ : List Nat) (m : rS) : hA := fun o i => bif Nat.beq (κ.getD o 0) 0 then 0 else match rat m (κ.getD o 0) with
  | some (.inr q) => rfz κ (rlk q.2.2.2 q.2.2.1 i.toNat)
  | _ => 0
def hzk (κ : List Nat) (kd : Nat) (v : Value) : Bool := match v with
  | .int _ => Nat.beq kd 0 || Nat.beq kd 1
  | .long _ => Nat.beq kd 2
  | .ref a => Nat.beq kd 3 && (match fnd a κ with
    | some p => Nat.beq (κ.getD p 0) a && !(Nat.beq a 0)
    | none => false)
  | .null => Nat.beq kd 3
  | _ => false
theorem hzk_ok {kd : Nat} {v : Value} (h : hzk κ kd v = true) : mg ν ρ v = fv (hzD ρ κ) kd (rfz κ v) := by
  cases v with
  | int w =>
    have h : (Nat.beq kd 0 || Nat.beq kd 1) = true := h
    rw [Bool.or_eq_true] at h
    rcases h with h | h
    · rw [Nat.eq_of_beq_eq_true h]; exact congrArg Value.int (toI_of w).symm
    · rw [Nat.eq_of_beq_eq_true h]; exact congrArg Value.int (toI_of w).symm
  | long w =>
    rw [Nat.eq_of_beq_eq_true (show Nat.beq kd 2 = true from h)]
    exact congrArg Value.long (Int64.ofInt_toInt w).symm
  | null =>
    rw [Nat.eq_of_beq_eq_true (show Nat.beq kd 3 = true from h)]
    rfl
  | ref a =>
    unfold hzk at h
    rw [Bool.and_eq_true] at h
    rw [Nat.eq_of_beq_eq_true h.1]
    have h2 := h.2
    show Value.ref (ρ a) = fv (hzD ρ κ) 3 (match fnd a κ with | some p => (p : Int) | none => -1)
    cases hf : fnd a κ with
    | none => rw [hf] at h2; cases h2
    | some p =>
      rw [hf] at h2
      have h2 : (Nat.beq (κ.getD p 0) a && !(Nat.beq a 0)) = true := h2
      rw [Bool.and_eq_true] at h2
      have e := Nat.eq_of_beq_eq_true h2.1
      show Value.ref (ρ a) = if ((p : Nat) : Int) < 0 then .null else .ref (hzD ρ κ ((p : Nat) : Int).toNat)
      rw [if_neg (by omega), Int.toNat_natCast]
      unfold hzD
      rw [e]
      have e0 : Nat.beq a 0 = false := by
        cases q : Nat.beq a 0 with
        | false => rfl
        | true => rw [q] at h2; cases h2.2
      rw [e0]
      rfl
  | _ => cases h
def hza (ak : Nat) (v : Value) : Bool := match v with
  | .int _ => !(Nat.beq ak 2)
  | .long _ => Nat.beq ak 2
  | _ => false
theorem hza_ok {ak : Nat} {v : Value} (h : hza ak v = true) (h4 : ak < 4) : mg ν ρ v = av (hzD ρ κ) ak (rfz κ v) := by
  cases v with
  | int w =>
    have h : (!(Nat.beq ak 2)) = true := h
    match ak, h4, h with
    | 0, _, _ => exact congrArg Value.int (toI_of w).symm
    | 1, _, _ => exact congrArg Value.int (toI_of w).symm
    | 2, _, h => cases h
    | 3, _, _ => exact congrArg Value.int (toI_of w).symm
    | n + 4, h4, _ => omega
  | long w =>
    rw [Nat.eq_of_beq_eq_true (show Nat.beq ak 2 = true from h)]
    exact congrArg Value.long (Int64.ofInt_toInt w).symm
  | _ => cases h
/-- is a thing of the reference laid as its tables say -/
noncomputable def hzx (κ : List Nat) (m : rS) (o : Nat) : Bool := Nat.beq (κ.getD o 0) 0 || match rat m (κ.getD o 0) with
  | some (.inl q) => Nat.ble 11 (κ.getD o 0) && (!(t_arr o) && (Nat.beq q.1 (t_cls o) && (Nat.beq q.2.length (t_nf (t_cls o)) && (List.range (t_nf (t_cls o))).all (fun k => hzk κ (t_kd (t_cls o) k) (q.2.getD k (.int 0)) && (decide (t_flo (t_cls o) k ≤ rfz κ (q.2.getD k (.int 0))) && decide (rfz κ (q.2.getD k (.int 0)) ≤ t_fhi (t_cls o) k))))))
  | some (.inr q) => Nat.ble 11 (κ.getD o 0) && (t_arr o && (Nat.beq q.1 (t_ak o) && (Nat.beq q.2.1 (t_len o) && (Nat.blt (t_ak o) 4 && ((hza (t_ak o) q.2.2.1 && decide (rfz κ q.2.2.1 = 0)) && q.2.2.2.all (fun z => hza (t_ak o) z.2 && (decide (t_alo o ≤ rfz κ z.2) && decide (rfz κ z.2 ≤ t_ahi o))))))))
  | none => false
def hznd : List Nat → Bool
  | [] => true
  | k :: l => (Nat.beq k 0 || l.all (fun j => !(Nat.beq j k))) && hznd l
theorem hznd_inj : ∀ {l : List Nat} {x y : Nat}, hznd l = true → l.getD x 0 ≠ 0 → l.getD x 0 = l.getD y 0 → x = y
  | [], x, y, _, h0, _ => absurd (show ([] : List Nat).getD x 0 = 0 by cases x <;> rfl) h0
  | k :: l, 0, 0, _, _, _ => rfl
  | k :: l, 0, y + 1, h, h0, e => by
    have h : ((Nat.beq k 0 || l.all (fun j => !(Nat.beq j k))) && hznd l) = true := h
    rw [Bool.and_eq_true, Bool.or_eq_true] at h
    have h0 : k ≠ 0 := h0
    have e : k = l.getD y 0 := e
    rcases h.1 with q | q
    · exact absurd (Nat.eq_of_beq_eq_true q) h0
    · by_cases hy : y < l.length
      · have w := List.all_eq_true.mp q (l.getD y 0) (by rw [List.getD_eq_getElem?_getD, List.getElem?_eq_getElem hy]; exact List.getElem_mem hy)
        rw [← e, Nat.beq_refl] at w
        cases w
      · rw [List.getD_eq_getElem?_getD, List.getElem?_eq_none (by omega)] at e
        exact absurd e h0
  | k :: l, x + 1, 0, h, h0, e => by
    have h : ((Nat.beq k 0 || l.all (fun j => !(Nat.beq j k))) && hznd l) = true := h
    rw [Bool.and_eq_true, Bool.or_eq_true] at h
    have e : l.getD x 0 = k := e
    have h0 : l.getD x 0 ≠ 0 := h0
    rcases h.1 with q | q
    · exact absurd (e.trans (Nat.eq_of_beq_eq_true q)) h0
    · by_cases hy : x < l.length
      · have w := List.all_eq_true.mp q (l.getD x 0) (by rw [List.getD_eq_getElem?_getD, List.getElem?_eq_getElem hy]; exact List.getElem_mem hy)
        rw [e, Nat.beq_refl] at w
        cases w
      · rw [List.getD_eq_getElem?_getD, List.getElem?_eq_none (by omega)] at h0
        exact absurd rfl h0
  | k :: l, x + 1, y + 1, h, h0, e => by
    have h : ((Nat.beq k 0 || l.all (fun j => !(Nat.beq j k))) && hznd l) = true := h
    rw [Bool.and_eq_true] at h
    have := hznd_inj (l := l) (x := x) (y := y) h.2 h0 e
    omega
noncomputable def hzall (κ : List Nat) (m : rS) : Bool := Nat.beq κ.length 89 && (hznd κ && (List.range 89).all (fun o => hzx κ m o && (!(t_perm o) || !(Nat.beq (κ.getD o 0) 0))))
theorem bne_f {a : Nat} (h : a ≠ 0) : Nat.beq a 0 = false := beqf h
theorem mHS (hF : mF ρ K L0) (hI : mI ν ρ K L0 σ0 m σ) (h : hzall κ m = true) (hz : ∀ o, t_alo o ≤ 0 ∧ 0 ≤ t_ahi o) (hf0 : ∀ o k, ¬ (o < 7 ∧ k < t_nf (t_cls o)) → t_flo (t_cls o) k = 0 ∧ t_fhi (t_cls o) k = 0) : HS σ σ (hzD ρ κ) (hzN κ m) (hzF κ m) (hzA κ m) := by
  unfold hzall at h
  simp only [Bool.and_eq_true] at h
  obtain ⟨h1, h2, h3⟩ := h
  have h1 := Nat.eq_of_beq_eq_true h1
  have out : ∀ o, 89 ≤ o → κ.getD o 0 = 0 := fun o ho => by rw [List.getD_eq_getElem?_getD, List.getElem?_eq_none (by omega)]; rfl
  have lt : ∀ o, κ.getD o 0 ≠ 0 → o < 89 := fun o ho => by
    by_cases q : o < 89
    · exact q
    · exact absurd (out o (by omega)) ho
  have hx : ∀ o, κ.getD o 0 ≠ 0 → (match rat m (κ.getD o 0) with
      | some (.inl q) => Nat.ble 11 (κ.getD o 0) && (!(t_arr o) && (Nat.beq q.1 (t_cls o) && (Nat.beq q.2.length (t_nf (t_cls o)) && (List.range (t_nf (t_cls o))).all (fun k => hzk κ (t_kd (t_cls o) k) (q.2.getD k (.int 0)) && (decide (t_flo (t_cls o) k ≤ rfz κ (q.2.getD k (.int 0))) && decide (rfz κ (q.2.getD k (.int 0)) ≤ t_fhi (t_cls o) k))))))
      | some (.inr q) => Nat.ble 11 (κ.getD o 0) && (t_arr o && (Nat.beq q.1 (t_ak o) && (Nat.beq q.2.1 (t_len o) && (Nat.blt (t_ak o) 4 && ((hza (t_ak o) q.2.2.1 && decide (rfz κ q.2.2.1 = 0)) && q.2.2.2.all (fun z => hza (t_ak o) z.2 && (decide (t_alo o ≤ rfz κ z.2) && decide (rfz κ z.2 ≤ t_ahi o))))))))
      | none => false) = true := fun o ho => by
    have w := List.all_eq_true.mp h3 o (List.mem_range.mpr (lt o ho))
    rw [Bool.and_eq_true] at w
    have w := w.1
    unfold hzx at w
    rw [bne_f ho, Bool.false_or] at w
    exact w
  have kD : ∀ {o}, hzD ρ κ o ≠ 0 → κ.getD o 0 ≠ 0 := fun {o} ho e => ho (by unfold hzD; rw [e]; rfl)
  have De : ∀ {o}, κ.getD o 0 ≠ 0 → hzD ρ κ o = ρ (κ.getD o 0) := fun {o} ho => by unfold hzD; rw [bne_f ho]; rfl
  have rg : ∀ {o}, κ.getD o 0 ≠ 0 → 11 ≤ κ.getD o 0 ∧ κ.getD o 0 < 1000 := fun {o} ho => by
    have w := hx o ho
    have l := hI.2.2.1
    split at w
    · rename_i e
      have := rat_lt e
      simp only [Bool.and_eq_true] at w
      exact ⟨Nat.le_of_ble_eq_true w.1, by omega⟩
    · rename_i e
      have := rat_lt e
      simp only [Bool.and_eq_true] at w
      exact ⟨Nat.le_of_ble_eq_true w.1, by omega⟩
    · cases w
  have c7 : ∀ o, ¬ o < 7 → t_arr o = false → κ.getD o 0 = 0 ∨ t_cls o = 0 := fun o h7 _ => .inr (by
    unfold t_cls
    rw [beqf (show o ≠ 0 by omega), beqf (show o ≠ 1 by omega), beqf (show o ≠ 2 by omega), beqf (show o ≠ 3 by omega), beqf (show o ≠ 4 by omega), beqf (show o ≠ 5 by omega), beqf (show o ≠ 6 by omega)]
    rfl)
  unfold HS
  refine ⟨fun o ho ha => ?_, fun o ho ha => ?_, fun o o' ho e => ?_, fun o ho => ?_, fun o hp => ?_, fun o hp ha => ?_, fun o k => ?_, fun o i => ?_, fun _ _ => rfl, rfl⟩
  · have hk := kD ho
    have w := hx o hk
    rw [De hk]
    split at w
    · rename_i q e
      simp only [Bool.and_eq_true] at w
      obtain ⟨w1, w2, w3, w4, w5⟩ := w
      obtain ⟨qₚ, p1, p2⟩ := hI.1 _ _ e
      have p2 : qₚ = .inl (q.1, mT ν ρ q.2) := p2
      rw [p1, p2, ← Nat.eq_of_beq_eq_true w3]
      have w4 := Nat.eq_of_beq_eq_true w4
      congr 3
      apply List.ext_getElem
      · unfold mT
        rw [List.length_map, List.length_map, List.length_range, w4, Nat.eq_of_beq_eq_true w3]
      · intro k a b
        unfold mT at a ⊢
        rw [List.length_map] at a
        rw [List.getElem_map, List.getElem_map, List.getElem_range]
        have w := List.all_eq_true.mp w5 k (List.mem_range.mpr (by omega))
        rw [Bool.and_eq_true] at w
        have e2 : q.2.getD k (.int 0) = q.2[k] := by rw [List.getD_eq_getElem?_getD, List.getElem?_eq_getElem a]; rfl
        have f2 : hzF κ m o k = rfz κ (q.2.getD k (.int 0)) := by
          unfold hzF
          rw [bne_f hk, e]
          rfl
        rw [f2, Nat.eq_of_beq_eq_true w3, ← e2]
        exact hzk_ok w.1
    · simp only [Bool.and_eq_true] at w
      rw [ha] at w
      cases w.2.1
    · cases w
  · have hk := kD ho
    have w := hx o hk
    rw [De hk]
    split at w
    · simp only [Bool.and_eq_true] at w
      rw [ha] at w
      cases w.2.1
    · rename_i q e
      simp only [Bool.and_eq_true] at w
      obtain ⟨w1, w2, w3, w4, w5, ⟨w6, w7⟩, w8⟩ := w
      obtain ⟨qₚ, p1, dv, ov, p2, p3⟩ := hI.1 _ _ e
      refine ⟨dv, ov, ?_, fun j => ?_⟩
      · rw [p1, p2, Nat.eq_of_beq_eq_true w3]
        unfold hzN
        rw [e]
      · rw [p3]
        have v := mrlk (p := hza (t_ak o)) (ov := q.2.2.2) (dv := q.2.2.1) (j := j) w6 (List.all_eq_true.mpr (fun z hz => by have := List.all_eq_true.mp w8 z hz; rw [Bool.and_eq_true] at this; exact this.1))
        rw [hza_ok v (blt_of w5)]
        unfold hzA
        rw [bne_f hk, e]
        rfl
    · cases w
  · have hk := kD ho
    have hk' := kD (o := o') (by rw [← e]; exact ho)
    rw [De hk, De hk'] at e
    exact hznd_inj h2 hk (hF.inj _ _ (rg hk).2 (rg hk').2 e)
  · have hk := kD ho
    rw [De hk]
    exact hF.lo _ (rg hk).1 (rg hk).2
  · have l89 : o < 89 := by
      unfold t_perm at hp
      rw [Bool.and_eq_true] at hp
      exact blt_of hp.1
    have w := List.all_eq_true.mp h3 o (List.mem_range.mpr l89)
    rw [Bool.and_eq_true, hp] at w
    have w : (!(Nat.beq (κ.getD o 0) 0)) = true := w.2
    have hk : κ.getD o 0 ≠ 0 := fun e => by rw [e] at w; cases w
    rw [De hk]
    have := hF.lo _ (rg hk).1 (rg hk).2
    omega
  · have l89 : o < 89 := by
      unfold t_perm at hp
      rw [Bool.and_eq_true] at hp
      exact blt_of hp.1
    have w := List.all_eq_true.mp h3 o (List.mem_range.mpr l89)
    rw [Bool.and_eq_true, hp] at w
    have w : (!(Nat.beq (κ.getD o 0) 0)) = true := w.2
    have hk : κ.getD o 0 ≠ 0 := fun e => by rw [e] at w; cases w
    have w := hx o hk
    unfold hzN
    split at w
    · simp only [Bool.and_eq_true] at w
      rw [ha] at w
      cases w.2.1
    · rename_i q e
      rw [e]
      simp only [Bool.and_eq_true] at w
      exact Nat.eq_of_beq_eq_true w.2.2.2.1
    · cases w
  · by_cases hk : κ.getD o 0 = 0
    · have e : hzF κ m o k = 0 := by unfold hzF; rw [hk]; rfl
      rw [e]
      by_cases q : o < 7 ∧ k < t_nf (t_cls o)
      · have hp : t_perm o = true := by
          unfold t_perm
          rw [show Nat.blt o 89 = true from Nat.ble_eq.mpr (show o + 1 ≤ 89 by omega), show Nat.blt o 7 = true from Nat.ble_eq.mpr (show o + 1 ≤ 7 by omega)]
          rfl
        have w := List.all_eq_true.mp h3 o (List.mem_range.mpr (by omega))
        rw [Bool.and_eq_true, hp, hk] at w
        cases w.2
      · have := hf0 o k q
        omega
    · have w := hx o hk
      unfold hzF
      rw [bne_f hk]
      show t_flo (t_cls o) k ≤ (match rat m (κ.getD o 0) with | some (.inl q) => rfz κ (q.2.getD k (.int 0)) | _ => 0) ∧ (match rat m (κ.getD o 0) with | some (.inl q) => rfz κ (q.2.getD k (.int 0)) | _ => 0) ≤ t_fhi (t_cls o) k
      split at w
      · rename_i q e
        rw [e]
        simp only [Bool.and_eq_true] at w
        obtain ⟨w1, w2, w3, w4, w5⟩ := w
        show t_flo (t_cls o) k ≤ rfz κ (q.2.getD k (.int 0)) ∧ rfz κ (q.2.getD k (.int 0)) ≤ t_fhi (t_cls o) k
        by_cases hkk : k < t_nf (t_cls o)
        · have w := List.all_eq_true.mp w5 k (List.mem_range.mpr hkk)
          simp only [Bool.and_eq_true, decide_eq_true_eq] at w
          exact w.2
        · have z := hf0 o k (fun q => hkk q.2)
          rw [List.getD_eq_getElem?_getD, List.getElem?_eq_none (by have := Nat.eq_of_beq_eq_true w4; omega)]
          show t_flo (t_cls o) k ≤ (0 : Int32).toInt ∧ (0 : Int32).toInt ≤ t_fhi (t_cls o) k
          have : (0 : Int32).toInt = 0 := rfl
          omega
      · rename_i q e
        rw [e]
        simp only [Bool.and_eq_true] at w
        have ha : Nat.ble 10 o = true := w.2.1
        have ha := Nat.le_of_ble_eq_true ha
        have z := hf0 o k (fun q => by omega)
        show t_flo (t_cls o) k ≤ 0 ∧ 0 ≤ t_fhi (t_cls o) k
        omega
      · cases w
  · by_cases hk : κ.getD o 0 = 0
    · have e : hzA κ m o i = 0 := by unfold hzA; rw [hk]; rfl
      rw [e]
      exact hz o
    · have w := hx o hk
      unfold hzA
      rw [bne_f hk]
      show t_alo o ≤ (match rat m (κ.getD o 0) with | some (.inr q) => rfz κ (rlk q.2.2.2 q.2.2.1 i.toNat) | _ => 0) ∧ (match rat m (κ.getD o 0) with | some (.inr q) => rfz κ (rlk q.2.2.2 q.2.2.1 i.toNat) | _ => 0) ≤ t_ahi o
      split at w
      · rename_i q e
        rw [e]
        exact hz o
      · rename_i q e
        rw [e]
        simp only [Bool.and_eq_true] at w
        obtain ⟨w1, w2, w3, w4, w5, ⟨w6, w7⟩, w8⟩ := w
        have w7 := of_decide_eq_true w7
        have v := mrlk (p := fun v => decide (t_alo o ≤ rfz κ v ∧ rfz κ v ≤ t_ahi o)) (ov := q.2.2.2) (dv := q.2.2.1) (j := i.toNat) (by rw [decide_eq_true_eq, w7]; exact hz o) (List.all_eq_true.mpr (fun z hz => by have := List.all_eq_true.mp w8 z hz; simp only [Bool.and_eq_true, decide_eq_true_eq] at this; exact decide_eq_true this.2))
        exact of_decide_eq_true v
      · cases w
theorem hzA_0 {o t n : Nat} {v : Value} (h : rat m (κ.getD o 0) = some (.inr (t, n, v, []))) (hv : rfz κ v = 0) : hzA κ m o = fun _ => 0 := funext (fun i => by
  unfold hzA
  rw [h]
  cases Nat.beq (κ.getD o 0) 0 with
  | true => rfl
  | false => exact hv)
end INR
theorem cond_le {b : Bool} {x y z : Int} (hx : x ≤ z) (hy : y ≤ z) : (bif b then x else y) ≤ z := by cases b <;> assumption
theorem le_cond {b : Bool} {x y z : Int} (hx : z ≤ x) (hy : z ≤ y) : z ≤ (bif b then x else y) := by cases b <;> assumption
theorem t_z (o : Nat) : t_alo o ≤ 0 ∧ 0 ≤ t_ahi o := by
  constructor
  · unfold t_alo
    repeat' apply cond_le
    all_goals decide
  · unfold t_ahi
    repeat' apply le_cond
    all_goals decide
theorem hzD_ge {κ : List Nat} {a : Nat} (h : κ.all (fun q => Nat.beq q 0 || (Nat.ble 11 q && Nat.blt q 1000)) = true) {o : Nat} (ho : hzD (mr0 a) κ o ≠ 0) : a ≤ hzD (mr0 a) κ o := by
  unfold hzD at ho ⊢
  cases q : Nat.beq (κ.getD o 0) 0 with
  | true => rw [q] at ho; exact absurd rfl ho
  | false =>
    show a ≤ mr0 a (κ.getD o 0)
    have hm : κ.getD o 0 ∈ κ := by
      by_cases hl : o < κ.length
      · rw [List.getD_eq_getElem?_getD, List.getElem?_eq_getElem hl]
        exact List.getElem_mem hl
      · rw [List.getD_eq_getElem?_getD, List.getElem?_eq_none (by omega)] at q
        cases q
    have w := List.all_eq_true.mp h _ hm
    rw [q, Bool.false_or, Bool.and_eq_true] at w
    have w1 := Nat.le_of_ble_eq_true w.1
    have w2 := blt_of w.2
    by_cases e : κ.getD o 0 = 11
    · rw [e, show mr0 a 11 = a from mrho_11]
      exact Nat.le_refl _
    · rw [show mr0 a (κ.getD o 0) = a + 1 + (κ.getD o 0 - 12) from mrho_new (by omega) w2]
      omega
