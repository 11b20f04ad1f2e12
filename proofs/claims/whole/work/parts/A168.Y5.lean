section
/-! Y5.init -/
section INI
variable {σ σₚ : rS}
def mnu0 : mE := ((fun _ => 0, fun _ => 0), fun _ => none)
def mr0 (a : Nat) : Nat → Nat := mrho a (a + 1) (fun _ => 0)
theorem rat_ap {q : rC} {a : Nat} (h : a < σ.length) : rat (σ ++ [q]) a = rat σ a := by
  rw [rat_eq, rat_eq, List.getElem?_append_left h]
theorem rat_ae {q : rC} : rat (σ ++ [q]) σ.length = some q := by
  rw [rat_eq, List.getElem?_append_right (Nat.le_refl _), Nat.sub_self]
  rfl
theorem STC_ap {q : rC} (HT : STC σ) : STC (σ ++ [q]) := fun b hb => by
  obtain ⟨dv, ov, q1, q2⟩ := HT b hb
  exact ⟨dv, ov, by rw [rat_ap (rat_lt q1)]; exact q1, q2⟩
theorem mr0_F {a : Nat} (h : 12 ≤ a) : mF (mr0 a) 12 (a + 1) := mrho_F h (Nat.lt_succ_self a)
theorem mk_I0 {ci : Nat} {fl : List Value} (HT : STC σ) (hfl : fl.all mpl = true) : mI mnu0 (mr0 σ.length) 12 (σ.length + 1) (σ ++ [.inl (ci, fl)]) (mstat ++ [.inl (ci, fl)]) (σ ++ [.inl (ci, fl)]) := by
  have hl : (mstat ++ [(.inl (ci, fl) : rC)]).length = 12 := by rw [List.length_append, mstat_len]; rfl
  refine ⟨fun k q hk => ?_, by omega, by omega, by rw [List.length_append]; show σ.length + 1 = _; omega, fun a _ _ => rfl⟩
  have := rat_lt hk
  by_cases w : k < 11
  · rw [rat_app (by rw [mstat_len]; exact w), mstat_at w] at hk
    cases hk
    obtain ⟨dv, ov, q1, q2⟩ := STC_ap (q := .inl (ci, fl)) HT k w
    refine ⟨_, by rw [show mr0 σ.length k = k from mrho_lo w]; exact q1, dv, ov, rfl, fun j => ?_⟩
    rw [q2]
    show _ = mg _ _ (rlk (mov 0 (stl k)) (.int 0) j)
    have e := mov_lk (stl k) 0 j
    rw [Nat.zero_add] at e
    rw [e]
    rfl
  · have w : k = 11 := by omega
    subst w
    have e : rat (mstat ++ [(.inl (ci, fl) : rC)]) 11 = some (.inl (ci, fl)) := by
      have := rat_new (σ := mstat) (q := .inl (ci, fl))
      rw [mstat_len] at this
      exact this
    rw [e] at hk
    cases hk
    refine ⟨_, rat_ae, ?_⟩
    show Sum.inl (ci, fl) = Sum.inl (ci, mT mnu0 (mr0 σ.length) fl)
    rw [mpl_all hfl]

theorem mk_new {n d e μ ci cc ss C T : Nat} {fl : List Value} {l : rS} {Q : wQ}
    (he : mrun n d μ 0 (rargs 0 [.ref 11]) [] (mstat ++ [.inl (ci, fl)]) 0 0 = some (none, mstat ++ l, cc, ss)) (HT : STC σ) (hfl : fl.all mpl = true) (h12 : 12 ≤ σ.length)
    (k : ∀ σₚ, mI mnu0 (mr0 σ.length) 12 (σ.length + 1) (σ ++ [.inl (ci, fl)]) (mstat ++ l) σₚ → Q none σₚ (C + cc) (T + ss)) :
    Ew μ (d + e) 0 (rargs 0 [.ref σ.length]) [] (σ ++ [.inl (ci, fl)]) C T Q := by
  have w : ∀ Q : wQ, (∀ σₚ, mI mnu0 (mr0 σ.length) 12 (σ.length + 1) (σ ++ [.inl (ci, fl)]) (mstat ++ l) σₚ → Q (Option.map (mg mnu0 (mr0 σ.length)) none) σₚ (C + cc) (T + ss)) → Ew μ (d + e) 0 (mL mnu0 (mr0 σ.length) (rargs 0 [.ref 11])) (mT mnu0 (mr0 σ.length) []) (σ ++ [.inl (ci, fl)]) (C + 0) (T + 0) Q :=
    fun Q hQ => mrun_ok (mr0_F h12) n (d + e) μ 0 (rargs 0 [.ref 11]) [] (mstat ++ [.inl (ci, fl)]) 0 0 (none, mstat ++ l, cc, ss) (mrun_d n d μ 0 _ _ _ 0 0 _ he e) C T (σ ++ [.inl (ci, fl)]) Q (mk_I0 HT hfl) hQ
  exact w Q k
theorem mk_newR {n d e μ ci cc ss C T : Nat} {fl : List Value} {l : rS} {Q : wQ}
    (he : mrun n d μ 0 (rargs 0 [.ref 11]) [] (mstat ++ [.inl (ci, fl)]) 0 0 = some (none, mstat ++ l, cc, ss)) (HT : STC σ) (hfl : fl.all mpl = true) (h12 : 12 ≤ σ.length)
    (k : ∀ σₚ, mI mnu0 (mr0 σ.length) 12 (σ.length + 1) (σ ++ [.inl (ci, fl)]) (mstat ++ l) σₚ → Q none σₚ (C + cc) (T + ss)) :
    Ew μ (e + d) 0 (rargs 0 [.ref σ.length]) [] (σ ++ [.inl (ci, fl)]) C T Q := by
  rw [Nat.add_comm e d]
  exact mk_new he HT hfl h12 k
theorem w_new {μ d pc len c s x q ci ns : Nat} {ls : rO} {st : List Value} {z : Value} {Q : wQ} (hf : PP.1 μ pc = some (.new x, len, (q, ci, ns, z))) (k : Ew μ d (pc + 3) ls (.ref σ.length :: st) (σ ++ [.inl (ci, PP.2.2.2.2.1 ci)]) (c + 1) (s + ns) Q) : Ew μ d pc ls st σ c s Q := by
  obtain ⟨v, σₚ, cₚ, sₚ, h, w⟩ := k
  exact ⟨v, σₚ, cₚ, sₚ, y_new hf h, w⟩
theorem PHI_keep {Dc : DcS} {g : Nat → Bool} {D N : Nat → Nat} {F : hF} {A : hA} (X : PHI Dc g σ D N F A) (HT : STC σₚ) (e : ∀ x, x < VPH.length → SPH g x = true → rat σₚ (D x) = rat σ (D x)) : PHI Dc g σₚ D N F A := by
  obtain ⟨HX, -, rest⟩ := X
  exact ⟨⟨fun x hx hp ha => by rw [e x hx hp]; exact HX.1 x hx hp ha, fun x hx hp ha => by rw [e x hx hp]; exact HX.2.1 x hx hp ha, HX.2.2.1, HX.2.2.2.1, HX.2.2.2.2.1, HX.2.2.2.2.2.1, HX.2.2.2.2.2.2⟩, HT, rest⟩

theorem mk_stay {ci : Nat} {fl : List Value} {l : rS} (hI : mI mnu0 (mr0 σ.length) 12 (σ.length + 1) (σ ++ [.inl (ci, fl)]) (mstat ++ l) σₚ) {a : Nat} (h1 : 11 ≤ a) (h2 : a < σ.length) : rat σₚ a = rat σ a := by
  rw [hI.2.2.2.2 a (by omega) (fun k hk e => ?_), rat_ap h2]
  by_cases w : k < 11
  · rw [show mr0 σ.length k = k from mrho_lo w] at e; omega
  · have w : k = 11 := by omega
    subst w
    rw [show mr0 σ.length 11 = σ.length from mrho_11] at e
    omega

theorem HWs_nil {V : vV} {D N : Nat → Nat} {F : hF} {A : hA} : HWs (fun _ => false) V σ D N F A := ⟨fun _ _ h => Bool.noConfusion h, fun _ _ h => Bool.noConfusion h, fun _ _ _ _ h => Bool.noConfusion h, fun _ _ h => Bool.noConfusion h, fun _ _ _ h => Bool.noConfusion h, fun _ _ _ h => Bool.noConfusion h, fun _ _ h => Bool.noConfusion h⟩
theorem HWs_new {V W : vV} {ι : List Nat} {D N Dₚ Nₚ : Nat → Nat} {F Fₚ : hF} {A Aₚ : hA} (h3 : vn3 V = true) (hs : VS V W ι) (Hₚ : HW W σₚ Dₚ Nₚ Fₚ Aₚ) : HWs (fun y => (fnd y ι).isSome) V σₚ (glu ι D Dₚ) (glu ι N Nₚ) (glu ι F Fₚ) (glu ι A Aₚ) := by
  refine HWs_congr (HWs_glue (S := fun _ => false) (σ := []) (D := D) (N := N) (F := F) (A := A) HWs_nil h3 hs Hₚ (fun a _ h _ => absurd h (Nat.not_lt_zero a)) (fun x _ => .inr (Nat.zero_le _))) (fun x _ hx => ?_)
  show (false || (fnd x ι).isSome) = true
  rw [hx]
  rfl
end INI

section INR
variable {ν : mE} {ρ : Nat → Nat} {K L0 : Nat} {σ0 σ m : rS} {κ : List Nat}
def rfz (κ : List Nat) : Value → Int
  | .int v => v.toInt
  | .long v => v.toInt
  | .ref a => match fnd a κ with
    | some p => (p : Int)
    | none => -1
  | _ => -1
def hzD (ρ : Nat → Nat) (κ : List Nat) : Nat → Nat := fun o => bif Nat.beq (κ.getD o 0) 0 then 0 else ρ (κ.getD o 0)
noncomputable def hzN (κ : List Nat) (m : rS) : Nat → Nat := fun o => match rat m (κ.getD o 0) with
  | some (.inr q) => q.2.1
  | _ => 0
noncomputable def hzF (κ : List Nat) (m : rS) : hF := fun o k => bif Nat.beq (κ.getD o 0) 0 then 0 else match rat m (κ.getD o 0) with
  | some (.inl q) => rfz κ (q.2.getD k (.int 0))
  | _ => 0
noncomputable def hzA (κ : List Nat) (m : rS) : hA := fun o i => bif Nat.beq (κ.getD o 0) 0 then 0 else match rat m (κ.getD o 0) with
  | some (.inr q) => rfz κ (rlk q.2.2.2 q.2.2.1 i.toNat)
  | _ => 0
def hzk (κ : List Nat) (kd : Nat) (v : Value) : Bool := match v with
  | .int _ => Nat.beq kd 0 || Nat.beq kd 1
  | .long _ => Nat.beq kd 2
  | .ref a => Nat.beq kd 3 && (match fnd a κ with
    | some p => Nat.beq (κ.getD p 0) a && !(Nat.beq a 0)
    | none => false)
  | .null => Nat.beq kd 3
  | _ => false
theorem hzk_ok {kd : Nat} {v : Value} (h : hzk κ kd v = true) : mg ν ρ v = fv (hzD ρ κ) kd (rfz κ v) := by
  cases v with
  | int w =>
    have h : (Nat.beq kd 0 || Nat.beq kd 1) = true := h
    rw [Bool.or_eq_true] at h
    rcases h with h | h
    · rw [Nat.eq_of_beq_eq_true h]; exact congrArg Value.int (toI_of w).symm
    · rw [Nat.eq_of_beq_eq_true h]; exact congrArg Value.int (toI_of w).symm
  | long w =>
    rw [Nat.eq_of_beq_eq_true (show Nat.beq kd 2 = true from h)]
    exact congrArg Value.long (Int64.ofInt_toInt w).symm
  | null =>
    rw [Nat.eq_of_beq_eq_true (show Nat.beq kd 3 = true from h)]
    rfl
  | ref a =>
    unfold hzk at h
    rw [Bool.and_eq_true] at h
    rw [Nat.eq_of_beq_eq_true h.1]
    have h2 := h.2
    show Value.ref (ρ a) = fv (hzD ρ κ) 3 (match fnd a κ with | some p => (p : Int) | none => -1)
    cases hf : fnd a κ with
    | none => rw [hf] at h2; cases h2
    | some p =>
      rw [hf] at h2
      have h2 : (Nat.beq (κ.getD p 0) a && !(Nat.beq a 0)) = true := h2
      rw [Bool.and_eq_true] at h2
      have e := Nat.eq_of_beq_eq_true h2.1
      show Value.ref (ρ a) = if ((p : Nat) : Int) < 0 then .null else .ref (hzD ρ κ ((p : Nat) : Int).toNat)
      rw [if_neg (by omega), Int.toNat_natCast]
      unfold hzD
      rw [e]
      have e0 : Nat.beq a 0 = false := by
        cases q : Nat.beq a 0 with
        | false => rfl
        | true => rw [q] at h2; cases h2.2
      rw [e0]
      rfl
  | _ => cases h
def hza (ak : Nat) (v : Value) : Bool := match v with
  | .int _ => !(Nat.beq ak 2)
  | .long _ => Nat.beq ak 2
  | _ => false
theorem hza_ok {ak : Nat} {v : Value} (h : hza ak v = true) (h4 : ak < 4) : mg ν ρ v = av (hzD ρ κ) ak (rfz κ v) := by
  cases v with
  | int w =>
    have h : (!(Nat.beq ak 2)) = true := h
    match ak, h4, h with
    | 0, _, _ => exact congrArg Value.int (toI_of w).symm
    | 1, _, _ => exact congrArg Value.int (toI_of w).symm
    | 2, _, h => cases h
    | 3, _, _ => exact congrArg Value.int (toI_of w).symm
    | n + 4, h4, _ => omega
  | long w =>
    rw [Nat.eq_of_beq_eq_true (show Nat.beq ak 2 = true from h)]
    exact congrArg Value.long (Int64.ofInt_toInt w).symm
  | _ => cases h

noncomputable def hzx (κ : List Nat) (m : rS) (o : Nat) : Bool := Nat.beq (κ.getD o 0) 0 || match rat m (κ.getD o 0) with
  | some (.inl q) => Nat.ble 11 (κ.getD o 0) && (!(t_arr o) && (Nat.beq q.1 (t_cls o) && (Nat.beq q.2.length (t_nf (t_cls o)) && (List.range (t_nf (t_cls o))).all (fun k => hzk κ (t_kd (t_cls o) k) (q.2.getD k (.int 0)) && (decide (t_flo (t_cls o) k ≤ rfz κ (q.2.getD k (.int 0))) && decide (rfz κ (q.2.getD k (.int 0)) ≤ t_fhi (t_cls o) k))))))
  | some (.inr q) => Nat.ble 11 (κ.getD o 0) && (t_arr o && (Nat.beq q.1 (t_ak o) && (Nat.beq q.2.1 (t_len o) && (Nat.blt (t_ak o) 4 && ((hza (t_ak o) q.2.2.1 && decide (rfz κ q.2.2.1 = 0)) && q.2.2.2.all (fun z => hza (t_ak o) z.2 && (decide (t_alo o ≤ rfz κ z.2) && decide (rfz κ z.2 ≤ t_ahi o))))))))
  | none => false
def hznd : List Nat → Bool
  | [] => true
  | k :: l => (Nat.beq k 0 || l.all (fun j => !(Nat.beq j k))) && hznd l
theorem hznd_inj : ∀ {l : List Nat} {x y : Nat}, hznd l = true → l.getD x 0 ≠ 0 → l.getD x 0 = l.getD y 0 → x = y
  | [], x, y, _, h0, _ => absurd (show ([] : List Nat).getD x 0 = 0 by cases x <;> rfl) h0
  | k :: l, 0, 0, _, _, _ => rfl
  | k :: l, 0, y + 1, h, h0, e => by
    have h : ((Nat.beq k 0 || l.all (fun j => !(Nat.beq j k))) && hznd l) = true := h
    rw [Bool.and_eq_true, Bool.or_eq_true] at h
    have h0 : k ≠ 0 := h0
    have e : k = l.getD y 0 := e
    rcases h.1 with q | q
    · exact absurd (Nat.eq_of_beq_eq_true q) h0
    · by_cases hy : y < l.length
      · have w := List.all_eq_true.mp q (l.getD y 0) (by rw [List.getD_eq_getElem?_getD, List.getElem?_eq_getElem hy]; exact List.getElem_mem hy)
        rw [← e, Nat.beq_refl] at w
        cases w
      · rw [List.getD_eq_getElem?_getD, List.getElem?_eq_none (by omega)] at e
        exact absurd e h0
  | k :: l, x + 1, 0, h, h0, e => by
    have h : ((Nat.beq k 0 || l.all (fun j => !(Nat.beq j k))) && hznd l) = true := h
    rw [Bool.and_eq_true, Bool.or_eq_true] at h
    have e : l.getD x 0 = k := e
    have h0 : l.getD x 0 ≠ 0 := h0
    rcases h.1 with q | q
    · exact absurd (e.trans (Nat.eq_of_beq_eq_true q)) h0
    · by_cases hy : x < l.length
      · have w := List.all_eq_true.mp q (l.getD x 0) (by rw [List.getD_eq_getElem?_getD, List.getElem?_eq_getElem hy]; exact List.getElem_mem hy)
        rw [e, Nat.beq_refl] at w
        cases w
      · rw [List.getD_eq_getElem?_getD, List.getElem?_eq_none (by omega)] at h0
        exact absurd rfl h0
  | k :: l, x + 1, y + 1, h, h0, e => by
    have h : ((Nat.beq k 0 || l.all (fun j => !(Nat.beq j k))) && hznd l) = true := h
    rw [Bool.and_eq_true] at h
    have := hznd_inj (l := l) (x := x) (y := y) h.2 h0 e
    omega
noncomputable def hzall (κ : List Nat) (m : rS) : Bool := Nat.beq κ.length 89 && (hznd κ && (List.range 89).all (fun o => hzx κ m o && (!(t_perm o) || !(Nat.beq (κ.getD o 0) 0))))
theorem bne_f {a : Nat} (h : a ≠ 0) : Nat.beq a 0 = false := beqf h
theorem mHS (hF : mF ρ K L0) (hI : mI ν ρ K L0 σ0 m σ) (h : hzall κ m = true) (hz : ∀ o, t_alo o ≤ 0 ∧ 0 ≤ t_ahi o) (hf0 : ∀ o k, ¬ (o < 7 ∧ k < t_nf (t_cls o)) → t_flo (t_cls o) k = 0 ∧ t_fhi (t_cls o) k = 0) : HS σ σ (hzD ρ κ) (hzN κ m) (hzF κ m) (hzA κ m) := by
  unfold hzall at h
  simp only [Bool.and_eq_true] at h
  obtain ⟨h1, h2, h3⟩ := h
  have h1 := Nat.eq_of_beq_eq_true h1
  have out : ∀ o, 89 ≤ o → κ.getD o 0 = 0 := fun o ho => by rw [List.getD_eq_getElem?_getD, List.getElem?_eq_none (by omega)]; rfl
  have lt : ∀ o, κ.getD o 0 ≠ 0 → o < 89 := fun o ho => by
    by_cases q : o < 89
    · exact q
    · exact absurd (out o (by omega)) ho
  have hx : ∀ o, κ.getD o 0 ≠ 0 → (match rat m (κ.getD o 0) with
      | some (.inl q) => Nat.ble 11 (κ.getD o 0) && (!(t_arr o) && (Nat.beq q.1 (t_cls o) && (Nat.beq q.2.length (t_nf (t_cls o)) && (List.range (t_nf (t_cls o))).all (fun k => hzk κ (t_kd (t_cls o) k) (q.2.getD k (.int 0)) && (decide (t_flo (t_cls o) k ≤ rfz κ (q.2.getD k (.int 0))) && decide (rfz κ (q.2.getD k (.int 0)) ≤ t_fhi (t_cls o) k))))))
      | some (.inr q) => Nat.ble 11 (κ.getD o 0) && (t_arr o && (Nat.beq q.1 (t_ak o) && (Nat.beq q.2.1 (t_len o) && (Nat.blt (t_ak o) 4 && ((hza (t_ak o) q.2.2.1 && decide (rfz κ q.2.2.1 = 0)) && q.2.2.2.all (fun z => hza (t_ak o) z.2 && (decide (t_alo o ≤ rfz κ z.2) && decide (rfz κ z.2 ≤ t_ahi o))))))))
      | none => false) = true := fun o ho => by
    have w := List.all_eq_true.mp h3 o (List.mem_range.mpr (lt o ho))
    rw [Bool.and_eq_true] at w
    have w := w.1
    unfold hzx at w
    rw [bne_f ho, Bool.false_or] at w
    exact w
  have kD : ∀ {o}, hzD ρ κ o ≠ 0 → κ.getD o 0 ≠ 0 := fun {o} ho e => ho (by unfold hzD; rw [e]; rfl)
  have De : ∀ {o}, κ.getD o 0 ≠ 0 → hzD ρ κ o = ρ (κ.getD o 0) := fun {o} ho => by unfold hzD; rw [bne_f ho]; rfl
  have rg : ∀ {o}, κ.getD o 0 ≠ 0 → 11 ≤ κ.getD o 0 ∧ κ.getD o 0 < 1000 := fun {o} ho => by
    have w := hx o ho
    have l := hI.2.2.1
    split at w
    · rename_i e
      have := rat_lt e
      simp only [Bool.and_eq_true] at w
      exact ⟨Nat.le_of_ble_eq_true w.1, by omega⟩
    · rename_i e
      have := rat_lt e
      simp only [Bool.and_eq_true] at w
      exact ⟨Nat.le_of_ble_eq_true w.1, by omega⟩
    · cases w
  have c7 : ∀ o, ¬ o < 7 → t_arr o = false → κ.getD o 0 = 0 ∨ t_cls o = 0 := fun o h7 _ => .inr (by
    unfold t_cls
    rw [beqf (show o ≠ 0 by omega), beqf (show o ≠ 1 by omega), beqf (show o ≠ 2 by omega), beqf (show o ≠ 3 by omega), beqf (show o ≠ 4 by omega), beqf (show o ≠ 5 by omega), beqf (show o ≠ 6 by omega)]
    rfl)
  unfold HS
  refine ⟨fun o ho ha => ?_, fun o ho ha => ?_, fun o o' ho e => ?_, fun o ho => ?_, fun o hp => ?_, fun o hp ha => ?_, fun o k => ?_, fun o i => ?_, fun _ _ => rfl, rfl⟩
  · have hk := kD ho
    have w := hx o hk
    rw [De hk]
    split at w
    · rename_i q e
      simp only [Bool.and_eq_true] at w
      obtain ⟨w1, w2, w3, w4, w5⟩ := w
      obtain ⟨qₚ, p1, p2⟩ := hI.1 _ _ e
      have p2 : qₚ = .inl (q.1, mT ν ρ q.2) := p2
      rw [p1, p2, ← Nat.eq_of_beq_eq_true w3]
      have w4 := Nat.eq_of_beq_eq_true w4
      congr 3
      apply List.ext_getElem
      · unfold mT
        rw [List.length_map, List.length_map, List.length_range, w4, Nat.eq_of_beq_eq_true w3]
      · intro k a b
        unfold mT at a ⊢
        rw [List.length_map] at a
        rw [List.getElem_map, List.getElem_map, List.getElem_range]
        have w := List.all_eq_true.mp w5 k (List.mem_range.mpr (by omega))
        rw [Bool.and_eq_true] at w
        have e2 : q.2.getD k (.int 0) = q.2[k] := by rw [List.getD_eq_getElem?_getD, List.getElem?_eq_getElem a]; rfl
        have f2 : hzF κ m o k = rfz κ (q.2.getD k (.int 0)) := by
          unfold hzF
          rw [bne_f hk, e]
          rfl
        rw [f2, Nat.eq_of_beq_eq_true w3, ← e2]
        exact hzk_ok w.1
    · simp only [Bool.and_eq_true] at w
      rw [ha] at w
      cases w.2.1
    · cases w
  · have hk := kD ho
    have w := hx o hk
    rw [De hk]
    split at w
    · simp only [Bool.and_eq_true] at w
      rw [ha] at w
      cases w.2.1
    · rename_i q e
      simp only [Bool.and_eq_true] at w
      obtain ⟨w1, w2, w3, w4, w5, ⟨w6, w7⟩, w8⟩ := w
      obtain ⟨qₚ, p1, dv, ov, p2, p3⟩ := hI.1 _ _ e
      refine ⟨dv, ov, ?_, fun j => ?_⟩
      · rw [p1, p2, Nat.eq_of_beq_eq_true w3]
        unfold hzN
        rw [e]
      · rw [p3]
        have v := mrlk (p := hza (t_ak o)) (ov := q.2.2.2) (dv := q.2.2.1) (j := j) w6 (List.all_eq_true.mpr (fun z hz => by have := List.all_eq_true.mp w8 z hz; rw [Bool.and_eq_true] at this; exact this.1))
        rw [hza_ok v (blt_of w5)]
        unfold hzA
        rw [bne_f hk, e]
        rfl
    · cases w
  · have hk := kD ho
    have hk' := kD (o := o') (by rw [← e]; exact ho)
    rw [De hk, De hk'] at e
    exact hznd_inj h2 hk (hF.inj _ _ (rg hk).2 (rg hk').2 e)
  · have hk := kD ho
    rw [De hk]
    exact hF.lo _ (rg hk).1 (rg hk).2
  · have l89 : o < 89 := by
      unfold t_perm at hp
      rw [Bool.and_eq_true] at hp
      exact blt_of hp.1
    have w := List.all_eq_true.mp h3 o (List.mem_range.mpr l89)
    rw [Bool.and_eq_true, hp] at w
    have w : (!(Nat.beq (κ.getD o 0) 0)) = true := w.2
    have hk : κ.getD o 0 ≠ 0 := fun e => by rw [e] at w; cases w
    rw [De hk]
    have := hF.lo _ (rg hk).1 (rg hk).2
    omega
  · have l89 : o < 89 := by
      unfold t_perm at hp
      rw [Bool.and_eq_true] at hp
      exact blt_of hp.1
    have w := List.all_eq_true.mp h3 o (List.mem_range.mpr l89)
    rw [Bool.and_eq_true, hp] at w
    have w : (!(Nat.beq (κ.getD o 0) 0)) = true := w.2
    have hk : κ.getD o 0 ≠ 0 := fun e => by rw [e] at w; cases w
    have w := hx o hk
    unfold hzN
    split at w
    · simp only [Bool.and_eq_true] at w
      rw [ha] at w
      cases w.2.1
    · rename_i q e
      rw [e]
      simp only [Bool.and_eq_true] at w
      exact Nat.eq_of_beq_eq_true w.2.2.2.1
    · cases w
  · by_cases hk : κ.getD o 0 = 0
    · have e : hzF κ m o k = 0 := by unfold hzF; rw [hk]; rfl
      rw [e]
      by_cases q : o < 7 ∧ k < t_nf (t_cls o)
      · have hp : t_perm o = true := by
          unfold t_perm
          rw [show Nat.blt o 89 = true from Nat.ble_eq.mpr (show o + 1 ≤ 89 by omega), show Nat.blt o 7 = true from Nat.ble_eq.mpr (show o + 1 ≤ 7 by omega)]
          rfl
        have w := List.all_eq_true.mp h3 o (List.mem_range.mpr (by omega))
        rw [Bool.and_eq_true, hp, hk] at w
        cases w.2
      · have := hf0 o k q
        omega
    · have w := hx o hk
      unfold hzF
      rw [bne_f hk]
      show t_flo (t_cls o) k ≤ (match rat m (κ.getD o 0) with | some (.inl q) => rfz κ (q.2.getD k (.int 0)) | _ => 0) ∧ (match rat m (κ.getD o 0) with | some (.inl q) => rfz κ (q.2.getD k (.int 0)) | _ => 0) ≤ t_fhi (t_cls o) k
      split at w
      · rename_i q e
        rw [e]
        simp only [Bool.and_eq_true] at w
        obtain ⟨w1, w2, w3, w4, w5⟩ := w
        show t_flo (t_cls o) k ≤ rfz κ (q.2.getD k (.int 0)) ∧ rfz κ (q.2.getD k (.int 0)) ≤ t_fhi (t_cls o) k
        by_cases hkk : k < t_nf (t_cls o)
        · have w := List.all_eq_true.mp w5 k (List.mem_range.mpr hkk)
          simp only [Bool.and_eq_true, decide_eq_true_eq] at w
          exact w.2
        · have z := hf0 o k (fun q => hkk q.2)
          rw [List.getD_eq_getElem?_getD, List.getElem?_eq_none (by have := Nat.eq_of_beq_eq_true w4; omega)]
          show t_flo (t_cls o) k ≤ (0 : Int32).toInt ∧ (0 : Int32).toInt ≤ t_fhi (t_cls o) k
          have : (0 : Int32).toInt = 0 := rfl
          omega
      · rename_i q e
        rw [e]
        simp only [Bool.and_eq_true] at w
        have ha : Nat.ble 10 o = true := w.2.1
        have ha := Nat.le_of_ble_eq_true ha
        have z := hf0 o k (fun q => by omega)
        show t_flo (t_cls o) k ≤ 0 ∧ 0 ≤ t_fhi (t_cls o) k
        omega
      · cases w
  · by_cases hk : κ.getD o 0 = 0
    · have e : hzA κ m o i = 0 := by unfold hzA; rw [hk]; rfl
      rw [e]
      exact hz o
    · have w := hx o hk
      unfold hzA
      rw [bne_f hk]
      show t_alo o ≤ (match rat m (κ.getD o 0) with | some (.inr q) => rfz κ (rlk q.2.2.2 q.2.2.1 i.toNat) | _ => 0) ∧ (match rat m (κ.getD o 0) with | some (.inr q) => rfz κ (rlk q.2.2.2 q.2.2.1 i.toNat) | _ => 0) ≤ t_ahi o
      split at w
      · rename_i q e
        rw [e]
        exact hz o
      · rename_i q e
        rw [e]
        simp only [Bool.and_eq_true] at w
        obtain ⟨w1, w2, w3, w4, w5, ⟨w6, w7⟩, w8⟩ := w
        have w7 := of_decide_eq_true w7
        have v := mrlk (p := fun v => decide (t_alo o ≤ rfz κ v ∧ rfz κ v ≤ t_ahi o)) (ov := q.2.2.2) (dv := q.2.2.1) (j := i.toNat) (by rw [decide_eq_true_eq, w7]; exact hz o) (List.all_eq_true.mpr (fun z hz => by have := List.all_eq_true.mp w8 z hz; simp only [Bool.and_eq_true, decide_eq_true_eq] at this; exact decide_eq_true this.2))
        exact of_decide_eq_true v
      · cases w
theorem hzA_0 {o t n : Nat} {v : Value} (h : rat m (κ.getD o 0) = some (.inr (t, n, v, []))) (hv : rfz κ v = 0) : hzA κ m o = fun _ => 0 := funext (fun i => by
  unfold hzA
  rw [h]
  cases Nat.beq (κ.getD o 0) 0 with
  | true => rfl
  | false => exact hv)
end INR
theorem cond_le {b : Bool} {x y z : Int} (hx : x ≤ z) (hy : y ≤ z) : (bif b then x else y) ≤ z := by cases b <;> assumption
theorem le_cond {b : Bool} {x y z : Int} (hx : z ≤ x) (hy : z ≤ y) : z ≤ (bif b then x else y) := by cases b <;> assumption
theorem t_z (o : Nat) : t_alo o ≤ 0 ∧ 0 ≤ t_ahi o := by
  constructor
  · unfold t_alo
    repeat' apply cond_le
    all_goals decide
  · unfold t_ahi
    repeat' apply le_cond
    all_goals decide
theorem hzD_ge {κ : List Nat} {a : Nat} (h : κ.all (fun q => Nat.beq q 0 || (Nat.ble 11 q && Nat.blt q 1000)) = true) {o : Nat} (ho : hzD (mr0 a) κ o ≠ 0) : a ≤ hzD (mr0 a) κ o := by
  unfold hzD at ho ⊢
  cases q : Nat.beq (κ.getD o 0) 0 with
  | true => rw [q] at ho; exact absurd rfl ho
  | false =>
    show a ≤ mr0 a (κ.getD o 0)
    have hm : κ.getD o 0 ∈ κ := by
      by_cases hl : o < κ.length
      · rw [List.getD_eq_getElem?_getD, List.getElem?_eq_getElem hl]
        exact List.getElem_mem hl
      · rw [List.getD_eq_getElem?_getD, List.getElem?_eq_none (by omega)] at q
        cases q
    have w := List.all_eq_true.mp h _ hm
    rw [q, Bool.false_or, Bool.and_eq_true] at w
    have w1 := Nat.le_of_ble_eq_true w.1
    have w2 := blt_of w.2
    by_cases e : κ.getD o 0 = 11
    · rw [e, show mr0 a 11 = a from mrho_11]
      exact Nat.le_refl _
    · rw [show mr0 a (κ.getD o 0) = a + 1 + (κ.getD o 0 - 12) from mrho_new (by omega) w2]
      omega


end
section
/-! Y6.ini -/
def fl_ini : List Value := [.null, .null, .null, .null, .null, .null, .null, .null, .null, .null, .null, .null, .null, .null, .null, .null, .null, .int 0, .int 0]
def ml_ini : rS := [.inl (0, [.ref 12, .ref 21, .ref 22, .ref 24, .ref 30, .ref 36, .ref 38, .null, .null, .null, .null, .null, .null, .ref 40, .ref 41, .ref 42, .ref 43, .int 0, .int 0]), .inr (4, 4, .null, [(0, .ref 13), (1, .ref 15), (2, .ref 17), (3, .ref 19)]), .inl (7, [.ref 14, .int 0, .int 0, .int 0, .int 0]), .inr (0, 0, .int 0, []), .inl (7, [.ref 16, .int 0, .int 0, .int 0, .int 0]), .inr (0, 0, .int 0, []), .inl (7, [.ref 18, .int 0, .int 0, .int 0, .int 0]), .inr (0, 0, .int 0, []), .inl (7, [.ref 20, .int 0, .int 0, .int 0, .int 0]), .inr (0, 0, .int 0, []), .inr (1, 10, .int 0, [(0, .int 2), (1, .int 4), (2, .int 65536), (3, .int 100), (4, .int 4), (5, .int 0), (6, .int 0), (7, .int 3), (8, .int 6), (9, .int 0)]), .inl (7, [.ref 23, .int 0, .int 0, .int 0, .int 0]), .inr (0, 0, .int 0, []), .inl (4, [.ref 25, .ref 27, .int 0, .null, .null]), .inl (7, [.ref 26, .int 0, .int 0, .int 0, .int 0]), .inr (0, 0, .int 0, []), .inl (9, [.null, .ref 28, .ref 29]), .inr (5, 3, .null, []), .inr (2, 3, .long 0, [(0, .long 1), (1, .long 4), (2, .long 8)]), .inl (4, [.ref 31, .ref 33, .int 0, .null, .null]), .inl (7, [.ref 32, .int 0, .int 0, .int 0, .int 0]), .inr (0, 0, .int 0, []), .inl (9, [.null, .ref 34, .ref 35]), .inr (5, 3, .null, []), .inr (2, 3, .long 0, [(0, .long 1), (1, .long 4), (2, .long 8)]), .inl (7, [.ref 37, .int 0, .int 0, .int 0, .int 0]), .inr (0, 0, .int 0, []), .inl (7, [.ref 39, .int 0, .int 0, .int 0, .int 0]), .inr (0, 0, .int 0, []), .inr (1, 13, .int 0, []), .inr (1, 5, .int 0, []), .inr (1, 5, .int 0, []), .inr (1, 2, .int 0, [])]
theorem ev_ini : mrun 261 3 0 0 (rargs 0 [.ref 11]) [] (mstat ++ [.inl (0, fl_ini)]) 0 0 = some (none, mstat ++ ml_ini, 32, 112) := meq_of (by decide +kernel)
def W_ini : vV := [(0, 0, [(4, 0), (4, 0), (4, 0), (4, 0), (4, 0), (4, 0), (4, 0), (4, 0), (4, 0), (4, 0), (4, 0), (4, 0), (4, 0), (4, 0), (4, 0), (4, 0), (4, 0), (0, 0), (0, 0)]), (1, 4, []), (0, 7, [(4, 0), (0, 0), (1, 0), (0, 0), (0, 0)]), (1, 0, []), (0, 7, [(4, 0), (0, 0), (1, 0), (0, 0), (0, 0)]), (1, 0, []), (0, 7, [(4, 0), (0, 0), (1, 0), (0, 0), (0, 0)]), (1, 0, []), (0, 7, [(4, 0), (0, 0), (1, 0), (0, 0), (0, 0)]), (1, 0, []), (1, 1, []), (0, 7, [(4, 0), (0, 0), (1, 0), (0, 0), (0, 0)]), (1, 0, []), (0, 4, [(4, 0), (4, 0), (0, 0), (4, 0), (4, 0)]), (0, 7, [(4, 0), (0, 0), (1, 0), (0, 0), (0, 0)]), (1, 0, []), (0, 9, [(4, 0), (4, 0), (4, 0)]), (1, 5, []), (1, 2, []), (0, 4, [(4, 0), (4, 0), (0, 0), (4, 0), (4, 0)]), (0, 7, [(4, 0), (0, 0), (1, 0), (0, 0), (0, 0)]), (1, 0, []), (0, 9, [(4, 0), (4, 0), (4, 0)]), (1, 5, []), (1, 2, []), (0, 7, [(4, 0), (0, 0), (1, 0), (0, 0), (0, 0)]), (1, 0, []), (0, 7, [(4, 0), (0, 0), (1, 0), (0, 0), (0, 0)]), (1, 0, []), (1, 1, []), (1, 1, []), (1, 1, []), (1, 1, [])]
def ι_ini : List Nat := [0, 1, 2, 3, 4, 5, 6, 7, 8, 9, 10, 11, 12, 13, 14, 15, 16, 17, 18, 19, 20, 21, 22, 23, 24, 25, 26, 27, 28, 29, 30, 31, 32]
def κ_ini : List Nat := [11, 12, 13, 14, 15, 16, 17, 18, 19, 20, 21, 22, 23, 24, 25, 26, 27, 28, 29, 30, 31, 32, 33, 34, 35, 36, 37, 38, 39, 40, 41, 42, 43]
theorem vs_ini : VS VPH W_ini ι_ini := VS_of (by decide +kernel)
theorem mv_ini : mV W_ini κ_ini (mstat ++ ml_ini) = true := by decide +kernel
def g0 : Nat → Bool := fun j => Nat.beq j 0
theorem ce_ini_0 : rat (mstat ++ ml_ini) (κ_ini.getD 0 0) = some (.inl (0, [.ref 12, .ref 21, .ref 22, .ref 24, .ref 30, .ref 36, .ref 38, .null, .null, .null, .null, .null, .null, .ref 40, .ref 41, .ref 42, .ref 43, .int 0, .int 0])) := (rat_mst (l := ml_ini) (i := 0)).trans rfl
theorem ce_ini_1 : rat (mstat ++ ml_ini) (κ_ini.getD 1 0) = some (.inr (4, 4, .null, [(0, .ref 13), (1, .ref 15), (2, .ref 17), (3, .ref 19)])) := (rat_mst (l := ml_ini) (i := 1)).trans rfl
theorem ce_ini_2 : rat (mstat ++ ml_ini) (κ_ini.getD 2 0) = some (.inl (7, [.ref 14, .int 0, .int 0, .int 0, .int 0])) := (rat_mst (l := ml_ini) (i := 2)).trans rfl
theorem ce_ini_3 : rat (mstat ++ ml_ini) (κ_ini.getD 3 0) = some (.inr (0, 0, .int 0, [])) := (rat_mst (l := ml_ini) (i := 3)).trans rfl
theorem ce_ini_4 : rat (mstat ++ ml_ini) (κ_ini.getD 4 0) = some (.inl (7, [.ref 16, .int 0, .int 0, .int 0, .int 0])) := (rat_mst (l := ml_ini) (i := 4)).trans rfl
theorem ce_ini_5 : rat (mstat ++ ml_ini) (κ_ini.getD 5 0) = some (.inr (0, 0, .int 0, [])) := (rat_mst (l := ml_ini) (i := 5)).trans rfl
theorem ce_ini_6 : rat (mstat ++ ml_ini) (κ_ini.getD 6 0) = some (.inl (7, [.ref 18, .int 0, .int 0, .int 0, .int 0])) := (rat_mst (l := ml_ini) (i := 6)).trans rfl
theorem ce_ini_7 : rat (mstat ++ ml_ini) (κ_ini.getD 7 0) = some (.inr (0, 0, .int 0, [])) := (rat_mst (l := ml_ini) (i := 7)).trans rfl
theorem ce_ini_8 : rat (mstat ++ ml_ini) (κ_ini.getD 8 0) = some (.inl (7, [.ref 20, .int 0, .int 0, .int 0, .int 0])) := (rat_mst (l := ml_ini) (i := 8)).trans rfl
theorem ce_ini_9 : rat (mstat ++ ml_ini) (κ_ini.getD 9 0) = some (.inr (0, 0, .int 0, [])) := (rat_mst (l := ml_ini) (i := 9)).trans rfl
theorem ce_ini_10 : rat (mstat ++ ml_ini) (κ_ini.getD 10 0) = some (.inr (1, 10, .int 0, [(0, .int 2), (1, .int 4), (2, .int 65536), (3, .int 100), (4, .int 4), (5, .int 0), (6, .int 0), (7, .int 3), (8, .int 6), (9, .int 0)])) := (rat_mst (l := ml_ini) (i := 10)).trans rfl
theorem ce_ini_11 : rat (mstat ++ ml_ini) (κ_ini.getD 11 0) = some (.inl (7, [.ref 23, .int 0, .int 0, .int 0, .int 0])) := (rat_mst (l := ml_ini) (i := 11)).trans rfl
theorem ce_ini_12 : rat (mstat ++ ml_ini) (κ_ini.getD 12 0) = some (.inr (0, 0, .int 0, [])) := (rat_mst (l := ml_ini) (i := 12)).trans rfl
theorem ce_ini_13 : rat (mstat ++ ml_ini) (κ_ini.getD 13 0) = some (.inl (4, [.ref 25, .ref 27, .int 0, .null, .null])) := (rat_mst (l := ml_ini) (i := 13)).trans rfl
theorem ce_ini_14 : rat (mstat ++ ml_ini) (κ_ini.getD 14 0) = some (.inl (7, [.ref 26, .int 0, .int 0, .int 0, .int 0])) := (rat_mst (l := ml_ini) (i := 14)).trans rfl
theorem ce_ini_15 : rat (mstat ++ ml_ini) (κ_ini.getD 15 0) = some (.inr (0, 0, .int 0, [])) := (rat_mst (l := ml_ini) (i := 15)).trans rfl
theorem ce_ini_16 : rat (mstat ++ ml_ini) (κ_ini.getD 16 0) = some (.inl (9, [.null, .ref 28, .ref 29])) := (rat_mst (l := ml_ini) (i := 16)).trans rfl
theorem ce_ini_17 : rat (mstat ++ ml_ini) (κ_ini.getD 17 0) = some (.inr (5, 3, .null, [])) := (rat_mst (l := ml_ini) (i := 17)).trans rfl
theorem ce_ini_18 : rat (mstat ++ ml_ini) (κ_ini.getD 18 0) = some (.inr (2, 3, .long 0, [(0, .long 1), (1, .long 4), (2, .long 8)])) := (rat_mst (l := ml_ini) (i := 18)).trans rfl
theorem ce_ini_19 : rat (mstat ++ ml_ini) (κ_ini.getD 19 0) = some (.inl (4, [.ref 31, .ref 33, .int 0, .null, .null])) := (rat_mst (l := ml_ini) (i := 19)).trans rfl
theorem ce_ini_20 : rat (mstat ++ ml_ini) (κ_ini.getD 20 0) = some (.inl (7, [.ref 32, .int 0, .int 0, .int 0, .int 0])) := (rat_mst (l := ml_ini) (i := 20)).trans rfl
theorem ce_ini_21 : rat (mstat ++ ml_ini) (κ_ini.getD 21 0) = some (.inr (0, 0, .int 0, [])) := (rat_mst (l := ml_ini) (i := 21)).trans rfl
theorem ce_ini_22 : rat (mstat ++ ml_ini) (κ_ini.getD 22 0) = some (.inl (9, [.null, .ref 34, .ref 35])) := (rat_mst (l := ml_ini) (i := 22)).trans rfl
theorem ce_ini_23 : rat (mstat ++ ml_ini) (κ_ini.getD 23 0) = some (.inr (5, 3, .null, [])) := (rat_mst (l := ml_ini) (i := 23)).trans rfl
theorem ce_ini_24 : rat (mstat ++ ml_ini) (κ_ini.getD 24 0) = some (.inr (2, 3, .long 0, [(0, .long 1), (1, .long 4), (2, .long 8)])) := (rat_mst (l := ml_ini) (i := 24)).trans rfl
theorem ce_ini_25 : rat (mstat ++ ml_ini) (κ_ini.getD 25 0) = some (.inl (7, [.ref 37, .int 0, .int 0, .int 0, .int 0])) := (rat_mst (l := ml_ini) (i := 25)).trans rfl
theorem ce_ini_26 : rat (mstat ++ ml_ini) (κ_ini.getD 26 0) = some (.inr (0, 0, .int 0, [])) := (rat_mst (l := ml_ini) (i := 26)).trans rfl
theorem ce_ini_27 : rat (mstat ++ ml_ini) (κ_ini.getD 27 0) = some (.inl (7, [.ref 39, .int 0, .int 0, .int 0, .int 0])) := (rat_mst (l := ml_ini) (i := 27)).trans rfl
theorem ce_ini_28 : rat (mstat ++ ml_ini) (κ_ini.getD 28 0) = some (.inr (0, 0, .int 0, [])) := (rat_mst (l := ml_ini) (i := 28)).trans rfl
theorem ce_ini_29 : rat (mstat ++ ml_ini) (κ_ini.getD 29 0) = some (.inr (1, 13, .int 0, [])) := (rat_mst (l := ml_ini) (i := 29)).trans rfl
theorem ce_ini_30 : rat (mstat ++ ml_ini) (κ_ini.getD 30 0) = some (.inr (1, 5, .int 0, [])) := (rat_mst (l := ml_ini) (i := 30)).trans rfl
theorem ce_ini_31 : rat (mstat ++ ml_ini) (κ_ini.getD 31 0) = some (.inr (1, 5, .int 0, [])) := (rat_mst (l := ml_ini) (i := 31)).trans rfl
theorem ce_ini_32 : rat (mstat ++ ml_ini) (κ_ini.getD 32 0) = some (.inr (1, 2, .int 0, [])) := (rat_mst (l := ml_ini) (i := 32)).trans rfl
set_option maxRecDepth 100000 in
theorem PHI_ini {σ σₚ : rS} (h12 : 12 ≤ σ.length) (hI : mI mnu0 (mr0 σ.length) 12 (σ.length + 1) (σ ++ [.inl (0, fl_ini)]) (mstat ++ ml_ini) σₚ) : PHI DCE g0 σₚ (glu ι_ini (fun _ => 0) (fun x => mr0 σ.length (κ_ini.getD x 0))) (glu ι_ini (fun _ => 0) (mN κ_ini (mstat ++ ml_ini))) (glu ι_ini (fun _ _ => 0) (mFd mnu0 (mr0 σ.length) κ_ini (mstat ++ ml_ini))) (glu ι_ini (fun _ _ => 0) (mA mnu0 (mr0 σ.length) κ_ini (mstat ++ ml_ini))) := by
  have H := mHW (mr0_F h12) hI mv_ini
  refine ⟨HWs_congr (HWs_new (D := fun _ => 0) (N := fun _ => 0) (F := fun _ _ => 0) (A := fun _ _ => 0) VPH_3 vs_ini H) (fun x hx hs => ?_), mk_ST (mr0_F h12) hI, rfl, fun e he h1 h2 => ?_, fun e he hb => ?_, fun x hx => ?_, ⟨fun h => Bool.noConfusion h, fun h => Bool.noConfusion h, fun h => Bool.noConfusion h, fun h => Bool.noConfusion h, fun h => Bool.noConfusion h⟩, ?_, fun h => Bool.noConfusion h, fun h => Bool.noConfusion h, fun h => Bool.noConfusion h, fun h => Bool.noConfusion h, fun h => Bool.noConfusion h, fun h => Bool.noConfusion h, fun h => Bool.noConfusion h, fun h => Bool.noConfusion h, ?_⟩
  · have w := List.all_eq_true.mp (show (List.range VPH.length).all (fun x => !(SPH g0 x) || (fnd x ι_ini).isSome) = true by decide +kernel) x (List.mem_range.mpr hx)
    rw [hs] at w
    exact w
  · have w := List.all_eq_true.mp (show PFT.all (fun e => !(SPH g0 e.2.1 && SPH g0 e.2.2.2) || ([(0, 0, 0, 1), (1, 1, 0, 2), (0, 2, 0, 3), (1, 1, 1, 4), (0, 4, 0, 5), (1, 1, 2, 6), (0, 6, 0, 7), (1, 1, 3, 8), (0, 8, 0, 9), (0, 0, 1, 10), (0, 0, 2, 11), (0, 11, 0, 12), (0, 0, 3, 13), (0, 13, 0, 14), (0, 14, 0, 15), (0, 13, 1, 16), (0, 16, 1, 17), (0, 16, 2, 18), (0, 0, 4, 19), (0, 19, 0, 20), (0, 20, 0, 21), (0, 19, 1, 22), (0, 22, 1, 23), (0, 22, 2, 24), (0, 0, 5, 25), (0, 25, 0, 26), (0, 0, 6, 27), (0, 27, 0, 28), (0, 0, 13, 29), (0, 0, 14, 30), (0, 0, 15, 31), (0, 0, 16, 32)] : List (Nat × Nat × Nat × Nat)).any (fun q => decide (q = e))) = true by decide +kernel) e he
    rw [h1, h2] at w
    have w : ([(0, 0, 0, 1), (1, 1, 0, 2), (0, 2, 0, 3), (1, 1, 1, 4), (0, 4, 0, 5), (1, 1, 2, 6), (0, 6, 0, 7), (1, 1, 3, 8), (0, 8, 0, 9), (0, 0, 1, 10), (0, 0, 2, 11), (0, 11, 0, 12), (0, 0, 3, 13), (0, 13, 0, 14), (0, 14, 0, 15), (0, 13, 1, 16), (0, 16, 1, 17), (0, 16, 2, 18), (0, 0, 4, 19), (0, 19, 0, 20), (0, 20, 0, 21), (0, 19, 1, 22), (0, 22, 1, 23), (0, 22, 2, 24), (0, 0, 5, 25), (0, 25, 0, 26), (0, 0, 6, 27), (0, 27, 0, 28), (0, 0, 13, 29), (0, 0, 14, 30), (0, 0, 15, 31), (0, 0, 16, 32)] : List (Nat × Nat × Nat × Nat)).any (fun q => decide (q = e)) = true := w
    obtain ⟨q, q1, q2⟩ := List.any_eq_true.mp w
    have q2 := of_decide_eq_true q2
    subst q2
    clear w h1 h2 he
    simp only [List.mem_cons, List.not_mem_nil, or_false] at q1
    rcases q1 with rfl | rfl | rfl | rfl | rfl | rfl | rfl | rfl | rfl | rfl | rfl | rfl | rfl | rfl | rfl | rfl | rfl | rfl | rfl | rfl | rfl | rfl | rfl | rfl | rfl | rfl | rfl | rfl | rfl | rfl | rfl | rfl
    · show (mFd mnu0 (mr0 σ.length) κ_ini (mstat ++ ml_ini)) 0 0 = ((mr0 σ.length 12 : Nat) : Int)
      rw [mFd_at ce_ini_0]
      rfl
    · show (mA mnu0 (mr0 σ.length) κ_ini (mstat ++ ml_ini)) 1 0 = ((mr0 σ.length 13 : Nat) : Int)
      rw [mA_at ce_ini_1]
      rfl
    · show (mFd mnu0 (mr0 σ.length) κ_ini (mstat ++ ml_ini)) 2 0 = ((mr0 σ.length 14 : Nat) : Int)
      rw [mFd_at ce_ini_2]
      rfl
    · show (mA mnu0 (mr0 σ.length) κ_ini (mstat ++ ml_ini)) 1 1 = ((mr0 σ.length 15 : Nat) : Int)
      rw [mA_at ce_ini_1]
      rfl
    · show (mFd mnu0 (mr0 σ.length) κ_ini (mstat ++ ml_ini)) 4 0 = ((mr0 σ.length 16 : Nat) : Int)
      rw [mFd_at ce_ini_4]
      rfl
    · show (mA mnu0 (mr0 σ.length) κ_ini (mstat ++ ml_ini)) 1 2 = ((mr0 σ.length 17 : Nat) : Int)
      rw [mA_at ce_ini_1]
      rfl
    · show (mFd mnu0 (mr0 σ.length) κ_ini (mstat ++ ml_ini)) 6 0 = ((mr0 σ.length 18 : Nat) : Int)
      rw [mFd_at ce_ini_6]
      rfl
    · show (mA mnu0 (mr0 σ.length) κ_ini (mstat ++ ml_ini)) 1 3 = ((mr0 σ.length 19 : Nat) : Int)
      rw [mA_at ce_ini_1]
      rfl
    · show (mFd mnu0 (mr0 σ.length) κ_ini (mstat ++ ml_ini)) 8 0 = ((mr0 σ.length 20 : Nat) : Int)
      rw [mFd_at ce_ini_8]
      rfl
    · show (mFd mnu0 (mr0 σ.length) κ_ini (mstat ++ ml_ini)) 0 1 = ((mr0 σ.length 21 : Nat) : Int)
      rw [mFd_at ce_ini_0]
      rfl
    · show (mFd mnu0 (mr0 σ.length) κ_ini (mstat ++ ml_ini)) 0 2 = ((mr0 σ.length 22 : Nat) : Int)
      rw [mFd_at ce_ini_0]
      rfl
    · show (mFd mnu0 (mr0 σ.length) κ_ini (mstat ++ ml_ini)) 11 0 = ((mr0 σ.length 23 : Nat) : Int)
      rw [mFd_at ce_ini_11]
      rfl
    · show (mFd mnu0 (mr0 σ.length) κ_ini (mstat ++ ml_ini)) 0 3 = ((mr0 σ.length 24 : Nat) : Int)
      rw [mFd_at ce_ini_0]
      rfl
    · show (mFd mnu0 (mr0 σ.length) κ_ini (mstat ++ ml_ini)) 13 0 = ((mr0 σ.length 25 : Nat) : Int)
      rw [mFd_at ce_ini_13]
      rfl
    · show (mFd mnu0 (mr0 σ.length) κ_ini (mstat ++ ml_ini)) 14 0 = ((mr0 σ.length 26 : Nat) : Int)
      rw [mFd_at ce_ini_14]
      rfl
    · show (mFd mnu0 (mr0 σ.length) κ_ini (mstat ++ ml_ini)) 13 1 = ((mr0 σ.length 27 : Nat) : Int)
      rw [mFd_at ce_ini_13]
      rfl
    · show (mFd mnu0 (mr0 σ.length) κ_ini (mstat ++ ml_ini)) 16 1 = ((mr0 σ.length 28 : Nat) : Int)
      rw [mFd_at ce_ini_16]
      rfl
    · show (mFd mnu0 (mr0 σ.length) κ_ini (mstat ++ ml_ini)) 16 2 = ((mr0 σ.length 29 : Nat) : Int)
      rw [mFd_at ce_ini_16]
      rfl
    · show (mFd mnu0 (mr0 σ.length) κ_ini (mstat ++ ml_ini)) 0 4 = ((mr0 σ.length 30 : Nat) : Int)
      rw [mFd_at ce_ini_0]
      rfl
    · show (mFd mnu0 (mr0 σ.length) κ_ini (mstat ++ ml_ini)) 19 0 = ((mr0 σ.length 31 : Nat) : Int)
      rw [mFd_at ce_ini_19]
      rfl
    · show (mFd mnu0 (mr0 σ.length) κ_ini (mstat ++ ml_ini)) 20 0 = ((mr0 σ.length 32 : Nat) : Int)
      rw [mFd_at ce_ini_20]
      rfl
    · show (mFd mnu0 (mr0 σ.length) κ_ini (mstat ++ ml_ini)) 19 1 = ((mr0 σ.length 33 : Nat) : Int)
      rw [mFd_at ce_ini_19]
      rfl
    · show (mFd mnu0 (mr0 σ.length) κ_ini (mstat ++ ml_ini)) 22 1 = ((mr0 σ.length 34 : Nat) : Int)
      rw [mFd_at ce_ini_22]
      rfl
    · show (mFd mnu0 (mr0 σ.length) κ_ini (mstat ++ ml_ini)) 22 2 = ((mr0 σ.length 35 : Nat) : Int)
      rw [mFd_at ce_ini_22]
      rfl
    · show (mFd mnu0 (mr0 σ.length) κ_ini (mstat ++ ml_ini)) 0 5 = ((mr0 σ.length 36 : Nat) : Int)
      rw [mFd_at ce_ini_0]
      rfl
    · show (mFd mnu0 (mr0 σ.length) κ_ini (mstat ++ ml_ini)) 25 0 = ((mr0 σ.length 37 : Nat) : Int)
      rw [mFd_at ce_ini_25]
      rfl
    · show (mFd mnu0 (mr0 σ.length) κ_ini (mstat ++ ml_ini)) 0 6 = ((mr0 σ.length 38 : Nat) : Int)
      rw [mFd_at ce_ini_0]
      rfl
    · show (mFd mnu0 (mr0 σ.length) κ_ini (mstat ++ ml_ini)) 27 0 = ((mr0 σ.length 39 : Nat) : Int)
      rw [mFd_at ce_ini_27]
      rfl
    · show (mFd mnu0 (mr0 σ.length) κ_ini (mstat ++ ml_ini)) 0 13 = ((mr0 σ.length 40 : Nat) : Int)
      rw [mFd_at ce_ini_0]
      rfl
    · show (mFd mnu0 (mr0 σ.length) κ_ini (mstat ++ ml_ini)) 0 14 = ((mr0 σ.length 41 : Nat) : Int)
      rw [mFd_at ce_ini_0]
      rfl
    · show (mFd mnu0 (mr0 σ.length) κ_ini (mstat ++ ml_ini)) 0 15 = ((mr0 σ.length 42 : Nat) : Int)
      rw [mFd_at ce_ini_0]
      rfl
    · show (mFd mnu0 (mr0 σ.length) κ_ini (mstat ++ ml_ini)) 0 16 = ((mr0 σ.length 43 : Nat) : Int)
      rw [mFd_at ce_ini_0]
      rfl
  · simp only [ABT, List.mem_cons, List.not_mem_nil, or_false] at he
    rcases he with rfl | rfl | rfl | rfl | rfl | rfl | rfl | rfl | rfl | rfl
    · show (mFd mnu0 (mr0 σ.length) κ_ini (mstat ++ ml_ini)) 0 7 = -1
      rw [mFd_at ce_ini_0]
      rfl
    · show (mFd mnu0 (mr0 σ.length) κ_ini (mstat ++ ml_ini)) 0 8 = -1
      rw [mFd_at ce_ini_0]
      rfl
    · show (mFd mnu0 (mr0 σ.length) κ_ini (mstat ++ ml_ini)) 0 9 = -1
      rw [mFd_at ce_ini_0]
      rfl
    · show (mFd mnu0 (mr0 σ.length) κ_ini (mstat ++ ml_ini)) 0 10 = -1
      rw [mFd_at ce_ini_0]
      rfl
    · show (mFd mnu0 (mr0 σ.length) κ_ini (mstat ++ ml_ini)) 0 11 = -1
      rw [mFd_at ce_ini_0]
      rfl
    · show (mFd mnu0 (mr0 σ.length) κ_ini (mstat ++ ml_ini)) 0 12 = -1
      rw [mFd_at ce_ini_0]
      rfl
    · show (mFd mnu0 (mr0 σ.length) κ_ini (mstat ++ ml_ini)) 13 3 = -1
      rw [mFd_at ce_ini_13]
      rfl
    · show (mFd mnu0 (mr0 σ.length) κ_ini (mstat ++ ml_ini)) 13 4 = -1
      rw [mFd_at ce_ini_13]
      rfl
    · show (mFd mnu0 (mr0 σ.length) κ_ini (mstat ++ ml_ini)) 19 3 = -1
      rw [mFd_at ce_ini_19]
      rfl
    · show (mFd mnu0 (mr0 σ.length) κ_ini (mstat ++ ml_ini)) 19 4 = -1
      rw [mFd_at ce_ini_19]
      rfl
  · cases hf : fnd x ι_ini with
    | none =>
      rw [glu_n hf]
      refine ⟨fun _ => rfl, fun hs => ?_⟩
      have w := List.all_eq_true.mp (show (List.range VPH.length).all (fun x => !(SPH g0 x) || (fnd x ι_ini).isSome) = true by decide +kernel) x (List.mem_range.mpr hx)
      rw [hs, hf] at w
      cases w
    | some p =>
      have w := fnd_lt hf
      rw [glu_s hf]
      have u := List.all_eq_true.mp (show (List.range ι_ini.length).all (fun p => SPH g0 (ι_ini.getD p 0) && (Nat.beq (FXT.getD (ι_ini.getD p 0) 0) 0 || Nat.beq ((mN κ_ini (mstat ++ ml_ini)) p + 1) (FXT.getD (ι_ini.getD p 0) 0))) = true by decide +kernel) p (List.mem_range.mpr w.1)
      rw [Bool.and_eq_true, Bool.or_eq_true, w.2] at u
      refine ⟨fun q => (by rw [u.1] at q; cases q), fun _ h0 => ?_⟩
      rcases u.2 with u | u
      · exact absurd (Nat.eq_of_beq_eq_true u) h0
      · exact Nat.eq_of_beq_eq_true u
  · skip
    have n1 : (glu ι_ini (fun _ => 0) (mN κ_ini (mstat ++ ml_ini))) 1 = 4 := (mN_at ce_ini_1)
    have n3 : (glu ι_ini (fun _ => 0) (mN κ_ini (mstat ++ ml_ini))) 3 = 0 := (mN_at ce_ini_3)
    have n5 : (glu ι_ini (fun _ => 0) (mN κ_ini (mstat ++ ml_ini))) 5 = 0 := (mN_at ce_ini_5)
    have n7 : (glu ι_ini (fun _ => 0) (mN κ_ini (mstat ++ ml_ini))) 7 = 0 := (mN_at ce_ini_7)
    have n9 : (glu ι_ini (fun _ => 0) (mN κ_ini (mstat ++ ml_ini))) 9 = 0 := (mN_at ce_ini_9)
    have n10 : (glu ι_ini (fun _ => 0) (mN κ_ini (mstat ++ ml_ini))) 10 = 10 := (mN_at ce_ini_10)
    have n12 : (glu ι_ini (fun _ => 0) (mN κ_ini (mstat ++ ml_ini))) 12 = 0 := (mN_at ce_ini_12)
    have n15 : (glu ι_ini (fun _ => 0) (mN κ_ini (mstat ++ ml_ini))) 15 = 0 := (mN_at ce_ini_15)
    have n17 : (glu ι_ini (fun _ => 0) (mN κ_ini (mstat ++ ml_ini))) 17 = 3 := (mN_at ce_ini_17)
    have n18 : (glu ι_ini (fun _ => 0) (mN κ_ini (mstat ++ ml_ini))) 18 = 3 := (mN_at ce_ini_18)
    have n21 : (glu ι_ini (fun _ => 0) (mN κ_ini (mstat ++ ml_ini))) 21 = 0 := (mN_at ce_ini_21)
    have n23 : (glu ι_ini (fun _ => 0) (mN κ_ini (mstat ++ ml_ini))) 23 = 3 := (mN_at ce_ini_23)
    have n24 : (glu ι_ini (fun _ => 0) (mN κ_ini (mstat ++ ml_ini))) 24 = 3 := (mN_at ce_ini_24)
    have n26 : (glu ι_ini (fun _ => 0) (mN κ_ini (mstat ++ ml_ini))) 26 = 0 := (mN_at ce_ini_26)
    have n28 : (glu ι_ini (fun _ => 0) (mN κ_ini (mstat ++ ml_ini))) 28 = 0 := (mN_at ce_ini_28)
    have n29 : (glu ι_ini (fun _ => 0) (mN κ_ini (mstat ++ ml_ini))) 29 = 13 := (mN_at ce_ini_29)
    have n30 : (glu ι_ini (fun _ => 0) (mN κ_ini (mstat ++ ml_ini))) 30 = 5 := (mN_at ce_ini_30)
    have n31 : (glu ι_ini (fun _ => 0) (mN κ_ini (mstat ++ ml_ini))) 31 = 5 := (mN_at ce_ini_31)
    have n32 : (glu ι_ini (fun _ => 0) (mN κ_ini (mstat ++ ml_ini))) 32 = 2 := (mN_at ce_ini_32)
    have f2_1 : (glu ι_ini (fun _ _ => 0) (mFd mnu0 (mr0 σ.length) κ_ini (mstat ++ ml_ini))) 2 1 = 0 := (show (mFd mnu0 (mr0 σ.length) κ_ini (mstat ++ ml_ini)) 2 1 = 0 from (mFd_at (k := 1) ce_ini_2).trans (show ((0 : Int32)).toInt = 0 by decide))
    have f2_2 : (glu ι_ini (fun _ _ => 0) (mFd mnu0 (mr0 σ.length) κ_ini (mstat ++ ml_ini))) 2 2 = 0 := (show (mFd mnu0 (mr0 σ.length) κ_ini (mstat ++ ml_ini)) 2 2 = 0 from (mFd_at (k := 2) ce_ini_2).trans (show ((0 : Int32)).toInt = 0 by decide))
    have f4_1 : (glu ι_ini (fun _ _ => 0) (mFd mnu0 (mr0 σ.length) κ_ini (mstat ++ ml_ini))) 4 1 = 0 := (show (mFd mnu0 (mr0 σ.length) κ_ini (mstat ++ ml_ini)) 4 1 = 0 from (mFd_at (k := 1) ce_ini_4).trans (show ((0 : Int32)).toInt = 0 by decide))
    have f4_2 : (glu ι_ini (fun _ _ => 0) (mFd mnu0 (mr0 σ.length) κ_ini (mstat ++ ml_ini))) 4 2 = 0 := (show (mFd mnu0 (mr0 σ.length) κ_ini (mstat ++ ml_ini)) 4 2 = 0 from (mFd_at (k := 2) ce_ini_4).trans (show ((0 : Int32)).toInt = 0 by decide))
    have f6_1 : (glu ι_ini (fun _ _ => 0) (mFd mnu0 (mr0 σ.length) κ_ini (mstat ++ ml_ini))) 6 1 = 0 := (show (mFd mnu0 (mr0 σ.length) κ_ini (mstat ++ ml_ini)) 6 1 = 0 from (mFd_at (k := 1) ce_ini_6).trans (show ((0 : Int32)).toInt = 0 by decide))
    have f6_2 : (glu ι_ini (fun _ _ => 0) (mFd mnu0 (mr0 σ.length) κ_ini (mstat ++ ml_ini))) 6 2 = 0 := (show (mFd mnu0 (mr0 σ.length) κ_ini (mstat ++ ml_ini)) 6 2 = 0 from (mFd_at (k := 2) ce_ini_6).trans (show ((0 : Int32)).toInt = 0 by decide))
    have f8_1 : (glu ι_ini (fun _ _ => 0) (mFd mnu0 (mr0 σ.length) κ_ini (mstat ++ ml_ini))) 8 1 = 0 := (show (mFd mnu0 (mr0 σ.length) κ_ini (mstat ++ ml_ini)) 8 1 = 0 from (mFd_at (k := 1) ce_ini_8).trans (show ((0 : Int32)).toInt = 0 by decide))
    have f8_2 : (glu ι_ini (fun _ _ => 0) (mFd mnu0 (mr0 σ.length) κ_ini (mstat ++ ml_ini))) 8 2 = 0 := (show (mFd mnu0 (mr0 σ.length) κ_ini (mstat ++ ml_ini)) 8 2 = 0 from (mFd_at (k := 2) ce_ini_8).trans (show ((0 : Int32)).toInt = 0 by decide))
    have f11_1 : (glu ι_ini (fun _ _ => 0) (mFd mnu0 (mr0 σ.length) κ_ini (mstat ++ ml_ini))) 11 1 = 0 := (show (mFd mnu0 (mr0 σ.length) κ_ini (mstat ++ ml_ini)) 11 1 = 0 from (mFd_at (k := 1) ce_ini_11).trans (show ((0 : Int32)).toInt = 0 by decide))
    have f13_2 : (glu ι_ini (fun _ _ => 0) (mFd mnu0 (mr0 σ.length) κ_ini (mstat ++ ml_ini))) 13 2 = 0 := (show (mFd mnu0 (mr0 σ.length) κ_ini (mstat ++ ml_ini)) 13 2 = 0 from (mFd_at (k := 2) ce_ini_13).trans (show ((0 : Int32)).toInt = 0 by decide))
    have f14_1 : (glu ι_ini (fun _ _ => 0) (mFd mnu0 (mr0 σ.length) κ_ini (mstat ++ ml_ini))) 14 1 = 0 := (show (mFd mnu0 (mr0 σ.length) κ_ini (mstat ++ ml_ini)) 14 1 = 0 from (mFd_at (k := 1) ce_ini_14).trans (show ((0 : Int32)).toInt = 0 by decide))
    have f20_1 : (glu ι_ini (fun _ _ => 0) (mFd mnu0 (mr0 σ.length) κ_ini (mstat ++ ml_ini))) 20 1 = 0 := (show (mFd mnu0 (mr0 σ.length) κ_ini (mstat ++ ml_ini)) 20 1 = 0 from (mFd_at (k := 1) ce_ini_20).trans (show ((0 : Int32)).toInt = 0 by decide))
    have f25_1 : (glu ι_ini (fun _ _ => 0) (mFd mnu0 (mr0 σ.length) κ_ini (mstat ++ ml_ini))) 25 1 = 0 := (show (mFd mnu0 (mr0 σ.length) κ_ini (mstat ++ ml_ini)) 25 1 = 0 from (mFd_at (k := 1) ce_ini_25).trans (show ((0 : Int32)).toInt = 0 by decide))
    have f27_1 : (glu ι_ini (fun _ _ => 0) (mFd mnu0 (mr0 σ.length) κ_ini (mstat ++ ml_ini))) 27 1 = 0 := (show (mFd mnu0 (mr0 σ.length) κ_ini (mstat ++ ml_ini)) 27 1 = 0 from (mFd_at (k := 1) ce_ini_27).trans (show ((0 : Int32)).toInt = 0 by decide))
    have a10 : (glu ι_ini (fun _ _ => 0) (mA mnu0 (mr0 σ.length) κ_ini (mstat ++ ml_ini))) 10 = izl [(0, .int 2), (1, .int 4), (2, .int 65536), (3, .int 100), (4, .int 4), (5, .int 0), (6, .int 0), (7, .int 3), (8, .int 6), (9, .int 0)] := (show (mA mnu0 (mr0 σ.length) κ_ini (mstat ++ ml_ini)) 10 = izl [(0, .int 2), (1, .int 4), (2, .int 65536), (3, .int 100), (4, .int 4), (5, .int 0), (6, .int 0), (7, .int 3), (8, .int 6), (9, .int 0)] from mA_izl ce_ini_10 rfl)
    have a15 : (glu ι_ini (fun _ _ => 0) (mA mnu0 (mr0 σ.length) κ_ini (mstat ++ ml_ini))) 15 = izl [] := (show (mA mnu0 (mr0 σ.length) κ_ini (mstat ++ ml_ini)) 15 = izl [] from mA_izl ce_ini_15 rfl)
    exact ⟨show 0 ≤ ((glu ι_ini (fun _ _ => 0) (mFd mnu0 (mr0 σ.length) κ_ini (mstat ++ ml_ini))) 2 1) ∧ ((glu ι_ini (fun _ _ => 0) (mFd mnu0 (mr0 σ.length) κ_ini (mstat ++ ml_ini))) 2 1) ≤ ((((glu ι_ini (fun _ => 0) (mN κ_ini (mstat ++ ml_ini))) 3 : Nat) : Int)) ∧ ((((glu ι_ini (fun _ => 0) (mN κ_ini (mstat ++ ml_ini))) 3 : Nat) : Int)) ≤ 65536 from (by omega), show 0 ≤ ((glu ι_ini (fun _ _ => 0) (mFd mnu0 (mr0 σ.length) κ_ini (mstat ++ ml_ini))) 4 1) ∧ ((glu ι_ini (fun _ _ => 0) (mFd mnu0 (mr0 σ.length) κ_ini (mstat ++ ml_ini))) 4 1) ≤ ((((glu ι_ini (fun _ => 0) (mN κ_ini (mstat ++ ml_ini))) 5 : Nat) : Int)) ∧ ((((glu ι_ini (fun _ => 0) (mN κ_ini (mstat ++ ml_ini))) 5 : Nat) : Int)) ≤ 65536 from (by omega), show 0 ≤ ((glu ι_ini (fun _ _ => 0) (mFd mnu0 (mr0 σ.length) κ_ini (mstat ++ ml_ini))) 6 1) ∧ ((glu ι_ini (fun _ _ => 0) (mFd mnu0 (mr0 σ.length) κ_ini (mstat ++ ml_ini))) 6 1) ≤ ((((glu ι_ini (fun _ => 0) (mN κ_ini (mstat ++ ml_ini))) 7 : Nat) : Int)) ∧ ((((glu ι_ini (fun _ => 0) (mN κ_ini (mstat ++ ml_ini))) 7 : Nat) : Int)) ≤ 65536 from (by omega), show 0 ≤ ((glu ι_ini (fun _ _ => 0) (mFd mnu0 (mr0 σ.length) κ_ini (mstat ++ ml_ini))) 8 1) ∧ ((glu ι_ini (fun _ _ => 0) (mFd mnu0 (mr0 σ.length) κ_ini (mstat ++ ml_ini))) 8 1) ≤ ((((glu ι_ini (fun _ => 0) (mN κ_ini (mstat ++ ml_ini))) 9 : Nat) : Int)) ∧ ((((glu ι_ini (fun _ => 0) (mN κ_ini (mstat ++ ml_ini))) 9 : Nat) : Int)) ≤ 65536 from (by omega), show 0 ≤ ((glu ι_ini (fun _ _ => 0) (mFd mnu0 (mr0 σ.length) κ_ini (mstat ++ ml_ini))) 11 1) ∧ ((glu ι_ini (fun _ _ => 0) (mFd mnu0 (mr0 σ.length) κ_ini (mstat ++ ml_ini))) 11 1) ≤ ((((glu ι_ini (fun _ => 0) (mN κ_ini (mstat ++ ml_ini))) 12 : Nat) : Int)) ∧ ((((glu ι_ini (fun _ => 0) (mN κ_ini (mstat ++ ml_ini))) 12 : Nat) : Int)) ≤ 65536 from (by omega), show 0 ≤ ((glu ι_ini (fun _ _ => 0) (mFd mnu0 (mr0 σ.length) κ_ini (mstat ++ ml_ini))) 25 1) ∧ ((glu ι_ini (fun _ _ => 0) (mFd mnu0 (mr0 σ.length) κ_ini (mstat ++ ml_ini))) 25 1) ≤ ((((glu ι_ini (fun _ => 0) (mN κ_ini (mstat ++ ml_ini))) 26 : Nat) : Int)) ∧ ((((glu ι_ini (fun _ => 0) (mN κ_ini (mstat ++ ml_ini))) 26 : Nat) : Int)) ≤ 65536 from (by omega), show 0 ≤ ((glu ι_ini (fun _ _ => 0) (mFd mnu0 (mr0 σ.length) κ_ini (mstat ++ ml_ini))) 27 1) ∧ ((glu ι_ini (fun _ _ => 0) (mFd mnu0 (mr0 σ.length) κ_ini (mstat ++ ml_ini))) 27 1) ≤ ((((glu ι_ini (fun _ => 0) (mN κ_ini (mstat ++ ml_ini))) 28 : Nat) : Int)) ∧ ((((glu ι_ini (fun _ => 0) (mN κ_ini (mstat ++ ml_ini))) 28 : Nat) : Int)) ≤ 65536 from (by omega), show 0 ≤ ((glu ι_ini (fun _ _ => 0) (mFd mnu0 (mr0 σ.length) κ_ini (mstat ++ ml_ini))) 14 1) ∧ ((glu ι_ini (fun _ _ => 0) (mFd mnu0 (mr0 σ.length) κ_ini (mstat ++ ml_ini))) 14 1) ≤ ((((glu ι_ini (fun _ => 0) (mN κ_ini (mstat ++ ml_ini))) 15 : Nat) : Int)) ∧ ((((glu ι_ini (fun _ => 0) (mN κ_ini (mstat ++ ml_ini))) 15 : Nat) : Int)) ≤ 65536 from (by omega), show 0 ≤ ((glu ι_ini (fun _ _ => 0) (mFd mnu0 (mr0 σ.length) κ_ini (mstat ++ ml_ini))) 20 1) ∧ ((glu ι_ini (fun _ _ => 0) (mFd mnu0 (mr0 σ.length) κ_ini (mstat ++ ml_ini))) 20 1) ≤ ((((glu ι_ini (fun _ => 0) (mN κ_ini (mstat ++ ml_ini))) 21 : Nat) : Int)) ∧ ((((glu ι_ini (fun _ => 0) (mN κ_ini (mstat ++ ml_ini))) 21 : Nat) : Int)) ≤ 65536 from (by omega), show ((((glu ι_ini (fun _ => 0) (mN κ_ini (mstat ++ ml_ini))) 1 : Nat) : Int)) = 4 from (by omega), show ((((glu ι_ini (fun _ => 0) (mN κ_ini (mstat ++ ml_ini))) 10 : Nat) : Int)) = 10 from (by omega), show ((((glu ι_ini (fun _ => 0) (mN κ_ini (mstat ++ ml_ini))) 29 : Nat) : Int)) = 13 from (by omega), show ((((glu ι_ini (fun _ => 0) (mN κ_ini (mstat ++ ml_ini))) 30 : Nat) : Int)) = 5 from (by omega), show ((((glu ι_ini (fun _ => 0) (mN κ_ini (mstat ++ ml_ini))) 31 : Nat) : Int)) = 5 from (by omega), show ((((glu ι_ini (fun _ => 0) (mN κ_ini (mstat ++ ml_ini))) 32 : Nat) : Int)) = 2 from (by omega), show ((((glu ι_ini (fun _ => 0) (mN κ_ini (mstat ++ ml_ini))) 17 : Nat) : Int)) = 3 ∧ ((((glu ι_ini (fun _ => 0) (mN κ_ini (mstat ++ ml_ini))) 18 : Nat) : Int)) = 3 from (by omega), show ((((glu ι_ini (fun _ => 0) (mN κ_ini (mstat ++ ml_ini))) 23 : Nat) : Int)) = 3 ∧ ((((glu ι_ini (fun _ => 0) (mN κ_ini (mstat ++ ml_ini))) 24 : Nat) : Int)) = 3 from (by omega), show ((glu ι_ini (fun _ _ => 0) (mFd mnu0 (mr0 σ.length) κ_ini (mstat ++ ml_ini))) 2 2) = 0 from (by omega), show ((glu ι_ini (fun _ _ => 0) (mFd mnu0 (mr0 σ.length) κ_ini (mstat ++ ml_ini))) 4 2) = 0 from (by omega), show ((glu ι_ini (fun _ _ => 0) (mFd mnu0 (mr0 σ.length) κ_ini (mstat ++ ml_ini))) 6 2) = 0 from (by omega), show ((glu ι_ini (fun _ _ => 0) (mFd mnu0 (mr0 σ.length) κ_ini (mstat ++ ml_ini))) 8 2) = 0 from (by omega), show DCK DCE (sc (((glu ι_ini (fun _ _ => 0) (mA mnu0 (mr0 σ.length) κ_ini (mstat ++ ml_ini))) 15)) 0 (((glu ι_ini (fun _ _ => 0) (mFd mnu0 (mr0 σ.length) κ_ini (mstat ++ ml_ini))) 14 1))) (((glu ι_ini (fun _ _ => 0) (mFd mnu0 (mr0 σ.length) κ_ini (mstat ++ ml_ini))) 13 2)) (((glu ι_ini (fun _ _ => 0) (mA mnu0 (mr0 σ.length) κ_ini (mstat ++ ml_ini))) 18)) from (by rw [f13_2, f14_1]; exact ⟨(sc_nil (by decide)).symm, by decide, rfl, rfl, rfl⟩), DCo_E, DCl_E, show SETI (((glu ι_ini (fun _ _ => 0) (mA mnu0 (mr0 σ.length) κ_ini (mstat ++ ml_ini))) 10)) from (by rw [a10]; unfold SETI; decide)⟩
  · intro _
    have f16_0 : (glu ι_ini (fun _ _ => 0) (mFd mnu0 (mr0 σ.length) κ_ini (mstat ++ ml_ini))) 16 0 = -1 := (show (mFd mnu0 (mr0 σ.length) κ_ini (mstat ++ ml_ini)) 16 0 = -1 from (mFd_at (k := 0) ce_ini_16).trans rfl)
    exact ⟨show ((glu ι_ini (fun _ _ => 0) (mFd mnu0 (mr0 σ.length) κ_ini (mstat ++ ml_ini))) 16 0) = -1 from (by omega), show (((glu ι_ini (fun _ _ => 0) (mA mnu0 (mr0 σ.length) κ_ini (mstat ++ ml_ini))) 17)) 0 = -1 from (by show (mA mnu0 (mr0 σ.length) κ_ini (mstat ++ ml_ini)) 17 0 = -1; rw [mA_at ce_ini_17]; rfl), show (((glu ι_ini (fun _ _ => 0) (mA mnu0 (mr0 σ.length) κ_ini (mstat ++ ml_ini))) 17)) 1 = -1 from (by show (mA mnu0 (mr0 σ.length) κ_ini (mstat ++ ml_ini)) 17 1 = -1; rw [mA_at ce_ini_17]; rfl), show (((glu ι_ini (fun _ _ => 0) (mA mnu0 (mr0 σ.length) κ_ini (mstat ++ ml_ini))) 17)) 2 = -1 from (by show (mA mnu0 (mr0 σ.length) κ_ini (mstat ++ ml_ini)) 17 2 = -1; rw [mA_at ce_ini_17]; rfl), show DCE.2.2.1.1 = 0 from rfl, show (DCE.2.2.2.1 0).1 < 0 from (show (-1 : Int) < 0 by decide), show (DCE.2.2.2.1 1).1 < 0 from (show (-1 : Int) < 0 by decide), show (DCE.2.2.2.1 2).1 < 0 from (show (-1 : Int) < 0 by decide)⟩


end
section
/-! Y6b.room -/
def bSl : List Int := [0, 6, 0, 163840, 0, 163840, 0, 163840, 0, 163840, 15, 0, 163840, 0, 0, 163840, 0, 5, 5, 0, 0, 163840, 0, 5, 5, 0, 163840, 0, 163840, 20, 8, 8, 3, 0, 0, 163840, 163840, 163840, 163840, 3072, 40960, 0, 0, 163840, 0, 0, 163840, 5, 0, 54, 54, 54, 54, 54, 96, 96, 96, 0, 44, 44, 44, 44, 44, 48, 48, 48, 0, 80, 80, 80, 80, 80, 96, 96, 96, 0, 3, 0, 384, 384, 3072, 384, 18, 0, 18, 18, 18, 18, 18, 96, 96, 96, 0, 163840, 0, 163840, 0, 384, 768, 768, 0, 384, 384, 3072, 384, 18, 0, 18, 18, 18, 18, 18, 96, 96, 96, 0, 163840, 0, 163840, 0, 384, 768, 768, 5, 0, 54, 54, 54, 54, 54, 768, 768, 768, 0, 48, 48, 48, 48, 48, 384, 384, 384, 0, 80, 80, 80, 80, 80, 768, 768, 768, 5, 0, 54, 54, 54, 54, 54, 768, 768, 768, 0, 48, 48, 48, 48, 48, 384, 384, 384, 0, 80, 80, 80, 80, 80, 768, 768, 768, 0, 5, 5, 0, 5, 5, 0, 163840, 0, 163840, 0, 163840, 384, 80, 5, 40960, 40960, 40960, 40960, 5, 20, 0, 0, 384, 384, 3072, 384, 18, 0, 18, 18, 18, 18, 18, 96, 96, 96, 0, 0, 0, 0, 0, 384, 768, 768, 5, 0, 54, 54, 54, 54, 54, 768, 768, 768, 0, 48, 48, 48, 48, 48, 384, 384, 384, 0, 80, 80, 80, 80, 80, 768, 768, 768, 0, 5, 5, 0, 163840, 0, 5, 0, 384, 384, 3072, 384, 18, 0, 18, 18, 18, 18, 18, 96, 96, 96, 0, 0, 0, 0, 0, 384, 768, 768, 5, 0, 54, 54, 54, 54, 54, 768, 768, 768, 0, 48, 48, 48, 48, 48, 384, 384, 384, 0, 80, 80, 80, 80, 80, 768, 768, 768, 0, 384, 384, 3072, 384, 18, 0, 18, 18, 18, 18, 18, 96, 96, 96, 0, 0, 0, 0, 0, 384, 768, 768, 5, 0, 54, 54, 54, 54, 54, 768, 768, 768, 0, 48, 48, 48, 48, 48, 384, 384, 384, 0, 80, 80, 80, 80, 80, 768, 768, 768]
theorem pC_12 (n : Nat) : pC n ≤ 12 := by
  unfold pC
  repeat' split
  all_goals omega
theorem pS_65 {n : Nat} (h : n ≤ 65536) : pS n ≤ 163840 := by
  unfold pS
  repeat' split
  all_goals omega
theorem pS_16 {n : Nat} (h : n ≤ 16384) : pS n ≤ 40960 := by
  unfold pS
  repeat' split
  all_goals omega
theorem pS_20 {n : Nat} (h : n = 0 ∨ n = 2048) : pS n ≤ 3072 := by
  rcases h with rfl | rfl <;> decide
theorem pS_3 {n : Nat} (h : n = 3) : pS n ≤ 5 := by
  subst h
  decide
theorem kadd_le (b : Bool) {n : Int} (h : 0 ≤ n) : kadd b n ≤ n := by
  cases b
  · exact h
  · exact Int.le_refl _
theorem vs_12 : ∀ n : Nat, vs (fun _ => 12) n = 12 * n
  | 0 => rfl
  | n + 1 => by
    show vs (fun _ => 12) n + 12 = _
    rw [vs_12 n]
    omega
theorem PB {Dc : DcS} {g : Nat → Bool} {σ : rS} {D N : Nat → Nat} {F : hF} {A : hA} (X : PHI Dc g σ D N F A) : PCg g N ≤ 4660 ∧ PSg g N ≤ 4090536 := by
  obtain ⟨HX, HT, hg0, hPF, hAB, hNZ, hGI, hI0, hI1, hI2, hI3, hI4, hI5, hI6, hI7, hI8, hI9⟩ := X
  have k1 := kadd_le (g 1) (n := 8) (by decide)
  have c1 := kadd_le (g 1) (n := 8) (by decide)
  have s1 := kadd_le (g 1) (n := 24) (by decide)
  have c2 := kadd_le (g 2) (n := 3) (by decide)
  have s2 := kadd_le (g 2) (n := 18) (by decide)
  have c3 := kadd_le (g 3) (n := 3) (by decide)
  have s3 := kadd_le (g 3) (n := 14) (by decide)
  have c4 := kadd_le (g 4) (n := 28) (by decide)
  have s4 := kadd_le (g 4) (n := 1112) (by decide)
  have c5 := kadd_le (g 5) (n := 125) (by decide)
  have s5 := kadd_le (g 5) (n := 18162) (by decide)
  have c6 := kadd_le (g 6) (n := 59) (by decide)
  have s6 := kadd_le (g 6) (n := 8932) (by decide)
  have c7 := kadd_le (g 7) (n := 51) (by decide)
  have s7 := kadd_le (g 7) (n := 8890) (by decide)
  have c8 := kadd_le (g 8) (n := 51) (by decide)
  have s8 := kadd_le (g 8) (n := 8890) (by decide)
  have a := vs_le (f := fun x => pC (N x)) (h := fun _ => 12) (n := VPH.length) (fun x _ => pC_12 _)
  rw [vs_12, show VPH.length = 361 by decide +kernel] at a
  have b := vs_le (f := fun x => pS (N x)) (h := fun x => bSl.getD x 0) (n := VPH.length) (fun x hx => ?_)
  · rw [show vs (fun x => bSl.getD x 0) VPH.length = 4044494 by decide +kernel] at b
    unfold PCg PSg KC KS
    rw [show VPH.length = 361 by decide +kernel] at *
    constructor <;> omega
  have nn := of_decide_eq_true (List.all_eq_true.mp (show (List.range VPH.length).all (fun x => decide (0 ≤ bSl.getD x 0)) = true by decide +kernel) x (List.mem_range.mpr hx))
  cases hs : SPH g x with
  | false =>
    show pS (N x) ≤ _
    rw [(hNZ x hx).1 hs]
    exact nn
  | true =>
    by_cases h0 : FXT.getD x 0 = 0
    · have w := List.all_eq_true.mp (show (List.range VPH.length).all (fun x => !(Nat.beq (FXT.getD x 0) 0) || ([3, 5, 7, 9, 12, 15, 21, 26, 28, 35, 36, 37, 38, 39, 40, 43, 46, 93, 95, 116, 118, 186, 188, 190, 193, 194, 195, 196, 197, 256] : List Nat).any (fun y => Nat.beq y x)) = true by decide +kernel) x (List.mem_range.mpr hx)
      rw [h0] at w
      have w : ([3, 5, 7, 9, 12, 15, 21, 26, 28, 35, 36, 37, 38, 39, 40, 43, 46, 93, 95, 116, 118, 186, 188, 190, 193, 194, 195, 196, 197, 256] : List Nat).any (fun y => Nat.beq y x) = true := w
      obtain ⟨y, y1, y2⟩ := List.any_eq_true.mp w
      have y2 := Nat.eq_of_beq_eq_true y2
      subst y2
      clear w nn h0 hx a
      simp only [List.mem_cons, List.not_mem_nil, or_false] at y1
      rcases y1 with rfl | rfl | rfl | rfl | rfl | rfl | rfl | rfl | rfl | rfl | rfl | rfl | rfl | rfl | rfl | rfl | rfl | rfl | rfl | rfl | rfl | rfl | rfl | rfl | rfl | rfl | rfl | rfl | rfl | rfl
      · have w := hI0
        unfold INV0 at w
        have w : QF0_0 Dc D N F A := w.1
        exact pS_65 (by unfold QF0_0 at w; omega)
      · have w := hI0
        unfold INV0 at w
        have w : QF0_1 Dc D N F A := w.2.1
        exact pS_65 (by unfold QF0_1 at w; omega)
      · have w := hI0
        unfold INV0 at w
        have w : QF0_2 Dc D N F A := w.2.2.1
        exact pS_65 (by unfold QF0_2 at w; omega)
      · have w := hI0
        unfold INV0 at w
        have w : QF0_3 Dc D N F A := w.2.2.2.1
        exact pS_65 (by unfold QF0_3 at w; omega)
      · have w := hI0
        unfold INV0 at w
        have w : QF0_4 Dc D N F A := w.2.2.2.2.1
        exact pS_65 (by unfold QF0_4 at w; omega)
      · have w := hI0
        unfold INV0 at w
        have w : QF0_7 Dc D N F A := w.2.2.2.2.2.2.2.1
        exact pS_65 (by unfold QF0_7 at w; omega)
      · have w := hI0
        unfold INV0 at w
        have w : QF0_8 Dc D N F A := w.2.2.2.2.2.2.2.2.1
        exact pS_65 (by unfold QF0_8 at w; omega)
      · have w := hI0
        unfold INV0 at w
        have w : QF0_5 Dc D N F A := w.2.2.2.2.2.1
        exact pS_65 (by unfold QF0_5 at w; omega)
      · have w := hI0
        unfold INV0 at w
        have w : QF0_6 Dc D N F A := w.2.2.2.2.2.2.1
        exact pS_65 (by unfold QF0_6 at w; omega)
      · have w := (hI1 hs)
        unfold INV1 at w
        have w : QF1_0 D N F A := w.1
        exact pS_65 (by unfold QF1_0 at w; omega)
      · have w := (hI1 hs)
        unfold INV1 at w
        have w : QF1_3 D N F A := w.2.2.2
        exact pS_65 (by unfold QF1_3 at w; omega)
      · have w := (hI1 hs)
        unfold INV1 at w
        have w : QF1_3 D N F A := w.2.2.2
        exact pS_65 (by unfold QF1_3 at w; omega)
      · have w := (hI1 hs)
        unfold INV1 at w
        have w : QF1_3 D N F A := w.2.2.2
        exact pS_65 (by unfold QF1_3 at w; omega)
      · have w := (hI1 hs)
        unfold INV1 at w
        have w : QF1_1 D N F A := w.2.1
        exact pS_20 (by unfold QF1_1 at w; omega)
      · have w := (hI1 hs)
        unfold INV1 at w
        have w : QF1_2 D N F A := w.2.2.1
        exact pS_16 (by unfold QF1_2 at w; omega)
      · have w := (hI2 hs)
        unfold INV2 at w
        have w : QF2_0 D N F A := w
        exact pS_65 (by unfold QF2_0 at w; omega)
      · have w := (hI3 hs)
        unfold INV3 at w
        have w : QF3_0 D N F A := w
        exact pS_65 (by unfold QF3_0 at w; omega)
      · have w := (hI5 hs)
        unfold INV5 at w
        have w : QF5_7 D N F A := w.2.2.2.2.2.2.2.1
        exact pS_65 (by unfold QF5_7 at w; omega)
      · have w := (hI5 hs)
        unfold INV5 at w
        have w : QF5_8 D N F A := w.2.2.2.2.2.2.2.2.1
        exact pS_65 (by unfold QF5_8 at w; omega)
      · have w := (hI5 hs)
        unfold INV5 at w
        have w : QF5_12 D N F A := w.2.2.2.2.2.2.2.2.2.2.2.2.1
        exact pS_65 (by unfold QF5_12 at w; omega)
      · have w := (hI5 hs)
        unfold INV5 at w
        have w : QF5_13 D N F A := w.2.2.2.2.2.2.2.2.2.2.2.2.2.1
        exact pS_65 (by unfold QF5_13 at w; omega)
      · have w := (hI5 hs)
        unfold INV5 at w
        have w : QF5_0 D N F A := w.1
        exact pS_65 (by unfold QF5_0 at w; omega)
      · have w := (hI5 hs)
        unfold INV5 at w
        have w : QF5_1 D N F A := w.2.1
        exact pS_65 (by unfold QF5_1 at w; omega)
      · have w := (hI5 hs)
        unfold INV5 at w
        have w : QF5_2 D N F A := w.2.2.1
        exact pS_65 (by unfold QF5_2 at w; omega)
      · have w := (hI5 hs)
        unfold INV5 at w
        have w : QF5_4 D N F A := w.2.2.2.2.1
        exact pS_3 (by unfold QF5_4 at w; omega)
      · have w := (hI5 hs)
        unfold INV5 at w
        have w : QF5_4 D N F A := w.2.2.2.2.1
        exact pS_16 (by unfold QF5_4 at w; omega)
      · have w := (hI5 hs)
        unfold INV5 at w
        have w : QF5_4 D N F A := w.2.2.2.2.1
        exact pS_16 (by unfold QF5_4 at w; omega)
      · have w := (hI5 hs)
        unfold INV5 at w
        have w : QF5_4 D N F A := w.2.2.2.2.1
        exact pS_16 (by unfold QF5_4 at w; omega)
      · have w := (hI5 hs)
        unfold INV5 at w
        have w : QF5_4 D N F A := w.2.2.2.2.1
        exact pS_16 (by unfold QF5_4 at w; omega)
      · have w := (hI6 hs)
        unfold INV6 at w
        have w : QF6_1 D N F A := w.2.1
        exact pS_65 (by unfold QF6_1 at w; omega)
    · have w := (hNZ x hx).2 hs h0
      have u := List.all_eq_true.mp (show (List.range VPH.length).all (fun x => Nat.beq (FXT.getD x 0) 0 || decide (pS (FXT.getD x 0 - 1) ≤ bSl.getD x 0)) = true by decide +kernel) x (List.mem_range.mpr hx)
      rw [beqf h0, Bool.false_or] at u
      have u := of_decide_eq_true u
      rw [← w, Nat.add_sub_cancel] at u
      exact u


end
section
/-! Y6r.ini -/
def fl_rin : List Value := [.null, .null, .null, .null, .null, .null, .null, .null, .null, .int 0, .int 0, .int 0, .null]
def ml_rin : rS := [.inl (1, [.ref 12, .ref 13, .ref 14, .ref 17, .ref 18, .ref 26, .ref 30, .ref 53, .ref 95, .int 0, .int 0, .int 0, .ref 96]), .inr (1, 262144, .int 0, []), .inr (1, 4, .int 0, []), .inl (13, [.ref 15, .int 0, .ref 16, .int 0, .int 0]), .inr (1, 65536, .int 0, []), .inr (1, 65536, .int 0, []), .inl (15, [.ref 12, .int 0]), .inl (17, [.ref 14, .ref 19, .int 0, .ref 20, .ref 21, .int 0, .int 0, .ref 22, .int 0, .ref 23, .int 0, .ref 24, .int 0, .ref 25, .int 0, .int 0, .int 0]), .inr (1, 65536, .int 0, []), .inr (2, 4, .long 0, []), .inr (1, 16384, .int 0, []), .inr (1, 70000, .int 0, []), .inr (1, 70000, .int 0, []), .inr (1, 131072, .int 0, []), .inr (1, 65536, .int 0, []), .inl (16, [.ref 14, .ref 27, .int 0, .ref 28, .ref 29, .int 0, .int 0, .int 0, .int 0, .int 0, .int 0, .int 0]), .inr (1, 70000, .int 0, []), .inr (1, 16385, .int 0, []), .inr (1, 16385, .int 0, []), .inl (14, [.ref 14, .ref 31, .int 0, .int 0, .int 0, .ref 32, .ref 33, .ref 34, .ref 35, .ref 36, .int 0, .ref 37, .ref 38, .ref 39, .ref 40, .ref 41, .ref 42, .ref 43, .ref 44, .int 0, .ref 45, .ref 46, .ref 47, .ref 48, .ref 49, .int 0, .int 0, .int 0, .int 0, .int 0, .int 0, .int 0, .int 0, .int 0, .int 0, .long 0, .int 0, .ref 50, .ref 51, .int 0, .int 0, .int 0, .int 0, .int 0, .int 0, .int 0, .ref 52]), .inr (1, 65536, .int 0, []), .inr (1, 256, .int 0, []), .inr (1, 192, .int 0, []), .inr (1, 3, .int 0, []), .inr (2, 3, .long 0, []), .inr (1, 256, .int 0, []), .inr (1, 2048, .int 0, []), .inr (1, 192, .int 0, []), .inr (1, 3, .int 0, []), .inr (1, 1536, .int 0, []), .inr (1, 1536, .int 0, []), .inr (1, 1536, .int 0, []), .inr (2, 3, .long 0, []), .inr (1, 256, .int 0, []), .inr (1, 256, .int 0, []), .inr (1, 256, .int 0, []), .inr (1, 64, .int 0, []), .inr (1, 64, .int 0, []), .inr (1, 64, .int 0, []), .inr (1, 65536, .int 0, []), .inr (1, 131072, .int 0, []), .inr (2, 4, .long 0, []), .inl (18, [.ref 14, .int 0, .int 0, .ref 54, .int 0, .int 0, .int 0, .ref 55, .ref 56, .ref 57, .ref 58, .ref 59, .int 0, .ref 60, .ref 61, .ref 62, .ref 63, .int 0, .ref 64, .ref 65, .ref 66, .ref 67, .int 0, .int 0, .int 0, .ref 68, .ref 69, .ref 70, .int 0, .ref 71, .int 0, .ref 72, .ref 73, .ref 74, .ref 75, .int 0, .ref 76, .int 0, .ref 77, .ref 78, .ref 79, .ref 80, .ref 81, .ref 82, .ref 83, .ref 84, .ref 85, .ref 86, .ref 87, .int 0, .ref 88, .ref 89, .ref 90, .int 0, .int 0, .ref 91, .ref 92, .ref 93, .ref 94]), .inr (1, 65536, .int 0, []), .inr (1, 256, .int 0, []), .inr (1, 192, .int 0, []), .inr (1, 3, .int 0, []), .inr (1, 3, .int 0, []), .inr (1, 256, .int 0, []), .inr (1, 192, .int 0, []), .inr (1, 3, .int 0, []), .inr (1, 3, .int 0, []), .inr (1, 256, .int 0, []), .inr (1, 192, .int 0, []), .inr (1, 3, .int 0, []), .inr (1, 3, .int 0, []), .inr (1, 16384, .int 0, []), .inr (1, 8001, .int 0, []), .inr (1, 8001, .int 0, []), .inr (1, 8001, .int 0, []), .inr (1, 16385, .int 0, []), .inr (1, 24003, .int 0, []), .inr (1, 24003, .int 0, []), .inr (1, 24003, .int 0, []), .inr (1, 24000, .int 0, []), .inr (1, 65536, .int 0, []), .inr (1, 2048, .int 0, []), .inr (1, 2048, .int 0, []), .inr (1, 2048, .int 0, []), .inr (1, 64, .int 0, []), .inr (1, 64, .int 0, []), .inr (1, 64, .int 0, []), .inr (3, 64, .int 0, []), .inr (1, 256, .int 0, []), .inr (1, 256, .int 0, []), .inr (1, 512, .int 0, []), .inr (1, 512, .int 0, []), .inr (1, 256, .int 0, []), .inr (1, 2048, .int 0, []), .inr (1, 257, .int 0, []), .inr (1, 12, .int 0, []), .inr (2, 4, .long 0, []), .inr (1, 12, .int 0, []), .inr (1, 12, .int 0, []), .inr (1, 10, .int 0, [(0, .int 2), (1, .int 4), (2, .int 65536), (3, .int 100), (4, .int 4), (7, .int 3), (8, .int 6)]), .inr (1, 5, .int 0, [])]
theorem ev_rin : mrun 437 2 55 0 (rargs 0 [.ref 11]) [] (mstat ++ [.inl (1, fl_rin)]) 0 0 = some (none, mstat ++ ml_rin, 85, 1481103) := meq_of (by decide +kernel)
def κ_rin : List Nat := [11, 14, 17, 18, 26, 30, 53, 0, 0, 0, 12, 13, 95, 96, 15, 16, 19, 20, 21, 22, 23, 24, 25, 27, 28, 29, 31, 32, 33, 34, 35, 36, 37, 38, 39, 40, 41, 42, 43, 44, 45, 46, 47, 48, 49, 50, 51, 52, 54, 55, 56, 57, 58, 59, 60, 61, 62, 63, 64, 65, 66, 67, 68, 69, 70, 71, 72, 73, 74, 75, 76, 77, 78, 79, 80, 81, 82, 83, 84, 85, 86, 87, 88, 89, 90, 91, 92, 93, 94]
theorem hz_rin : hzall κ_rin (mstat ++ ml_rin) = true := by decide +kernel
theorem t_flo1_0 {k : Nat} (h : 13 ≤ k) : t_flo1 k = 0 := by
  unfold t_flo1
  rw [beqf (show k ≠ 0 by omega), beqf (show k ≠ 1 by omega), beqf (show k ≠ 2 by omega), beqf (show k ≠ 3 by omega), beqf (show k ≠ 4 by omega), beqf (show k ≠ 5 by omega), beqf (show k ≠ 6 by omega), beqf (show k ≠ 7 by omega), beqf (show k ≠ 8 by omega), beqf (show k ≠ 9 by omega), beqf (show k ≠ 10 by omega), beqf (show k ≠ 11 by omega), beqf (show k ≠ 12 by omega)]
  rfl
theorem t_fhi1_0 {k : Nat} (h : 13 ≤ k) : t_fhi1 k = 0 := by
  unfold t_fhi1
  rw [beqf (show k ≠ 0 by omega), beqf (show k ≠ 1 by omega), beqf (show k ≠ 2 by omega), beqf (show k ≠ 3 by omega), beqf (show k ≠ 4 by omega), beqf (show k ≠ 5 by omega), beqf (show k ≠ 6 by omega), beqf (show k ≠ 7 by omega), beqf (show k ≠ 8 by omega), beqf (show k ≠ 9 by omega), beqf (show k ≠ 10 by omega), beqf (show k ≠ 11 by omega), beqf (show k ≠ 12 by omega)]
  rfl
theorem t_flo13_0 {k : Nat} (h : 5 ≤ k) : t_flo13 k = 0 := by
  unfold t_flo13
  rw [beqf (show k ≠ 0 by omega), beqf (show k ≠ 1 by omega), beqf (show k ≠ 2 by omega), beqf (show k ≠ 3 by omega), beqf (show k ≠ 4 by omega)]
  rfl
theorem t_fhi13_0 {k : Nat} (h : 5 ≤ k) : t_fhi13 k = 0 := by
  unfold t_fhi13
  rw [beqf (show k ≠ 0 by omega), beqf (show k ≠ 1 by omega), beqf (show k ≠ 2 by omega), beqf (show k ≠ 3 by omega), beqf (show k ≠ 4 by omega)]
  rfl
theorem t_flo15_0 {k : Nat} (h : 2 ≤ k) : t_flo15 k = 0 := by
  unfold t_flo15
  rw [beqf (show k ≠ 0 by omega), beqf (show k ≠ 1 by omega)]
  rfl
theorem t_fhi15_0 {k : Nat} (h : 2 ≤ k) : t_fhi15 k = 0 := by
  unfold t_fhi15
  rw [beqf (show k ≠ 0 by omega), beqf (show k ≠ 1 by omega)]
  rfl
theorem t_flo17_0 {k : Nat} (h : 17 ≤ k) : t_flo17 k = 0 := by
  unfold t_flo17
  rw [beqf (show k ≠ 0 by omega), beqf (show k ≠ 1 by omega), beqf (show k ≠ 2 by omega), beqf (show k ≠ 3 by omega), beqf (show k ≠ 4 by omega), beqf (show k ≠ 5 by omega), beqf (show k ≠ 6 by omega), beqf (show k ≠ 7 by omega), beqf (show k ≠ 8 by omega), beqf (show k ≠ 9 by omega), beqf (show k ≠ 10 by omega), beqf (show k ≠ 11 by omega), beqf (show k ≠ 12 by omega), beqf (show k ≠ 13 by omega), beqf (show k ≠ 14 by omega), beqf (show k ≠ 15 by omega), beqf (show k ≠ 16 by omega)]
  rfl
theorem t_fhi17_0 {k : Nat} (h : 17 ≤ k) : t_fhi17 k = 0 := by
  unfold t_fhi17
  rw [beqf (show k ≠ 0 by omega), beqf (show k ≠ 1 by omega), beqf (show k ≠ 2 by omega), beqf (show k ≠ 3 by omega), beqf (show k ≠ 4 by omega), beqf (show k ≠ 5 by omega), beqf (show k ≠ 6 by omega), beqf (show k ≠ 7 by omega), beqf (show k ≠ 8 by omega), beqf (show k ≠ 9 by omega), beqf (show k ≠ 10 by omega), beqf (show k ≠ 11 by omega), beqf (show k ≠ 12 by omega), beqf (show k ≠ 13 by omega), beqf (show k ≠ 14 by omega), beqf (show k ≠ 15 by omega), beqf (show k ≠ 16 by omega)]
  rfl
theorem t_flo16_0 {k : Nat} (h : 12 ≤ k) : t_flo16 k = 0 := by
  unfold t_flo16
  rw [beqf (show k ≠ 0 by omega), beqf (show k ≠ 1 by omega), beqf (show k ≠ 2 by omega), beqf (show k ≠ 3 by omega), beqf (show k ≠ 4 by omega), beqf (show k ≠ 5 by omega), beqf (show k ≠ 6 by omega), beqf (show k ≠ 7 by omega), beqf (show k ≠ 8 by omega), beqf (show k ≠ 9 by omega), beqf (show k ≠ 10 by omega), beqf (show k ≠ 11 by omega)]
  rfl
theorem t_fhi16_0 {k : Nat} (h : 12 ≤ k) : t_fhi16 k = 0 := by
  unfold t_fhi16
  rw [beqf (show k ≠ 0 by omega), beqf (show k ≠ 1 by omega), beqf (show k ≠ 2 by omega), beqf (show k ≠ 3 by omega), beqf (show k ≠ 4 by omega), beqf (show k ≠ 5 by omega), beqf (show k ≠ 6 by omega), beqf (show k ≠ 7 by omega), beqf (show k ≠ 8 by omega), beqf (show k ≠ 9 by omega), beqf (show k ≠ 10 by omega), beqf (show k ≠ 11 by omega)]
  rfl
theorem t_flo14_0 {k : Nat} (h : 47 ≤ k) : t_flo14 k = 0 := by
  unfold t_flo14
  rw [beqf (show k ≠ 0 by omega), beqf (show k ≠ 1 by omega), beqf (show k ≠ 2 by omega), beqf (show k ≠ 3 by omega), beqf (show k ≠ 4 by omega), beqf (show k ≠ 5 by omega), beqf (show k ≠ 6 by omega), beqf (show k ≠ 7 by omega), beqf (show k ≠ 8 by omega), beqf (show k ≠ 9 by omega), beqf (show k ≠ 10 by omega), beqf (show k ≠ 11 by omega), beqf (show k ≠ 12 by omega), beqf (show k ≠ 13 by omega), beqf (show k ≠ 14 by omega), beqf (show k ≠ 15 by omega), beqf (show k ≠ 16 by omega), beqf (show k ≠ 17 by omega), beqf (show k ≠ 18 by omega), beqf (show k ≠ 19 by omega), beqf (show k ≠ 20 by omega), beqf (show k ≠ 21 by omega), beqf (show k ≠ 22 by omega), beqf (show k ≠ 23 by omega), beqf (show k ≠ 24 by omega), beqf (show k ≠ 25 by omega), beqf (show k ≠ 26 by omega), beqf (show k ≠ 27 by omega), beqf (show k ≠ 28 by omega), beqf (show k ≠ 29 by omega), beqf (show k ≠ 30 by omega), beqf (show k ≠ 31 by omega), beqf (show k ≠ 32 by omega), beqf (show k ≠ 33 by omega), beqf (show k ≠ 34 by omega), beqf (show k ≠ 35 by omega), beqf (show k ≠ 36 by omega), beqf (show k ≠ 37 by omega), beqf (show k ≠ 38 by omega), beqf (show k ≠ 39 by omega), beqf (show k ≠ 40 by omega), beqf (show k ≠ 41 by omega), beqf (show k ≠ 42 by omega), beqf (show k ≠ 43 by omega), beqf (show k ≠ 44 by omega), beqf (show k ≠ 45 by omega), beqf (show k ≠ 46 by omega)]
  rfl
theorem t_fhi14_0 {k : Nat} (h : 47 ≤ k) : t_fhi14 k = 0 := by
  unfold t_fhi14
  rw [beqf (show k ≠ 0 by omega), beqf (show k ≠ 1 by omega), beqf (show k ≠ 2 by omega), beqf (show k ≠ 3 by omega), beqf (show k ≠ 4 by omega), beqf (show k ≠ 5 by omega), beqf (show k ≠ 6 by omega), beqf (show k ≠ 7 by omega), beqf (show k ≠ 8 by omega), beqf (show k ≠ 9 by omega), beqf (show k ≠ 10 by omega), beqf (show k ≠ 11 by omega), beqf (show k ≠ 12 by omega), beqf (show k ≠ 13 by omega), beqf (show k ≠ 14 by omega), beqf (show k ≠ 15 by omega), beqf (show k ≠ 16 by omega), beqf (show k ≠ 17 by omega), beqf (show k ≠ 18 by omega), beqf (show k ≠ 19 by omega), beqf (show k ≠ 20 by omega), beqf (show k ≠ 21 by omega), beqf (show k ≠ 22 by omega), beqf (show k ≠ 23 by omega), beqf (show k ≠ 24 by omega), beqf (show k ≠ 25 by omega), beqf (show k ≠ 26 by omega), beqf (show k ≠ 27 by omega), beqf (show k ≠ 28 by omega), beqf (show k ≠ 29 by omega), beqf (show k ≠ 30 by omega), beqf (show k ≠ 31 by omega), beqf (show k ≠ 32 by omega), beqf (show k ≠ 33 by omega), beqf (show k ≠ 34 by omega), beqf (show k ≠ 35 by omega), beqf (show k ≠ 36 by omega), beqf (show k ≠ 37 by omega), beqf (show k ≠ 38 by omega), beqf (show k ≠ 39 by omega), beqf (show k ≠ 40 by omega), beqf (show k ≠ 41 by omega), beqf (show k ≠ 42 by omega), beqf (show k ≠ 43 by omega), beqf (show k ≠ 44 by omega), beqf (show k ≠ 45 by omega), beqf (show k ≠ 46 by omega)]
  rfl
theorem t_flo18_0 {k : Nat} (h : 59 ≤ k) : t_flo18 k = 0 := by
  unfold t_flo18
  rw [beqf (show k ≠ 0 by omega), beqf (show k ≠ 1 by omega), beqf (show k ≠ 2 by omega), beqf (show k ≠ 3 by omega), beqf (show k ≠ 4 by omega), beqf (show k ≠ 5 by omega), beqf (show k ≠ 6 by omega), beqf (show k ≠ 7 by omega), beqf (show k ≠ 8 by omega), beqf (show k ≠ 9 by omega), beqf (show k ≠ 10 by omega), beqf (show k ≠ 11 by omega), beqf (show k ≠ 12 by omega), beqf (show k ≠ 13 by omega), beqf (show k ≠ 14 by omega), beqf (show k ≠ 15 by omega), beqf (show k ≠ 16 by omega), beqf (show k ≠ 17 by omega), beqf (show k ≠ 18 by omega), beqf (show k ≠ 19 by omega), beqf (show k ≠ 20 by omega), beqf (show k ≠ 21 by omega), beqf (show k ≠ 22 by omega), beqf (show k ≠ 23 by omega), beqf (show k ≠ 24 by omega), beqf (show k ≠ 25 by omega), beqf (show k ≠ 26 by omega), beqf (show k ≠ 27 by omega), beqf (show k ≠ 28 by omega), beqf (show k ≠ 29 by omega), beqf (show k ≠ 30 by omega), beqf (show k ≠ 31 by omega), beqf (show k ≠ 32 by omega), beqf (show k ≠ 33 by omega), beqf (show k ≠ 34 by omega), beqf (show k ≠ 35 by omega), beqf (show k ≠ 36 by omega), beqf (show k ≠ 37 by omega), beqf (show k ≠ 38 by omega), beqf (show k ≠ 39 by omega), beqf (show k ≠ 40 by omega), beqf (show k ≠ 41 by omega), beqf (show k ≠ 42 by omega), beqf (show k ≠ 43 by omega), beqf (show k ≠ 44 by omega), beqf (show k ≠ 45 by omega), beqf (show k ≠ 46 by omega), beqf (show k ≠ 47 by omega), beqf (show k ≠ 48 by omega), beqf (show k ≠ 49 by omega), beqf (show k ≠ 50 by omega), beqf (show k ≠ 51 by omega), beqf (show k ≠ 52 by omega), beqf (show k ≠ 53 by omega), beqf (show k ≠ 54 by omega), beqf (show k ≠ 55 by omega), beqf (show k ≠ 56 by omega), beqf (show k ≠ 57 by omega), beqf (show k ≠ 58 by omega)]
  rfl
theorem t_fhi18_0 {k : Nat} (h : 59 ≤ k) : t_fhi18 k = 0 := by
  unfold t_fhi18
  rw [beqf (show k ≠ 0 by omega), beqf (show k ≠ 1 by omega), beqf (show k ≠ 2 by omega), beqf (show k ≠ 3 by omega), beqf (show k ≠ 4 by omega), beqf (show k ≠ 5 by omega), beqf (show k ≠ 6 by omega), beqf (show k ≠ 7 by omega), beqf (show k ≠ 8 by omega), beqf (show k ≠ 9 by omega), beqf (show k ≠ 10 by omega), beqf (show k ≠ 11 by omega), beqf (show k ≠ 12 by omega), beqf (show k ≠ 13 by omega), beqf (show k ≠ 14 by omega), beqf (show k ≠ 15 by omega), beqf (show k ≠ 16 by omega), beqf (show k ≠ 17 by omega), beqf (show k ≠ 18 by omega), beqf (show k ≠ 19 by omega), beqf (show k ≠ 20 by omega), beqf (show k ≠ 21 by omega), beqf (show k ≠ 22 by omega), beqf (show k ≠ 23 by omega), beqf (show k ≠ 24 by omega), beqf (show k ≠ 25 by omega), beqf (show k ≠ 26 by omega), beqf (show k ≠ 27 by omega), beqf (show k ≠ 28 by omega), beqf (show k ≠ 29 by omega), beqf (show k ≠ 30 by omega), beqf (show k ≠ 31 by omega), beqf (show k ≠ 32 by omega), beqf (show k ≠ 33 by omega), beqf (show k ≠ 34 by omega), beqf (show k ≠ 35 by omega), beqf (show k ≠ 36 by omega), beqf (show k ≠ 37 by omega), beqf (show k ≠ 38 by omega), beqf (show k ≠ 39 by omega), beqf (show k ≠ 40 by omega), beqf (show k ≠ 41 by omega), beqf (show k ≠ 42 by omega), beqf (show k ≠ 43 by omega), beqf (show k ≠ 44 by omega), beqf (show k ≠ 45 by omega), beqf (show k ≠ 46 by omega), beqf (show k ≠ 47 by omega), beqf (show k ≠ 48 by omega), beqf (show k ≠ 49 by omega), beqf (show k ≠ 50 by omega), beqf (show k ≠ 51 by omega), beqf (show k ≠ 52 by omega), beqf (show k ≠ 53 by omega), beqf (show k ≠ 54 by omega), beqf (show k ≠ 55 by omega), beqf (show k ≠ 56 by omega), beqf (show k ≠ 57 by omega), beqf (show k ≠ 58 by omega)]
  rfl
theorem t_f0 (o k : Nat) (h : ¬ (o < 7 ∧ k < t_nf (t_cls o))) : t_flo (t_cls o) k = 0 ∧ t_fhi (t_cls o) k = 0 := by
  by_cases h7 : o < 7
  · rcases (show o = 0 ∨ o = 1 ∨ o = 2 ∨ o = 3 ∨ o = 4 ∨ o = 5 ∨ o = 6 by omega) with rfl | rfl | rfl | rfl | rfl | rfl | rfl
    · have hk : 13 ≤ k := by have : ¬ k < 13 := fun q => h ⟨h7, q⟩; omega
      exact ⟨t_flo1_0 hk, t_fhi1_0 hk⟩
    · have hk : 5 ≤ k := by have : ¬ k < 5 := fun q => h ⟨h7, q⟩; omega
      exact ⟨t_flo13_0 hk, t_fhi13_0 hk⟩
    · have hk : 2 ≤ k := by have : ¬ k < 2 := fun q => h ⟨h7, q⟩; omega
      exact ⟨t_flo15_0 hk, t_fhi15_0 hk⟩
    · have hk : 17 ≤ k := by have : ¬ k < 17 := fun q => h ⟨h7, q⟩; omega
      exact ⟨t_flo17_0 hk, t_fhi17_0 hk⟩
    · have hk : 12 ≤ k := by have : ¬ k < 12 := fun q => h ⟨h7, q⟩; omega
      exact ⟨t_flo16_0 hk, t_fhi16_0 hk⟩
    · have hk : 47 ≤ k := by have : ¬ k < 47 := fun q => h ⟨h7, q⟩; omega
      exact ⟨t_flo14_0 hk, t_fhi14_0 hk⟩
    · have hk : 59 ≤ k := by have : ¬ k < 59 := fun q => h ⟨h7, q⟩; omega
      exact ⟨t_flo18_0 hk, t_fhi18_0 hk⟩
  · have e : t_cls o = 0 := by
      unfold t_cls
      rw [beqf (show o ≠ 0 by omega), beqf (show o ≠ 1 by omega), beqf (show o ≠ 2 by omega), beqf (show o ≠ 3 by omega), beqf (show o ≠ 4 by omega), beqf (show o ≠ 5 by omega), beqf (show o ≠ 6 by omega)]
      rfl
    rw [e]
    exact ⟨rfl, rfl⟩
theorem RT_0 : RT (fun _ => 0) (fun _ => 0) (fun _ => 0) (fun _ => 0) := fun t h0 h1 => .inr ⟨by first | exact Int.le_refl (0 : Int) | exact (by decide : (0 : Int) ≤ 9) | exact (by decide : (0 : Int) ≤ 512) | exact (by decide : (0 : Int) ≤ 511), by first | exact Int.le_refl (0 : Int) | exact (by decide : (0 : Int) ≤ 9) | exact (by decide : (0 : Int) ≤ 512) | exact (by decide : (0 : Int) ≤ 511), fun k k0 k1 => ⟨by first | exact Int.le_refl (0 : Int) | exact (by decide : (0 : Int) ≤ 9) | exact (by decide : (0 : Int) ≤ 512) | exact (by decide : (0 : Int) ≤ 511), by have := lastOf_eq t; show (0 : Int) ≤ lastOf t; omega, by first | exact Int.le_refl (0 : Int) | exact (by decide : (0 : Int) ≤ 9) | exact (by decide : (0 : Int) ≤ 512) | exact (by decide : (0 : Int) ≤ 511), by first | exact Int.le_refl (0 : Int) | exact (by decide : (0 : Int) ≤ 9) | exact (by decide : (0 : Int) ≤ 512) | exact (by decide : (0 : Int) ≤ 511), by first | exact Int.le_refl (0 : Int) | exact (by decide : (0 : Int) ≤ 9) | exact (by decide : (0 : Int) ≤ 512) | exact (by decide : (0 : Int) ≤ 511), by first | exact Int.le_refl (0 : Int) | exact (by decide : (0 : Int) ≤ 9) | exact (by decide : (0 : Int) ≤ 512) | exact (by decide : (0 : Int) ≤ 511)⟩⟩
theorem ce_rin_24 : rat (mstat ++ ml_rin) (κ_rin.getD 24 0) = some (.inr (1, 16385, .int 0, [])) := (rat_mst (l := ml_rin) (i := 17)).trans rfl
theorem ce_rin_25 : rat (mstat ++ ml_rin) (κ_rin.getD 25 0) = some (.inr (1, 16385, .int 0, [])) := (rat_mst (l := ml_rin) (i := 18)).trans rfl
theorem ce_rin_26 : rat (mstat ++ ml_rin) (κ_rin.getD 26 0) = some (.inr (1, 65536, .int 0, [])) := (rat_mst (l := ml_rin) (i := 20)).trans rfl
theorem ce_rin_27 : rat (mstat ++ ml_rin) (κ_rin.getD 27 0) = some (.inr (1, 256, .int 0, [])) := (rat_mst (l := ml_rin) (i := 21)).trans rfl
theorem ce_rin_28 : rat (mstat ++ ml_rin) (κ_rin.getD 28 0) = some (.inr (1, 192, .int 0, [])) := (rat_mst (l := ml_rin) (i := 22)).trans rfl
theorem ce_rin_29 : rat (mstat ++ ml_rin) (κ_rin.getD 29 0) = some (.inr (1, 3, .int 0, [])) := (rat_mst (l := ml_rin) (i := 23)).trans rfl
theorem ce_rin_30 : rat (mstat ++ ml_rin) (κ_rin.getD 30 0) = some (.inr (2, 3, .long 0, [])) := (rat_mst (l := ml_rin) (i := 24)).trans rfl
theorem ce_rin_34 : rat (mstat ++ ml_rin) (κ_rin.getD 34 0) = some (.inr (1, 3, .int 0, [])) := (rat_mst (l := ml_rin) (i := 28)).trans rfl
theorem ce_rin_35 : rat (mstat ++ ml_rin) (κ_rin.getD 35 0) = some (.inr (1, 1536, .int 0, [])) := (rat_mst (l := ml_rin) (i := 29)).trans rfl
theorem ce_rin_36 : rat (mstat ++ ml_rin) (κ_rin.getD 36 0) = some (.inr (1, 1536, .int 0, [])) := (rat_mst (l := ml_rin) (i := 30)).trans rfl
theorem ce_rin_37 : rat (mstat ++ ml_rin) (κ_rin.getD 37 0) = some (.inr (1, 1536, .int 0, [])) := (rat_mst (l := ml_rin) (i := 31)).trans rfl
theorem ce_rin_48 : rat (mstat ++ ml_rin) (κ_rin.getD 48 0) = some (.inr (1, 65536, .int 0, [])) := (rat_mst (l := ml_rin) (i := 43)).trans rfl
theorem ce_rin_49 : rat (mstat ++ ml_rin) (κ_rin.getD 49 0) = some (.inr (1, 256, .int 0, [])) := (rat_mst (l := ml_rin) (i := 44)).trans rfl
theorem ce_rin_50 : rat (mstat ++ ml_rin) (κ_rin.getD 50 0) = some (.inr (1, 192, .int 0, [])) := (rat_mst (l := ml_rin) (i := 45)).trans rfl
theorem ce_rin_51 : rat (mstat ++ ml_rin) (κ_rin.getD 51 0) = some (.inr (1, 3, .int 0, [])) := (rat_mst (l := ml_rin) (i := 46)).trans rfl
theorem ce_rin_52 : rat (mstat ++ ml_rin) (κ_rin.getD 52 0) = some (.inr (1, 3, .int 0, [])) := (rat_mst (l := ml_rin) (i := 47)).trans rfl
theorem ce_rin_69 : rat (mstat ++ ml_rin) (κ_rin.getD 69 0) = some (.inr (1, 24000, .int 0, [])) := (rat_mst (l := ml_rin) (i := 64)).trans rfl
set_option maxRecDepth 100000 in
theorem RHI_ini {σ σₚ : rS} (h12 : 12 ≤ σ.length) (hI : mI mnu0 (mr0 σ.length) 12 (σ.length + 1) (σ ++ [.inl (1, fl_rin)]) (mstat ++ ml_rin) σₚ) : RHI DCE σₚ (hzD (mr0 σ.length) κ_rin) (hzN κ_rin (mstat ++ ml_rin)) (hzF κ_rin (mstat ++ ml_rin)) (hzA κ_rin (mstat ++ ml_rin)) := by
  have a24 : (hzA κ_rin (mstat ++ ml_rin)) 24 = fun _ => 0 := hzA_0 ce_rin_24 rfl
  have a25 : (hzA κ_rin (mstat ++ ml_rin)) 25 = fun _ => 0 := hzA_0 ce_rin_25 rfl
  have a26 : (hzA κ_rin (mstat ++ ml_rin)) 26 = fun _ => 0 := hzA_0 ce_rin_26 rfl
  have a27 : (hzA κ_rin (mstat ++ ml_rin)) 27 = fun _ => 0 := hzA_0 ce_rin_27 rfl
  have a28 : (hzA κ_rin (mstat ++ ml_rin)) 28 = fun _ => 0 := hzA_0 ce_rin_28 rfl
  have a29 : (hzA κ_rin (mstat ++ ml_rin)) 29 = fun _ => 0 := hzA_0 ce_rin_29 rfl
  have a30 : (hzA κ_rin (mstat ++ ml_rin)) 30 = fun _ => 0 := hzA_0 ce_rin_30 rfl
  have a34 : (hzA κ_rin (mstat ++ ml_rin)) 34 = fun _ => 0 := hzA_0 ce_rin_34 rfl
  have a35 : (hzA κ_rin (mstat ++ ml_rin)) 35 = fun _ => 0 := hzA_0 ce_rin_35 rfl
  have a36 : (hzA κ_rin (mstat ++ ml_rin)) 36 = fun _ => 0 := hzA_0 ce_rin_36 rfl
  have a37 : (hzA κ_rin (mstat ++ ml_rin)) 37 = fun _ => 0 := hzA_0 ce_rin_37 rfl
  have a48 : (hzA κ_rin (mstat ++ ml_rin)) 48 = fun _ => 0 := hzA_0 ce_rin_48 rfl
  have a49 : (hzA κ_rin (mstat ++ ml_rin)) 49 = fun _ => 0 := hzA_0 ce_rin_49 rfl
  have a50 : (hzA κ_rin (mstat ++ ml_rin)) 50 = fun _ => 0 := hzA_0 ce_rin_50 rfl
  have a51 : (hzA κ_rin (mstat ++ ml_rin)) 51 = fun _ => 0 := hzA_0 ce_rin_51 rfl
  have a52 : (hzA κ_rin (mstat ++ ml_rin)) 52 = fun _ => 0 := hzA_0 ce_rin_52 rfl
  have a69 : (hzA κ_rin (mstat ++ ml_rin)) 69 = fun _ => 0 := hzA_0 ce_rin_69 rfl
  have f4_5 : (hzF κ_rin (mstat ++ ml_rin)) 4 5 = 0 := rfl
  have f5_2 : (hzF κ_rin (mstat ++ ml_rin)) 5 2 = 0 := rfl
  have f5_3 : (hzF κ_rin (mstat ++ ml_rin)) 5 3 = 0 := rfl
  have f5_4 : (hzF κ_rin (mstat ++ ml_rin)) 5 4 = 0 := rfl
  have f6_4 : (hzF κ_rin (mstat ++ ml_rin)) 6 4 = 0 := rfl
  have f6_5 : (hzF κ_rin (mstat ++ ml_rin)) 6 5 = 0 := rfl
  have f6_6 : (hzF κ_rin (mstat ++ ml_rin)) 6 6 = 0 := rfl
  have f6_35 : (hzF κ_rin (mstat ++ ml_rin)) 6 35 = 0 := rfl
  exact ⟨mHS (mr0_F h12) hI hz_rin t_z t_f0, (show RT (((hzA κ_rin (mstat ++ ml_rin)) 35)) (((hzA κ_rin (mstat ++ ml_rin)) 36)) (((hzA κ_rin (mstat ++ ml_rin)) 37)) (((hzA κ_rin (mstat ++ ml_rin)) 34)) by rw [a34, a35, a36, a37]; exact RT_0), (show DI (((hzF κ_rin (mstat ++ ml_rin)) 5 4)) (((hzA κ_rin (mstat ++ ml_rin)) 27)) (((hzA κ_rin (mstat ++ ml_rin)) 28)) (((hzA κ_rin (mstat ++ ml_rin)) 29)) (((hzA κ_rin (mstat ++ ml_rin)) 30)) by rw [f5_4, a27, a28, a29, a30]; exact fun q => absurd q (by decide)), (show DW (((hzF κ_rin (mstat ++ ml_rin)) 6 6)) (((hzA κ_rin (mstat ++ ml_rin)) 49)) (((hzA κ_rin (mstat ++ ml_rin)) 50)) (((hzA κ_rin (mstat ++ ml_rin)) 51)) by rw [f6_6, a49, a50, a51]; exact fun q => absurd q (by decide)), (show SE (((hzA κ_rin (mstat ++ ml_rin)) 12)) by unfold SE; decide +kernel), (show andI ((((hzA κ_rin (mstat ++ ml_rin)) 12)) 3) 2 = 0 by decide +kernel), (show ((hzF κ_rin (mstat ++ ml_rin)) 6 4) = ((hzF κ_rin (mstat ++ ml_rin)) 5 2) by rw [f5_2, f6_4]), (show KQ bN (((hzA κ_rin (mstat ++ ml_rin)) 24)) (((hzF κ_rin (mstat ++ ml_rin)) 4 5)) by rw [f4_5, a24]; exact ⟨rfl, fun l h1 h2 => absurd h2 (by omega)⟩), (show KQ bF (((hzA κ_rin (mstat ++ ml_rin)) 25)) (((hzF κ_rin (mstat ++ ml_rin)) 4 5)) by rw [f4_5, a25]; exact ⟨rfl, fun l h1 h2 => absurd h2 (by omega)⟩), (show RDI DCE (((hzF κ_rin (mstat ++ ml_rin)) 5 4)) (((hzF κ_rin (mstat ++ ml_rin)) 5 3)) (((hzA κ_rin (mstat ++ ml_rin)) 26)) (((hzF κ_rin (mstat ++ ml_rin)) 5 2)) (((hzA κ_rin (mstat ++ ml_rin)) 27)) (((hzA κ_rin (mstat ++ ml_rin)) 28)) (((hzA κ_rin (mstat ++ ml_rin)) 29)) (((hzA κ_rin (mstat ++ ml_rin)) 30)) by rw [f5_2, f5_3, f5_4, a26, a27, a28, a29, a30]; exact RDI_E rfl rfl rfl), DCo_E, DCl_E, (show WEQ (((hzF κ_rin (mstat ++ ml_rin)) 6 6)) (((hzF κ_rin (mstat ++ ml_rin)) 6 5)) (((hzF κ_rin (mstat ++ ml_rin)) 6 4)) (((hzA κ_rin (mstat ++ ml_rin)) 48)) (((hzA κ_rin (mstat ++ ml_rin)) 49)) (((hzA κ_rin (mstat ++ ml_rin)) 50)) (((hzA κ_rin (mstat ++ ml_rin)) 51)) (((hzA κ_rin (mstat ++ ml_rin)) 52)) (((hzF κ_rin (mstat ++ ml_rin)) 5 4)) (((hzF κ_rin (mstat ++ ml_rin)) 5 3)) (((hzF κ_rin (mstat ++ ml_rin)) 5 2)) (((hzA κ_rin (mstat ++ ml_rin)) 26)) (((hzA κ_rin (mstat ++ ml_rin)) 27)) (((hzA κ_rin (mstat ++ ml_rin)) 28)) (((hzA κ_rin (mstat ++ ml_rin)) 29)) (((hzA κ_rin (mstat ++ ml_rin)) 30)) by rw [f5_2, f5_3, f5_4, f6_4, f6_5, f6_6, a26, a27, a28, a29, a30, a48, a49, a50, a51, a52]; exact ⟨rfl, rfl, rfl, fun _ _ _ => rfl, fun _ _ _ => rfl, fun _ _ _ => rfl, fun _ _ _ => rfl, fun _ _ _ => (w32_id (x := 0) (by decide)).symm⟩), (show MDX (((hzA κ_rin (mstat ++ ml_rin)) 69)) (((hzF κ_rin (mstat ++ ml_rin)) 6 35)) by rw [f6_35, a69]; exact ⟨[], MDB_new (fun _ _ _ => rfl)⟩)⟩


end
section
/-! Y7.start -/
theorem PCg_nn {g : Nat → Bool} {N : Nat → Nat} : 0 ≤ PCg g N ∧ 0 ≤ PSg g N := by
  have k : ∀ (b : Bool) (n : Int), 0 ≤ n → 0 ≤ kadd b n := fun b n h => by cases b <;> first | exact h | exact Int.le_refl _
  have z : ∀ n, vs (fun _ => 0) n = 0 := fun n => by induction n with | zero => rfl | succ n ih => show vs (fun _ => 0) n + 0 = 0; omega
  have a := vs_le (f := fun _ => 0) (h := fun x => pC (N x)) (n := VPH.length) (fun x _ => pC_nn _)
  have b := vs_le (f := fun _ => 0) (h := fun x => pS (N x)) (n := VPH.length) (fun x _ => pS_nn _)
  rw [z] at a b
  unfold PCg PSg KC KS
  have := k (g 1) 8 (by decide); have := k (g 2) 3 (by decide); have := k (g 3) 3 (by decide); have := k (g 4) 28 (by decide); have := k (g 5) 125 (by decide); have := k (g 6) 59 (by decide); have := k (g 7) 51 (by decide); have := k (g 8) 51 (by decide)
  have := k (g 1) 24 (by decide); have := k (g 2) 18 (by decide); have := k (g 3) 14 (by decide); have := k (g 4) 1112 (by decide); have := k (g 5) 18162 (by decide); have := k (g 6) 8932 (by decide); have := k (g 7) 8890 (by decide); have := k (g 8) 8890 (by decide)
  constructor <;> omega
theorem sc_z {f : Int → Int} {b : Int} (h : b = 0) : sc f 0 b = [] := sc_nil (Int.le_of_eq h)
theorem rwC_nil {F : hF} {A : hA} {q : Int} (h1 : F 2 1 = 0) (h2 : F 4 1 = 0) (h3 : F 6 1 = 0) (h4 : F 8 1 = 0) : rwC F A q = [] := by
  have e1 := sc_z (f := A 3) h1
  have e2 := sc_z (f := A 5) h2
  have e3 := sc_z (f := A 7) h3
  have e4 := sc_z (f := A 9) h4
  unfold rwC rw4
  rw [e1, e2, e3, e4]
  show (if q = 0 then ([] : List Int) else if q = 1 then [] else if q = 2 then [] else []) = []
  by_cases c0 : q = 0
  · rw [if_pos c0]
  · rw [if_neg c0]
    by_cases c1 : q = 1
    · rw [if_pos c1]
    · rw [if_neg c1]
      by_cases c2 : q = 2
      · rw [if_pos c2]
      · rw [if_neg c2]
theorem rwR_nil {ro si : Int → Int} {r : Int} (h : si r = 0) : rwR ro si r = [] := sc_z h
theorem paC_nil {F : hF} {A : hA} (h : F 11 1 = 0) : paC F A = [] := sc_z h
theorem ce_rin_11 : rat (mstat ++ ml_rin) (κ_rin.getD 11 0) = some (.inr (1, 4, .int 0, [])) := (rat_mst (l := ml_rin) (i := 2)).trans rfl
set_option maxRecDepth 100000 in
theorem REL_ini {ρ : Nat → Nat} : REL (glu ι_ini (fun _ _ => 0) (mFd mnu0 ρ κ_ini (mstat ++ ml_ini))) (glu ι_ini (fun _ _ => 0) (mA mnu0 ρ κ_ini (mstat ++ ml_ini))) (hzF κ_rin (mstat ++ ml_rin)) (hzA κ_rin (mstat ++ ml_rin)) := by
  have f2_1 : (glu ι_ini (fun _ _ => 0) (mFd mnu0 ρ κ_ini (mstat ++ ml_ini))) 2 1 = 0 := (show (mFd mnu0 ρ κ_ini (mstat ++ ml_ini)) 2 1 = 0 from (mFd_at (k := 1) ce_ini_2).trans (show ((0 : Int32)).toInt = 0 by decide))
  have f4_1 : (glu ι_ini (fun _ _ => 0) (mFd mnu0 ρ κ_ini (mstat ++ ml_ini))) 4 1 = 0 := (show (mFd mnu0 ρ κ_ini (mstat ++ ml_ini)) 4 1 = 0 from (mFd_at (k := 1) ce_ini_4).trans (show ((0 : Int32)).toInt = 0 by decide))
  have f6_1 : (glu ι_ini (fun _ _ => 0) (mFd mnu0 ρ κ_ini (mstat ++ ml_ini))) 6 1 = 0 := (show (mFd mnu0 ρ κ_ini (mstat ++ ml_ini)) 6 1 = 0 from (mFd_at (k := 1) ce_ini_6).trans (show ((0 : Int32)).toInt = 0 by decide))
  have f8_1 : (glu ι_ini (fun _ _ => 0) (mFd mnu0 ρ κ_ini (mstat ++ ml_ini))) 8 1 = 0 := (show (mFd mnu0 ρ κ_ini (mstat ++ ml_ini)) 8 1 = 0 from (mFd_at (k := 1) ce_ini_8).trans (show ((0 : Int32)).toInt = 0 by decide))
  have f11_1 : (glu ι_ini (fun _ _ => 0) (mFd mnu0 ρ κ_ini (mstat ++ ml_ini))) 11 1 = 0 := (show (mFd mnu0 ρ κ_ini (mstat ++ ml_ini)) 11 1 = 0 from (mFd_at (k := 1) ce_ini_11).trans (show ((0 : Int32)).toInt = 0 by decide))
  have a11 : (hzA κ_rin (mstat ++ ml_rin)) 11 = fun _ => 0 := hzA_0 ce_rin_11 rfl
  have g3_2 : (hzF κ_rin (mstat ++ ml_rin)) 3 2 = 0 := rfl
  refine ⟨fun q h0 h1 => ?_, ?_, rfl, fun i h0 h1 => ?_, rfl, rfl, rfl, fun k h0 h1 => ?_⟩
  · have er : rwR ((hzA κ_rin (mstat ++ ml_rin)) 10) ((hzA κ_rin (mstat ++ ml_rin)) 11) q = [] := rwR_nil (congrFun a11 q)
    have ec : rwC (glu ι_ini (fun _ _ => 0) (mFd mnu0 ρ κ_ini (mstat ++ ml_ini))) (glu ι_ini (fun _ _ => 0) (mA mnu0 ρ κ_ini (mstat ++ ml_ini))) q = [] := rwC_nil f2_1 f4_1 f6_1 f8_1
    exact ec.trans er.symm
  · have er : sc ((hzA κ_rin (mstat ++ ml_rin)) 16) 0 ((hzF κ_rin (mstat ++ ml_rin)) 3 2) = [] := sc_z g3_2
    have ec : paC (glu ι_ini (fun _ _ => 0) (mFd mnu0 ρ κ_ini (mstat ++ ml_ini))) (glu ι_ini (fun _ _ => 0) (mA mnu0 ρ κ_ini (mstat ++ ml_ini))) = [] := paC_nil f11_1
    exact ec.trans er.symm
  · rcases (show i = 0 ∨ i = 1 ∨ i = 2 ∨ i = 3 ∨ i = 4 ∨ i = 5 ∨ i = 6 ∨ i = 7 ∨ i = 8 ∨ i = 9 ∨ i = 10 ∨ i = 11 by omega) with rfl | rfl | rfl | rfl | rfl | rfl | rfl | rfl | rfl | rfl | rfl | rfl <;> rfl
  · rcases (show k = 0 ∨ k = 1 ∨ k = 2 ∨ k = 3 ∨ k = 4 ∨ k = 5 ∨ k = 6 ∨ k = 7 ∨ k = 8 ∨ k = 9 by omega) with rfl | rfl | rfl | rfl | rfl | rfl | rfl | rfl | rfl | rfl <;> rfl
set_option maxRecDepth 100000 in
theorem law_start {d L : Nat} {xs : Nat → Int} {σ : rS} {Q : wQ} (HT : STC σ) (hc : SCR σ L xs) (h12 : σ.length = 12) (hx : ∀ j, inr (xs j)) (hL : L ≤ 3072) (hQ : ∀ (Dc : DcS) (g : Nat → Bool) (σ : rS) (D N : Nat → Nat) (F : hF) (A : hA) (c s : Nat), PHI Dc g σ D N F A → (c : Int) ≤ (119 : Nat) + PCg g N → (s : Int) ≤ (1481247 : Nat) + PSg g N → Q (some (I 1)) σ c s) : Ew 455 (d + 14) 0 (rargs 0 [.ref 11]) [] σ 0 0 Q := by
  refine w_new rfl ?_
  show Ew 455 (d + 14) 3 _ [.ref σ.length] (σ ++ [.inl (0, fl_ini)]) _ _ Q
  refine Ew_of (pcₚ := 4) (fun _ => x_dup rfl rfl) ?_
  refine w_callk rfl (fun rec => rinvs rfl rfl rat_ae rec) rfl (mk_newR (e := d + 10) (d := 3) ev_ini HT rfl (by omega) (fun σ1 hI1 => ⟨rfl, ?_⟩))
  have X1 := PHI_ini (by omega) hI1
  have e1 : σ1.length = σ.length + 1 + ((mstat ++ ml_ini).length - 12) := hI1.2.2.2.1
  have e2 : (mstat ++ ml_ini).length = 44 := by rw [List.length_append, mstat_len]; rfl
  have hc1 : SCR σ1 L xs := by obtain ⟨dv, ov, q1, q2⟩ := hc; exact ⟨dv, ov, by rw [mk_stay hI1 (by omega) (by omega)]; exact q1, q2⟩
  refine Ew_of (pcₚ := 8) (fun _ => x_astore_n rfl) ?_
  refine w_new rfl ?_
  show Ew 455 (d + 14) 11 _ [.ref σ1.length] (σ1 ++ [.inl (1, fl_rin)]) _ _ Q
  refine Ew_of (pcₚ := 12) (fun _ => x_dup rfl rfl) ?_
  refine w_callk rfl (fun rec => rinvs rfl rfl rat_ae rec) rfl (mk_newR (e := d + 11) (d := 2) ev_rin X1.2.1 rfl (by omega) (fun σ2 hI2 => ⟨rfl, ?_⟩))
  have Y2 := RHI_ini (by omega) hI2
  have X2 := PHI_keep X1 (mk_ST (mr0_F (by omega)) hI2) (fun x hx hp => mk_stay hI2 (by have := X1.1.lo x hx hp; omega) (X1.1.lt hx hp))
  have hc2 : SCR σ2 L xs := by obtain ⟨dv, ov, q1, q2⟩ := hc1; exact ⟨dv, ov, by rw [mk_stay hI2 (by omega) (by omega)]; exact q1, q2⟩
  have hs := (fun x hx hp o ho e => by have a := X1.1.lt hx hp; have b := hzD_ge (a := σ1.length) (κ := κ_rin) (by decide +kernel) ho; rw [← e] at b; omega : SEP g0 (glu ι_ini (fun _ => 0) (fun x => mr0 σ.length (κ_ini.getD x 0))) (hzD (mr0 σ1.length) κ_rin))
  refine Ew_of (pcₚ := 16) (fun _ => x_astore_n rfl) ?_
  refine Ew_of (pcₚ := 17) (fun _ => x_iconst rfl) ?_
  refine Ew_of (pcₚ := 18) (fun _ => x_istore_n rfl) ?_
  have nn := PCg_nn (g := g0) (N := (glu ι_ini (fun _ => 0) (mN κ_ini (mstat ++ ml_ini))))
  refine law_loop (CB := 119) (SB := 1481247) hx hL hQ (L + 1) X2 Y2 hs hc2 REL_ini (i := 0) ⟨by decide, by decide⟩ (by omega) (rk_o (rk_o (rk_o rfl rfl rfl) rfl rfl) rfl rfl) (rk_o (rk_o rk_s rfl rfl) rfl rfl) (rk_o rk_s rfl rfl) rk_s ?_ ?_
  · omega
  · omega


end
section
/-! Y8.ok -/
noncomputable def scrW (L : Nat) (xs : Nat → Int32) : rO := (List.range L).map (fun j => (j, .int (xs j)))
noncomputable def statW (L : Nat) (xs : Nat → Int32) : rS := mstat ++ [.inr (1, L, .int 0, scrW L xs)]
theorem scrW_lk (xs : Nat → Int32) : ∀ (l : List Nat) (j : Nat), rlk (l.map (fun j => (j, Value.int (xs j)))) (.int 0) j = if j ∈ l then .int (xs j) else .int 0
  | [], j => by
    rw [if_neg (by simp)]
    rfl
  | a :: l, j => by
    show @Bool.rec (fun _ => Value) (rlk (l.map (fun j => (j, Value.int (xs j)))) (.int 0) j) (.int (xs a)) (Nat.beq a j) = _
    by_cases h : a = j
    · subst h
      rw [Nat.beq_refl, if_pos (by simp)]
    · rw [beqf h]
      show rlk (l.map (fun j => (j, Value.int (xs j)))) (.int 0) j = _
      rw [scrW_lk xs l j]
      by_cases q : j ∈ l
      · rw [if_pos q, if_pos (by simp [q])]
      · rw [if_neg q, if_neg (by simp; exact ⟨fun e => h e.symm, q⟩)]
theorem statW_len {L : Nat} {xs : Nat → Int32} : (statW L xs).length = 12 := by
  unfold statW
  rw [List.length_append, mstat_len]
  rfl
theorem statW_T {L : Nat} {xs : Nat → Int32} : STC (statW L xs) := fun b hb => by
  refine ⟨.int 0, mov 0 (stl b), ?_, fun j => ?_⟩
  · unfold statW
    rw [rat_ap (by rw [mstat_len]; exact hb)]
    exact mstat_at hb
  · have e := mov_lk (stl b) 0 j
    rw [Nat.zero_add] at e
    exact e
theorem statW_S {L : Nat} {xs : Nat → Int32} : SCR (statW L xs) L (fun j => if j < L then (xs j).toInt else 0) := by
  refine ⟨.int 0, scrW L xs, ?_, fun j => ?_⟩
  · unfold statW
    have := rat_ae (σ := mstat) (q := .inr (1, L, .int 0, scrW L xs))
    rw [mstat_len] at this
    exact this
  · unfold scrW
    rw [scrW_lk]
    show _ = I (if j < L then (xs j).toInt else 0)
    by_cases h : j < L
    · rw [if_pos (List.mem_range.mpr h), if_pos h]
      exact congrArg Value.int (toI_of _).symm
    · rw [if_neg (fun q => h (List.mem_range.mp q)), if_neg h]
      rfl
theorem law_ok {L : Nat} (hL : L ≤ 3072) (xs : Nat → Int32) : ∃ σₚ cₚ sₚ, Ev PP 455 14 0 (rargs 0 [.ref 11]) [] (statW L xs) 0 0 (some (I 1), σₚ, 0, [], cₚ, sₚ) ∧ cₚ ≤ 600000 ∧ sₚ ≤ 7302250 := by
  have w := law_start (d := 0) (L := L) (xs := fun j => if j < L then (xs j).toInt else 0) (σ := statW L xs) (Q := fun v σ c s => v = some (I 1) ∧ c ≤ 600000 ∧ s ≤ 7302250) statW_T statW_S statW_len (fun j => by
    show inr (if j < L then (xs j).toInt else 0)
    split
    · exact toI_inr _
    · decide) hL (fun Dc g σ D N F A c s X h1 h2 => by
    have b := PB X
    exact ⟨rfl, by omega, by omega⟩)
  obtain ⟨v, σₚ, cₚ, sₚ, h, rfl, h1, h2⟩ := w
  exact ⟨σₚ, cₚ, sₚ, h, h1, h2⟩


end
