/-! references after a making call, decided at once -/
noncomputable def vrc (κ : List Nat) (m : rS) (kd p k : Nat) : Value := match rat m (κ.getD p 0) with
  | some (.inl q) => bif Nat.beq kd 0 then q.2.getD k (.int 0) else .int 0
  | some (.inr q) => bif Nat.beq kd 0 then .int 0 else rlk q.2.2.2 q.2.2.1 k
  | none => .int 0
theorem rval_glu {ν : mE} {ρ : Nat → Nat} {ι κ : List Nat} {m : rS} {F : hF} {A : hA} {e : Nat × Nat × Nat × Nat} {p : Nat} (h : fnd e.2.1 ι = some p) : rval (glu ι F (mFd ν ρ κ m)) (glu ι A (mA ν ρ κ m)) e = vz ν ρ (vrc κ m e.1 p e.2.2.1) := by
  unfold rval vrc
  rw [glu_s h, glu_s h]
  unfold mFd mA
  cases hk : Nat.beq e.1 0 with
  | true =>
    cases hr : rat m (κ.getD p 0) with
    | none => rfl
    | some q => cases q <;> rfl
  | false =>
    cases hr : rat m (κ.getD p 0) with
    | none => rfl
    | some q => cases q <;> rfl
def GIX : List (Nat × Nat) := [(2, 1), (3, 1), (5, 1), (5, 4), (6, 4)]
theorem GIX_of {g : Nat → Bool} (h : GI g) {a b : Nat} (hm : (a, b) ∈ GIX) (ha : g a = true) : g b = true := by
  obtain ⟨h1, h2, h3, h4, h5⟩ := h
  simp only [GIX, List.mem_cons, List.not_mem_nil, or_false, Prod.mk.injEq] at hm
  rcases hm with ⟨rfl, rfl⟩ | ⟨rfl, rfl⟩ | ⟨rfl, rfl⟩ | ⟨rfl, rfl⟩ | ⟨rfl, rfl⟩
  · exact h1 ha
  · exact h2 ha
  · exact h3 ha
  · exact h4 ha
  · exact h5 ha
noncomputable def eok (x0 : Nat) (ι κ mk : List Nat) (m : rS) (e : Nat × Nat × Nat × Nat) : Bool := match fnd e.2.1 ι with
  | some p => match vrc κ m e.1 p e.2.2.1 with
    | .ref a => bif Nat.blt a 1000 then (match fnd e.2.2.2 ι with | some q => Nat.beq (κ.getD q 0) a | none => false) else ((fnd e.2.2.2 ι).isNone && PFT.any (fun r => decide (r = (0, x0, a - 1000, e.2.2.2))))
    | .retAddr kk => (fnd e.2.2.2 ι).isNone && PFT.any (fun r => decide (r = (0, x0, kk, e.2.2.2)))
    | _ => false
  | none => match fnd e.2.2.2 ι with
    | some q => Nat.beq q 0 || (mk.any (fun j => Nat.beq j (GPH.getD e.2.2.2 0)) && GIX.any (fun r => decide (r = (GPH.getD e.2.1 0, GPH.getD e.2.2.2 0))))
    | none => true
theorem PFI_mk {g : Nat → Bool} {D : Nat → Nat} {F : hF} {A : hA} {ι κ mk : List Nat} {m : rS} {x0 L : Nat} (h : PFI g D F A) (hGI : GI g) (hm : mkin ι mk = true) (hmk : ∀ j ∈ mk, g j = false) (h0 : ι.getD 0 0 = x0) (hx0 : SPH g x0 = true) (hk0 : κ.getD 0 0 = 11) (hall : PFT.all (eok x0 ι κ mk m) = true) :
    PFI (gset g mk) (glu ι D (fun x => mrho (D x0) L (F x0) (κ.getD x 0))) (glu ι F (mFd (mnu (F x0)) (mrho (D x0) L (F x0)) κ m)) (glu ι A (mA (mnu (F x0)) (mrho (D x0) L (F x0)) κ m)) := fun e he h1 h2 => by
  have l := PFT_lt e he
  have w := List.all_eq_true.mp hall e he
  unfold eok at w
  have sc : fnd e.2.2.2 ι = none → SPH g e.2.2.2 = true := fun q => by
    rcases mkin_of hm l.2 h2 with u | u
    · exact u
    · rw [q] at u; cases u
  have old : ∀ kk, fnd e.2.2.2 ι = none → PFT.any (fun r => decide (r = (0, x0, kk, e.2.2.2))) = true → F x0 kk = (D e.2.2.2 : Int) := fun kk q u => by
    obtain ⟨r, r1, r2⟩ := List.any_eq_true.mp u
    have r2 := of_decide_eq_true r2
    subst r2
    exact h _ r1 hx0 (sc q)
  cases hf : fnd e.2.1 ι with
  | some p =>
    rw [hf] at w
    rw [rval_glu hf]
    have w : (match vrc κ m e.1 p e.2.2.1 with
      | .ref a => bif Nat.blt a 1000 then (match fnd e.2.2.2 ι with | some q => Nat.beq (κ.getD q 0) a | none => false) else ((fnd e.2.2.2 ι).isNone && PFT.any (fun r => decide (r = (0, x0, a - 1000, e.2.2.2))))
      | .retAddr kk => (fnd e.2.2.2 ι).isNone && PFT.any (fun r => decide (r = (0, x0, kk, e.2.2.2)))
      | _ => false) = true := w
    cases hv : vrc κ m e.1 p e.2.2.1 with
    | ref a =>
      rw [hv] at w
      have w : (bif Nat.blt a 1000 then (match fnd e.2.2.2 ι with | some q => Nat.beq (κ.getD q 0) a | none => false) else ((fnd e.2.2.2 ι).isNone && PFT.any (fun r => decide (r = (0, x0, a - 1000, e.2.2.2))))) = true := w
      show ((mrho (D x0) L (F x0) a : Nat) : Int) = _
      cases ha : Nat.blt a 1000 with
      | true =>
        rw [ha] at w
        have w : (match fnd e.2.2.2 ι with | some q => Nat.beq (κ.getD q 0) a | none => false) = true := w
        cases hc : fnd e.2.2.2 ι with
        | none => rw [hc] at w; cases w
        | some q =>
          rw [hc] at w
          rw [glu_s hc, Nat.eq_of_beq_eq_true (show Nat.beq (κ.getD q 0) a = true from w)]
      | false =>
        rw [ha] at w
        have w : ((fnd e.2.2.2 ι).isNone && PFT.any (fun r => decide (r = (0, x0, a - 1000, e.2.2.2)))) = true := w
        rw [Bool.and_eq_true] at w
        have hc : fnd e.2.2.2 ι = none := by
          cases q : fnd e.2.2.2 ι with
          | none => rfl
          | some y => rw [q] at w; cases w.1
        have o := old _ hc w.2
        rw [glu_n hc]
        have hn : ¬ a < 1000 := fun q => by rw [show Nat.blt a 1000 = true from Nat.ble_eq.mpr q] at ha; cases ha
        unfold mrho
        have key : ∀ z : Nat, ¬ z < 1000 → ¬ z < 11 ∧ z ≠ 11 := fun z q => by omega
        obtain ⟨q1, q2⟩ := key a hn
        rw [blt_f q1, beqf q2, ha]
        show (((F x0 (a - 1000)).toNat : Nat) : Int) = _
        omega
    | retAddr kk =>
      rw [hv] at w
      have w : ((fnd e.2.2.2 ι).isNone && PFT.any (fun r => decide (r = (0, x0, kk, e.2.2.2)))) = true := w
      rw [Bool.and_eq_true] at w
      have hc : fnd e.2.2.2 ι = none := by
        cases q : fnd e.2.2.2 ι with
        | none => rfl
        | some y => rw [q] at w; cases w.1
      have o := old _ hc w.2
      rw [glu_n hc, vz_u (by omega)]
      exact o
    | _ => rw [hv] at w; cases w
  | none =>
    have sp : SPH g e.2.1 = true := by
      rcases mkin_of hm l.1 h1 with u | u
      · exact u
      · rw [hf] at u; cases u
    rw [hf] at w
    have w : (match fnd e.2.2.2 ι with
      | some q => Nat.beq q 0 || (mk.any (fun j => Nat.beq j (GPH.getD e.2.2.2 0)) && GIX.any (fun r => decide (r = (GPH.getD e.2.1 0, GPH.getD e.2.2.2 0))))
      | none => true) = true := w
    cases hc : fnd e.2.2.2 ι with
    | none =>
      have v := h e he sp (sc hc)
      unfold rval at v ⊢
      rw [glu_n hf, glu_n hf, glu_n hc]
      exact v
    | some q =>
      rw [hc] at w
      have w : (Nat.beq q 0 || (mk.any (fun j => Nat.beq j (GPH.getD e.2.2.2 0)) && GIX.any (fun r => decide (r = (GPH.getD e.2.1 0, GPH.getD e.2.2.2 0))))) = true := w
      rw [Bool.or_eq_true, Bool.and_eq_true] at w
      rcases w with w | w
      · have w := Nat.eq_of_beq_eq_true w
        subst w
        have u := (fnd_lt hc).2
        rw [h0] at u
        have v := h e he sp (by rw [← u]; exact hx0)
        rw [glu_s hc]
        show _ = ((mrho (D x0) L (F x0) (κ.getD 0 0) : Nat) : Int)
        rw [hk0, mrho_11]
        unfold rval at v ⊢
        rw [glu_n hf, glu_n hf, u]
        exact v
      · exfalso
        obtain ⟨r, r1, r2⟩ := List.any_eq_true.mp w.2
        have r2 := of_decide_eq_true r2
        subst r2
        have u := GIX_of hGI r1 sp
        obtain ⟨j, j1, j2⟩ := List.any_eq_true.mp w.1
        have j2 := Nat.eq_of_beq_eq_true j2
        rw [← j2, hmk j j1] at u
        cases u
theorem ABS_mk {g : Nat → Bool} {D : Nat → Nat} {F : hF} {ι κ mk hv : List Nat} {m : rS} {x0 L : Nat} (h : ABS g F) (hhv : ∀ j ∈ hv, g j = true) (h0 : ι.getD 0 0 = x0) (hall : ABT.all (fun e => mk.any (fun j => Nat.beq j e.1) || (hv.any (fun j => Nat.beq j e.1) || (match fnd e.2.1 ι with
    | none => true
    | some p => Nat.beq p 0 && (match vrc κ m 0 p e.2.2 with | .retAddr k => Nat.beq k e.2.2 | _ => false)))) = true) : ABS (gset g mk) (glu ι F (mFd (mnu (F x0)) (mrho (D x0) L (F x0)) κ m)) := fun e he hb => by
  have w := List.all_eq_true.mp hall e he
  rw [Bool.or_eq_true, Bool.or_eq_true] at w
  have v := h e he (gset_f hb)
  rcases w with w | w | w
  · rw [gset_m w] at hb; cases hb
  · obtain ⟨j, j1, j2⟩ := List.any_eq_true.mp w
    have j2 := Nat.eq_of_beq_eq_true j2
    have := hhv j j1
    rw [j2, gset_f hb] at this
    cases this
  · cases hf : fnd e.2.1 ι with
    | none => rw [glu_n hf]; exact v
    | some p =>
      rw [hf] at w
      have w : (Nat.beq p 0 && (match vrc κ m 0 p e.2.2 with | .retAddr k => Nat.beq k e.2.2 | _ => false)) = true := w
      rw [Bool.and_eq_true] at w
      have w1 := Nat.eq_of_beq_eq_true w.1
      subst w1
      have u := (fnd_lt hf).2
      rw [h0] at u
      have r := rval_glu (ν := mnu (F x0)) (ρ := mrho (D x0) L (F x0)) (κ := κ) (m := m) (F := F) (A := fun _ _ => 0) (e := (0, e.2.1, e.2.2, 0)) hf
      have r : glu ι F (mFd (mnu (F x0)) (mrho (D x0) L (F x0)) κ m) e.2.1 e.2.2 = vz (mnu (F x0)) (mrho (D x0) L (F x0)) (vrc κ m 0 0 e.2.2) := r
      rw [r]
      have w2 := w.2
      cases hq : vrc κ m 0 0 e.2.2 with
      | retAddr k =>
        rw [hq] at w2
        have w2 := Nat.eq_of_beq_eq_true (show Nat.beq k e.2.2 = true from w2)
        subst w2
        rw [u]  at *
        rw [vz_u (by omega)]
        exact v
      | _ => rw [hq] at w2; cases w2
