/-! WHAT A RUN SAYS OF THE MACHINE. ν: what the names stand for; ρ: where the cells lie (the first SB of them lay there before, the others from B on); HB: the heap before. -/
theorem rbin_ok {o : Nat} {x y : Value} {k : Nat} {c : Value → Nat → Option rR} {r : rR} (h : rbin o x y k c = some r) :
    risI x = true ∧ risI y = true ∧ ∃ (z : Value) (k' : Nat) (r' : rR), c z k' = some r' ∧ r'.2 = r.2 ∧ risI z = true ∧ ∀ ν, rholds ν r.1 → rholds ν r'.1 ∧ ri ν z = rop o (ri ν x) (ri ν y) := by
  have key : rbinS o x y k c = some r → risI x = true ∧ risI y = true ∧ ∃ (z : Value) (k' : Nat) (r' : rR), c z k' = some r' ∧ r'.2 = r.2 ∧ risI z = true ∧ ∀ ν, rholds ν r.1 → rholds ν r'.1 ∧ ri ν z = rop o (ri ν x) (ri ν y) := by
    intro h
    unfold rbinS at h
    split at h
    · next hb =>
      rw [Bool.and_eq_true] at hb
      unfold remit at h
      split at h
      · next z hz =>
        cases h
        refine ⟨hb.1, hb.2, _, _, z, hz, rfl, rfl, fun ν hh => ?_⟩
        have h2 := rholds_cons hh
        exact ⟨h2.2, h2.1⟩
      · cases h
    · cases h
  unfold rbin at h
  split at h
  · next a =>
    split at h
    · next b =>
      rw [rci_eq] at h
      exact ⟨rfl, rfl, _, _, r, h, rfl, rfl, fun ν hh => ⟨hh, rfl⟩⟩
    · exact key h
  · exact key h
theorem rdiv_ok {o : Nat} {x y : Value} {k : Nat} {c : Value → Nat → Option rR} {r : rR} (h : rdiv o x y k c = some r) :
    ∃ b : Int32, y = .int b ∧ ¬ b = 0 ∧ rbin o x (.int b) k c = some r := by
  unfold rdiv at h
  split at h
  · next b =>
    split at h
    · cases h
    · next hb => exact ⟨b, rfl, of_decide_eq_false hb, h⟩
  · cases h
theorem runi_ok {o : Nat} {x : Value} {k : Nat} {c : Value → Nat → Option rR} {r : rR} (h : runi o x k c = some r) :
    risI x = true ∧ ∃ (z : Value) (k' : Nat) (r' : rR), c z k' = some r' ∧ r'.2 = r.2 ∧ risI z = true ∧ ∀ ν, rholds ν r.1 → rholds ν r'.1 ∧ ri ν z = ruop o (ri ν x) := by
  unfold runi at h
  split at h
  · next a =>
    rw [rci_eq] at h
    exact ⟨rfl, _, _, r, h, rfl, rfl, fun ν hh => ⟨hh, rfl⟩⟩
  · unfold runiS at h
    split at h
    · next hb =>
      unfold remit at h
      split at h
      · next z hz =>
        cases h
        refine ⟨hb, _, _, z, hz, rfl, rfl, fun ν hh => ?_⟩
        have h2 := rholds_cons hh
        exact ⟨h2.2, h2.1⟩
      · cases h
    · cases h
theorem rlbin_ok {o : Nat} {x y : Value} {k : Nat} {c : Value → Nat → Option rR} {r : rR} (h : rlbin o x y k c = some r) :
    risL x = true ∧ risL y = true ∧ ∃ (z : Value) (k' : Nat) (r' : rR), c z k' = some r' ∧ r'.2 = r.2 ∧ risL z = true ∧ ∀ ν, rholds ν r.1 → rholds ν r'.1 ∧ rl ν z = rlop o (rl ν x) (rl ν y) := by
  have key : rlbinS o x y k c = some r → risL x = true ∧ risL y = true ∧ ∃ (z : Value) (k' : Nat) (r' : rR), c z k' = some r' ∧ r'.2 = r.2 ∧ risL z = true ∧ ∀ ν, rholds ν r.1 → rholds ν r'.1 ∧ rl ν z = rlop o (rl ν x) (rl ν y) := by
    intro h
    unfold rlbinS at h
    split at h
    · next hb =>
      rw [Bool.and_eq_true] at hb
      unfold remit at h
      split at h
      · next z hz =>
        cases h
        refine ⟨hb.1, hb.2, _, _, z, hz, rfl, rfl, fun ν hh => ?_⟩
        have h2 := rholds_cons hh
        exact ⟨h2.2, h2.1⟩
      · cases h
    · cases h
  unfold rlbin at h
  split at h
  · next a =>
    split at h
    · next b =>
      rw [rcl_eq] at h
      exact ⟨rfl, rfl, _, _, r, h, rfl, rfl, fun ν hh => ⟨hh, rfl⟩⟩
    · exact key h
  · exact key h
theorem rlsh_ok {o : Nat} {x y : Value} {k : Nat} {c : Value → Nat → Option rR} {r : rR} (h : rlsh o x y k c = some r) :
    risL x = true ∧ risI y = true ∧ ∃ (z : Value) (k' : Nat) (r' : rR), c z k' = some r' ∧ r'.2 = r.2 ∧ risL z = true ∧ ∀ ν, rholds ν r.1 → rholds ν r'.1 ∧ rl ν z = rsop o (rl ν x) (ri ν y) := by
  have key : rlshS o x y k c = some r → risL x = true ∧ risI y = true ∧ ∃ (z : Value) (k' : Nat) (r' : rR), c z k' = some r' ∧ r'.2 = r.2 ∧ risL z = true ∧ ∀ ν, rholds ν r.1 → rholds ν r'.1 ∧ rl ν z = rsop o (rl ν x) (ri ν y) := by
    intro h
    unfold rlshS at h
    split at h
    · next hb =>
      rw [Bool.and_eq_true] at hb
      unfold remit at h
      split at h
      · next z hz =>
        cases h
        refine ⟨hb.1, hb.2, _, _, z, hz, rfl, rfl, fun ν hh => ?_⟩
        have h2 := rholds_cons hh
        exact ⟨h2.2, h2.1⟩
      · cases h
    · cases h
  unfold rlsh at h
  split at h
  · next a =>
    split at h
    · next b =>
      rw [rcl_eq] at h
      exact ⟨rfl, rfl, _, _, r, h, rfl, rfl, fun ν hh => ⟨hh, rfl⟩⟩
    · exact key h
  · exact key h
theorem rlcmp_ok {x y : Value} {k : Nat} {c : Value → Nat → Option rR} {r : rR} (h : rlcmp x y k c = some r) :
    risL x = true ∧ risL y = true ∧ ∃ (z : Value) (k' : Nat) (r' : rR), c z k' = some r' ∧ r'.2 = r.2 ∧ risI z = true ∧ ∀ ν, rholds ν r.1 → rholds ν r'.1 ∧ ri ν z = lg_cmp (rl ν x) (rl ν y) := by
  have key : rlcmpS x y k c = some r → risL x = true ∧ risL y = true ∧ ∃ (z : Value) (k' : Nat) (r' : rR), c z k' = some r' ∧ r'.2 = r.2 ∧ risI z = true ∧ ∀ ν, rholds ν r.1 → rholds ν r'.1 ∧ ri ν z = lg_cmp (rl ν x) (rl ν y) := by
    intro h
    unfold rlcmpS at h
    split at h
    · next hb =>
      rw [Bool.and_eq_true] at hb
      unfold remit at h
      split at h
      · next z hz =>
        cases h
        refine ⟨hb.1, hb.2, _, _, z, hz, rfl, rfl, fun ν hh => ?_⟩
        have h2 := rholds_cons hh
        exact ⟨h2.2, h2.1⟩
      · cases h
    · cases h
  unfold rlcmp at h
  split at h
  · next a =>
    split at h
    · next b =>
      rw [rci_eq] at h
      exact ⟨rfl, rfl, _, _, r, h, rfl, rfl, fun ν hh => ⟨hh, rfl⟩⟩
    · exact key h
  · exact key h
theorem ri2l_ok {x : Value} {k : Nat} {c : Value → Nat → Option rR} {r : rR} (h : ri2l x k c = some r) :
    risI x = true ∧ ∃ (z : Value) (k' : Nat) (r' : rR), c z k' = some r' ∧ r'.2 = r.2 ∧ risL z = true ∧ ∀ ν, rholds ν r.1 → rholds ν r'.1 ∧ rl ν z = (ri ν x).toInt64 := by
  unfold ri2l at h
  split at h
  · rw [rcl_eq] at h
    exact ⟨rfl, _, _, r, h, rfl, rfl, fun ν hh => ⟨hh, rfl⟩⟩
  · unfold remit at h
    split at h
    · next z hz =>
      cases h
      refine ⟨rfl, _, _, z, hz, rfl, rfl, fun ν hh => ?_⟩
      have h2 := rholds_cons hh
      exact ⟨h2.2, h2.1⟩
    · cases h
  · cases h
theorem rl2i_ok {x : Value} {k : Nat} {c : Value → Nat → Option rR} {r : rR} (h : rl2i x k c = some r) :
    risL x = true ∧ ∃ (z : Value) (k' : Nat) (r' : rR), c z k' = some r' ∧ r'.2 = r.2 ∧ risI z = true ∧ ∀ ν, rholds ν r.1 → rholds ν r'.1 ∧ ri ν z = (rl ν x).toInt32 := by
  unfold rl2i at h
  split at h
  · rw [rci_eq] at h
    exact ⟨rfl, _, _, r, h, rfl, rfl, fun ν hh => ⟨hh, rfl⟩⟩
  · unfold remit at h
    split at h
    · next z hz =>
      cases h
      refine ⟨rfl, _, _, z, hz, rfl, rfl, fun ν hh => ?_⟩
      have h2 := rholds_cons hh
      exact ⟨h2.2, h2.1⟩
    · cases h
  · cases h
theorem rbr_ok {o : Nat} {x y : Value} {pa : List Nat} {ct cf : List Nat → Option rR} {r : rR} (h : rbr o x y pa ct cf = some r) :
    risI x = true ∧ risI y = true ∧ ((∃ (pa' : List Nat) (r' : rR), ct pa' = some r' ∧ r'.2 = r.2 ∧ ∀ ν, rholds ν r.1 → rholds ν r'.1 ∧ rcmp o (ri ν x) (ri ν y) = true) ∨ (∃ (pa' : List Nat) (r' : rR), cf pa' = some r' ∧ r'.2 = r.2 ∧ ∀ ν, rholds ν r.1 → rholds ν r'.1 ∧ rcmp o (ri ν x) (ri ν y) = false)) := by
  have key : rbrS o x y pa ct cf = some r → risI x = true ∧ risI y = true ∧ ((∃ (pa' : List Nat) (r' : rR), ct pa' = some r' ∧ r'.2 = r.2 ∧ ∀ ν, rholds ν r.1 → rholds ν r'.1 ∧ rcmp o (ri ν x) (ri ν y) = true) ∨ (∃ (pa' : List Nat) (r' : rR), cf pa' = some r' ∧ r'.2 = r.2 ∧ ∀ ν, rholds ν r.1 → rholds ν r'.1 ∧ rcmp o (ri ν x) (ri ν y) = false)) := by
    intro h
    unfold rbrS at h
    split at h
    · cases h
    · next hb =>
      rw [Bool.and_eq_true] at hb
      split at h
      · cases h
      · next z pa' =>
        split at h
        · unfold remit at h
          split at h
          · next w hw =>
            cases h
            refine ⟨hb.1, hb.2, Or.inl ⟨_, w, hw, rfl, fun ν hh => ?_⟩⟩
            have h2 := rholds_cons hh
            exact ⟨h2.2, h2.1⟩
          · cases h
        · unfold remit at h
          split at h
          · next w hw =>
            cases h
            refine ⟨hb.1, hb.2, Or.inr ⟨_, w, hw, rfl, fun ν hh => ?_⟩⟩
            have h2 := rholds_cons hh
            exact ⟨h2.2, h2.1⟩
          · cases h
  unfold rbr at h
  split at h
  · next a =>
    split at h
    · next b =>
      split at h
      · next hc => exact ⟨rfl, rfl, Or.inl ⟨_, r, h, rfl, fun ν hh => ⟨hh, hc⟩⟩⟩
      · next hc => exact ⟨rfl, rfl, Or.inr ⟨_, r, h, rfl, fun ν hh => ⟨hh, hc⟩⟩⟩
    · exact key h
  · exact key h
theorem rjmp_ok {pc : Nat} {off : Int} {c : Nat → Option rR} {r : rR} (h : rjmp pc off c = some r) : ∃ t : Nat, (pc : Int) + off = (t : Int) ∧ c t = some r := by
  unfold rjmp at h
  split at h
  · next t ht =>
    rw [rn_eq] at h
    exact ⟨t, ht, h⟩
  · cases h
theorem rsw_ok {pc : Nat} {dflt lo hi : Int} {offs : Array Int} {x : Int32} {c : Nat → Option rR} {r : rR} (h : rsw pc dflt lo hi offs x c = some r) :
    ((x.toInt < lo ∨ hi < x.toInt) ∧ ∃ t : Nat, (pc : Int) + dflt = (t : Int) ∧ c t = some r) ∨ (¬ x.toInt < lo ∧ ¬ hi < x.toInt ∧ ∃ (off : Int) (t : Nat), offs[(x.toInt - lo).toNat]? = some off ∧ (pc : Int) + off = (t : Int) ∧ c t = some r) := by
  unfold rsw at h
  split at h
  · next hb =>
    simp only [Bool.or_eq_true, decide_eq_true_eq] at hb
    exact Or.inl ⟨hb, rjmp_ok h⟩
  · next hb =>
    simp only [Bool.or_eq_false_iff, decide_eq_false_iff_not] at hb
    split at h
    · next off ho =>
      obtain ⟨t, h1, h2⟩ := rjmp_ok h
      exact Or.inr ⟨hb.1, hb.2, off, t, ho, h1, h2⟩
    · cases h
theorem rget_ok {σ : rS} {o : Value} {ci kf : Nat} {c : Value → Option rR} {r : rR} (h : rget σ o ci kf c = some r) : ∃ (a : Nat) (fs : List Value) (v : Value), o = .ref a ∧ σ[a]? = some (.inl (ci, fs)) ∧ fs[kf]? = some v ∧ c v = some r := by
  unfold rget at h
  split at h
  · next a =>
    split at h
    · next q hq =>
      split at h
      · next hb =>
        split at h
        · next v hv =>
          rw [rat_eq] at hq
          rw [rnth_eq] at hv
          obtain ⟨q1, q2⟩ := q
          have hb := Nat.eq_of_beq_eq_true hb
          simp only at hb hv
          subst hb
          exact ⟨a, q2, v, rfl, hq, hv, h⟩
        · cases h
      · cases h
    · cases h
  · cases h
theorem rput_ok {SB : Nat} {σ : rS} {o v : Value} {ci kf tag : Nat} {c : rS → Option rR} {r : rR} (h : rput SB σ o v ci kf tag c = some r) : ∃ (a : Nat) (fs : List Value), o = .ref a ∧ σ[a]? = some (.inl (ci, fs)) ∧ SB ≤ a ∧ rfit tag v = true ∧ kf < fs.length ∧ c (σ.set a (.inl (ci, fs.set kf v))) = some r := by
  unfold rput at h
  split at h
  · next a =>
    split at h
    · next q hq =>
      split at h
      · next hb =>
        simp only [Bool.and_eq_true] at hb
        obtain ⟨b1, b2, b3, b4⟩ := hb
        rw [rat_eq] at hq
        obtain ⟨q1, q2⟩ := q
        have b1 := Nat.eq_of_beq_eq_true b1
        simp only at b1 b4
        subst b1
        simp only [rstl_eq] at h
        exact ⟨a, q2, rfl, hq, Nat.le_of_ble_eq_true b2, b3, Nat.le_of_ble_eq_true b4, h⟩
      · cases h
    · cases h
  · cases h
theorem rplace_ok {σ : rS} {o i : Value} {c : Nat → Nat × Nat × Value × rO → Nat → Option rR} {r : rR} (h : rplace σ o i c = some r) : ∃ (a : Nat) (q : Nat × Nat × Value × rO) (j : Int32), o = .ref a ∧ σ[a]? = some (.inr q) ∧ i = .int j ∧ vp_in j q.2.1 ∧ c a q j.toNatClampNeg = some r := by
  unfold rplace at h
  split at h
  · next a =>
    split at h
    · next q hq =>
      split at h
      · next j =>
        split at h
        · next hj =>
          rw [rn_eq] at h
          split at h
          · next hx =>
            rw [rat_eq] at hq
            refine ⟨a, q, j, rfl, hq, rfl, ?_, h⟩
            rintro (z | z)
            · exact of_decide_eq_false hj z
            · have := Nat.le_of_ble_eq_true hx
              omega
          · cases h
        · cases h
      · cases h
    · cases h
  · cases h
theorem rnewa_ok {t : Nat} {σ : rS} {n : Value} {c : Value → rS → Nat → Option rR} {r : rR} (h : rnewa t σ n c = some r) : ∃ j : Int32, n = .int j ∧ ¬ j < 0 ∧ j.toNatClampNeg ≤ 1000000 ∧ c (.ref σ.length) (σ ++ [.inr (t, j.toNatClampNeg, rdef t, [])]) j.toNatClampNeg = some r := by
  unfold rnewa at h
  split at h
  · next j =>
    split at h
    · next hj =>
      rw [rn_eq] at h
      split at h
      · next hx =>
        rw [rn_eq] at h
        exact ⟨j, rfl, of_decide_eq_false hj, Nat.le_of_ble_eq_true hx, h⟩
      · cases h
    · cases h
  · cases h
theorem rload_ok {ls : rO} {i : Nat} {f : Value → Bool} {c : Value → Option rR} {r : rR} (h : rload ls i f c = some r) : ∃ v : Value, (i, v) ∈ ls ∧ f v = true ∧ c v = some r := by
  unfold rload at h
  split at h
  · next v hv =>
    split at h
    · next hf => exact ⟨v, rlook_mem hv, hf, h⟩
    · cases h
  · cases h
theorem rpopn_ok : ∀ {n : Nat} {acc st : List Value} {z : List Value × List Value}, rpopn n acc st = some z → ∃ as : List Value, z.1 = as.reverse ++ acc ∧ st = as ++ z.2 ∧ as.length = n
  | 0, acc, st, z, h => by
    unfold rpopn at h
    cases h
    exact ⟨[], rfl, rfl, rfl⟩
  | n + 1, acc, [], z, h => by cases h
  | n + 1, acc, v :: st, z, h => by
    unfold rpopn at h
    obtain ⟨as, h1, h2, h3⟩ := rpopn_ok h
    exact ⟨v :: as, by simp [h1], by simp [h2], by simp [h3]⟩
theorem rafter_ok {cs : List rK} {o : Option rR} {r : rR} (h : rafter cs o = some r) : ∃ r' : rR, o = some r' ∧ r'.2 = r.2 ∧ ∀ ν, rholds ν r.1 → rholds ν cs ∧ rholds ν r'.1 := by
  unfold rafter at h
  split at h
  · exact ⟨r, h, rfl, fun ν hh => ⟨rholds_nil ν, hh⟩⟩
  · split at h
    · next y =>
      cases h
      exact ⟨y, rfl, rfl, fun ν hh => rholds_app hh⟩
    · cases h
theorem rconc_ok {v : Value} {pa : List Nat} {c : Value → List Nat → Option rR} {r : rR} (hv : risI v = true) (h : rconc v pa c = some r) : ∃ (z : Value) (pa' : List Nat) (r' : rR), c z pa' = some r' ∧ r'.2 = r.2 ∧ risI z = true ∧ ∀ ν, rholds ν r.1 → rholds ν r'.1 ∧ ri ν z = ri ν v := by
  unfold rconc at h
  split at h
  · next j =>
    split at h
    · cases h
    · split at h
      · unfold remit at h
        split at h
        · next w hw =>
          cases h
          refine ⟨_, _, w, hw, rfl, rfl, fun ν hh => ⟨(rholds_cons hh).2, ?_⟩⟩
          exact ((rholds_cons hh).1 : ri ν (.float j) = _).symm
        · cases h
      · exact ⟨_, _, r, h, rfl, rfl, fun ν hh => ⟨hh, rfl⟩⟩
  · exact ⟨_, _, r, h, rfl, hv, fun ν hh => ⟨hh, rfl⟩⟩
