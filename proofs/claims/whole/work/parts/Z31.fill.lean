/-! Arrays.fill(int[], int): its contract, by a loop -/
noncomputable def rfl' (ov : rO) (v : Value) : Nat → rO
  | 0 => ov
  | i + 1 => rup (rfl' ov v i) i v
theorem rfl'_lk (ov : rO) (v d : Value) (j : Nat) : ∀ i : Nat, rlk (rfl' ov v i) d j = if j < i then v else rlk ov d j
  | 0 => by rw [if_neg (by omega)]; rfl
  | i + 1 => by
    unfold rfl'
    rw [rlk_rup, rfl'_lk ov v d j i]
    by_cases h : j = i
    · rw [if_pos h, if_pos (by omega)]
    · rw [if_neg h]
      by_cases h2 : j < i
      · rw [if_pos h2, if_pos (by omega)]
      · rw [if_neg h2, if_neg (by omega)]
theorem arrV_congr {cA : ClassId} {n : Nat} {f g : Nat → Value} (h : ∀ j, j < n → f j = g j) : arrV cA n f = arrV cA n g := by
  unfold arrV
  congr 2
  funext j
  exact h j.val j.isLt
abbrev yfill : MethodName := ⟨"java/util/Arrays", "fill", "([II)V"⟩
def rfillW (E : rE) : Prop := ∃ bc : ByteArray, Jvm.Cond.code yfill bc 4 none ∈ E.2.2.2.2.2.1 ∧ Jvm.Cond.static yfill ∈ E.2.2.2.2.2.1 ∧ Jvm.Cond.initialized "java/util/Arrays" ∈ E.2.2.2.2.2.1 ∧
  decode bc 0 = .ok (.iconst 0, 1) ∧ decode bc 1 = .ok (.istore_n 2, 1) ∧ decode bc 2 = .ok (.aload_n 0, 1) ∧ decode bc 3 = .ok (.arraylength, 1) ∧ decode bc 4 = .ok (.istore_n 3, 1) ∧ decode bc 5 = .ok (.iload_n 2, 1) ∧ decode bc 6 = .ok (.iload_n 3, 1) ∧ decode bc 7 = .ok (.if_icmp .ge 13, 3) ∧
  decode bc 10 = .ok (.aload_n 0, 1) ∧ decode bc 11 = .ok (.iload_n 2, 1) ∧ decode bc 12 = .ok (.iload_n 1, 1) ∧ decode bc 13 = .ok (.iastore, 1) ∧ decode bc 14 = .ok (.iinc 2 1, 3) ∧ decode bc 17 = .ok (.goto (-12), 3) ∧ decode bc 20 = .ok (.return_, 1)
section FI
variable {P : rP} {E : rE} {l : Launch} {D : va_G} {dA : Nat → ClassId} {B : Nat} {HB : Heap × rS} {ρ : Nat → Nat}
theorem rfill_met {ν : rV} {σ : rS} {a n : Nat} {dv v : Value} {ov : rO} {bc : ByteArray} (hρ : rho P.2.2.2.2.2.2.1 B ρ) (ht : rtab P E) (hσ : σ[a]? = some (.inr (1, n, dv, ov))) (ha : P.2.2.2.2.2.2.1 ≤ a) (hv : risI v = true) (hn : n ≤ 1000000)
    (d0 : decode bc 0 = .ok (.iconst 0, 1)) (d1 : decode bc 1 = .ok (.istore_n 2, 1)) (d2 : decode bc 2 = .ok (.aload_n 0, 1)) (d3 : decode bc 3 = .ok (.arraylength, 1)) (d4 : decode bc 4 = .ok (.istore_n 3, 1)) (d5 : decode bc 5 = .ok (.iload_n 2, 1)) (d6 : decode bc 6 = .ok (.iload_n 3, 1)) (d7 : decode bc 7 = .ok (.if_icmp .ge 13, 3))
    (d10 : decode bc 10 = .ok (.aload_n 0, 1)) (d11 : decode bc 11 = .ok (.iload_n 2, 1)) (d12 : decode bc 12 = .ok (.iload_n 1, 1)) (d13 : decode bc 13 = .ok (.iastore, 1)) (d14 : decode bc 14 = .ok (.iinc 2 1, 3)) (d17 : decode bc 17 = .ok (.goto (-12), 3)) (d20 : decode bc 20 = .ok (.return_, 1)) :
    Met l yfill (Jvm.Cond.code yfill bc 4 none :: E.2.2.2.2.2.1) (rroom 0 0 0) (rPc P E D dA B HB ρ ν [.ref a, v] σ) (rQc P E D dA B HB ρ ν none (σ.set a (.inr (1, n, v, [])))) 0 0 (fun q => B ≤ q) := by
  refine Met.ofW (cc := bc) (maxL := 4) (ret := none) (by decide) rfl ?_
  intro p e s m args below meth c s₁ Bd hml hv0
  obtain ⟨rfl, hH, hK⟩ := hv0
  have hx := Bd.exec
  have hb := Bd.bytes
  have hr := Bd.returns
  have hlocks := Bd.notSynchronized
  have hal : a < σ.length := (List.getElem?_eq_some_iff.mp hσ).1
  have hcell : ∀ {i : Nat} {H : Heap}, rhp P E D dA B HB ρ ν (σ.set a (.inr (1, n, dv, rfl' ov v i))) H → H[ρ a]? = some (arrV (dA 1) n (fun j => rg ν ρ (rlk (rfl' ov v i) dv j))) := fun h => h.2.2.2.1 a _ ha (List.getElem?_set_self hal)
  have hA : ∀ (f : Nat → Value), s.isArrayOf (arrV (dA 1) n f) .int := fun f => by
    have := (hK.2.1 1 (by decide)).1 n f
    rw [ht.2.2.2.1.2.1] at this
    exact this
  have loop : ∀ (k i : Nat), i + k = n → ∀ (H : Heap) (locs : List Loc) (lsR : Array Slot), rhp P E D dA B HB ρ ν (σ.set a (.inr (1, n, dv, rfl' ov v i))) H → lv_has lsR 4 [(2, .int (nI i)), (3, .int (nI n)), (0, .ref (ρ a)), (1, .int (ri ν v))] → (∀ q ∈ locs, B ≤ q.base) →
      W p l e (headSpec (Jvm.Cond.code yfill bc 4 none :: E.2.2.2.2.2.1) (rroom 0 0 0)).room s m (([.ref a, v] : List Value).map (rg ν ρ)).toArray below meth c H locs 0 0 (MQ below (rQc P E D dA B HB ρ ν none (σ.set a (.inr (1, n, v, [])))) (([.ref a, v] : List Value).map (rg ν ρ)).toArray s 0 0 (fun q => B ≤ q)) (F0 m 5 lsR []) := by
    intro k
    induction k with
    | zero =>
      intro i hi H locs lsR hH hl hL
      have hin : i = n := by omega
      subst hin
      refine lv_iload_n hx hb d5 rfl (lv_at hl 0 rfl) ?_
      refine lv_iload_n hx hb d6 rfl (lv_at hl 1 rfl) ?_
      refine lv_icmp_ge (tgt := 20) hx hb d7 (by decide) (fun _ => ?_) (fun q => absurd (Int32.le_refl _) q)
      refine W.vret hx hb hr (fun t htt _ => ⟨rfl, ?_⟩) hL d20
      rw [htt]
      refine ⟨by rw [List.length_set]; have := hH.1; rw [List.length_set] at this; exact this, by rw [List.length_set]; have := hH.2.1; rw [List.length_set] at this; exact this, hH.2.2.1, fun k x hk0 hk => ?_, fun k hk => by
        have := hH.2.2.2.2 k hk
        rw [List.getElem?_set_ne (by omega)] at this ⊢
        exact this⟩
      by_cases hka : k = a
      · subst hka
        rw [List.getElem?_set_self hal] at hk
        cases hk
        show H[ρ k]? = some (arrV (dA 1) i (fun j => rg ν ρ (rlk [] v j)))
        rw [hcell hH]
        congr 1
        refine arrV_congr fun j hj => ?_
        rw [rfl'_lk, if_pos hj]
        rfl
      · rw [List.getElem?_set_ne (Ne.symm hka)] at hk
        exact hH.2.2.2.1 k x hk0 (by rw [List.getElem?_set_ne (Ne.symm hka)]; exact hk)
    | succ k ih =>
      intro i hi H locs lsR hH hl hL
      refine lv_iload_n hx hb d5 rfl (lv_at hl 0 rfl) ?_
      refine lv_iload_n hx hb d6 rfl (lv_at hl 1 rfl) ?_
      refine lv_icmp_ge (tgt := 20) hx hb d7 (by decide) (fun q => absurd q (nI_ge (by omega) (by omega))) (fun _ => ?_)
      refine lv_aload_n hx hb d10 rfl (lv_at hl 2 rfl) ?_
      refine lv_iload_n hx hb d11 rfl (lv_at hl 0 rfl) ?_
      refine lv_iload_n hx hb d12 rfl (lv_at hl 3 rfl) ?_
      refine W.iast hx hb (hcell hH) (hA _) (fun q => by cases q) (by rw [arrV_size]; exact nI_in (by omega) (by omega)) rfl rfl d13 fun H1 e1 e2 e3 => ?_
      rw [nI_clamp (by omega), ← rg_i (ρ := ρ) hv] at e1
      have hH1 := rheap.set hρ hH ha e2 e3 (rcell_ast (E := E) (D := D) e1)
      rw [List.set_set] at hH1
      refine lv_iinc (v := nI (i + 1)) (lv' := [(2, .int (nI (i + 1))), (3, .int (nI n)), (0, .ref (ρ a)), (1, .int (ri ν v))]) hx hb d14 hl (k := 0) rfl (nI_1 i) (by decide) rfl (fun ls hl => ?_)
      refine lv_goto (tgt := 5) hx hb d17 rfl ?_
      exact ih (i + 1) (by omega) H1 _ ls hH1 hl (rlocsOk hL (hρ.ge ha))
  rw [lg_entry_eq]
  have hl := lv_entry (([.ref a, v] : List Value).map (rg ν ρ)) (n := 4) (by rw [rwords_sl]; rcases lv_cat v with h | h <;> simp [rwords, Value.category] <;> (try rw [h]) <;> (try omega) <;> cases v <;> simp [Value.category])
  rw [rargs_eq] at hl
  generalize (lg_sl (([.ref a, v] : List Value).map (rg ν ρ)) ++ List.replicate (4 - (lg_sl (([.ref a, v] : List Value).map (rg ν ρ))).length) Slot.unset).toArray = ls at hl ⊢
  have hl : lv_has ls 4 [(0, .ref (ρ a)), (1, .int (ri ν v))] := by
    rw [← rg_i (ρ := ρ) hv]
    exact hl
  refine lv_iconst (v := 0) hx hb d0 (by decide) ?_
  refine lv_istore_n (lv' := [(2, .int 0), (0, .ref (ρ a)), (1, .int (ri ν v))]) hx hb d1 rfl hl (by decide) rfl (fun ls hl => ?_)
  refine lv_aload_n hx hb d2 rfl (lv_at hl 1 rfl) ?_
  refine W.alen (n := nI n) hx hb (hH.2.2.2.1 a _ ha hσ) (hA _) (by rw [arrV_size] <;> rfl) rfl rfl d3 ?_
  refine lv_istore_n (lv' := [(3, .int (nI n)), (2, .int 0), (0, .ref (ρ a)), (1, .int (ri ν v))]) hx hb d4 rfl hl (by decide) rfl (fun ls hl => ?_)
  have hs : σ.set a (.inr (1, n, dv, rfl' ov v 0)) = σ := by
    apply List.ext_getElem?
    intro k
    by_cases hka : k = a
    · subst hka
      rw [List.getElem?_set_self hal]
      exact hσ.symm
    · rw [List.getElem?_set_ne (Ne.symm hka)]
  exact loop n 0 (by omega) s.heap [] ls (by rw [hs]; exact hH) (lv_sub hl [1, 0, 2, 3] rfl) (fun q h => by cases h)
theorem st_fill {x : Nat} {rec : rF} {μ d pc k cells slots len : Nat} {ls : rO} {st : List Value} {σ : rS} {pa : List Nat} {act : rA} {r : rR} (hρ : rho P.2.2.2.2.2.2.1 B ρ) (hfw : rfillW E) (ht : rtab P E) (hrec : rsound P E l D dA B HB ρ rec) (hp : rpo P E μ x act) (hk : act.1 = 28) (hd : decode (E.2.1 μ) pc = .ok (.invokestatic x, 3)) (h : rinstr P rec μ d pc ls st σ k pa cells slots (.invokestatic x) len act = some r) : rgoal P E l D dA B HB ρ r μ d pc ls st σ cells slots := by
  unfold rpo at hp
  rw [hk] at hp
  simp only [rinstr, hk] at h
  split at h
  · next v o rest =>
    split at h
    · next hb =>
      simp only [Bool.and_eq_true] at hb
      have hb1 := Nat.le_of_ble_eq_true hb.1
      have hb2 := Nat.le_of_ble_eq_true hb.2
      unfold rfill at h
      split at h
      · next a =>
        split at h
        · next q hq =>
          split at h
          · next hc =>
            simp only [Bool.and_eq_true] at hc
            obtain ⟨c1, c2, c3, c4⟩ := hc
            rw [rat_eq] at hq
            obtain ⟨t, n, dv, ov⟩ := q
            have c1 : t = 1 := Nat.eq_of_beq_eq_true c1
            subst c1
            have ha := Nat.le_of_ble_eq_true c2
            have hn : n ≤ 1000000 := Nat.le_of_ble_eq_true c4
            dsimp only at h
            rw [rstl_eq, rn_eq] at h
            obtain ⟨bc, w1, w2, w3, d0, d1, d2, d3, d4, d5, d6, d7, d10, d11, d12, d13, d14, d17, d20⟩ := hfw
            have hg := hrec _ _ _ _ _ _ _ _ _ _ _ h
            refine rcalled (z := ([], none, σ.set a (.inr (1, n, v, [])), 0, [], 0, 0)) hg rfl (fun ν hν => ⟨rholds_nil ν, hν⟩) fun ν hν p e R s m args below meth c H locs lsR X hH hl hlo hfr hf => ?_
            have hmet := rfill_met (l := l) (D := D) (dA := dA) (HB := HB) (ν := ν) (bc := bc) hρ ht hq ha c3 hn d0 d1 d2 d3 d4 d5 d6 d7 d10 d11 d12 d13 d14 d17 d20
            have hG : GoodIn E.2.2.2.2.2.1 (Jvm.Cond.code yfill bc 4 none :: E.2.2.2.2.2.1) := by
              intro w hw
              have hm : w ∈ E.2.2.2.2.2.1 := by
                rcases List.mem_cons.mp hw with rfl | h
                · exact w1
                · exact h
              exact ⟨hm, good_of_word (List.all_eq_true.mp ht.2.2.2.2.2.2.2.2 w hm)⟩
            exact ⟨_, va_runS ⟨X.1, X.2.1, X.2.2.1, X.2.2.2.1, X.2.2.2.2.1⟩ hmet ⟨callB_of 2 X.2.2.2.2.1 hG rfl rfl rfl (X.2.2.2.2.1 _ w3) (X.2.2.2.2.1 _ hp) (by decide +kernel) ⟨by show 0 + 1 + 1 ≤ R.frames; omega, by show 8 + (4 + 11) + 50 * 0 + 46 ≤ R.locals; omega⟩, X.2.2.2.2.1 _ w2⟩ ⟨rPc_blind, rPc_at (vs := [.ref a, v]) hH X.2.2.2.2.2.2⟩ rfl rfl hl.1 rfl (by
              rw [rwords_sum]
              show 2 * 0 + _ ≤ 8
              omega) hd hf⟩
          · cases h
        · cases h
      · cases h
    · cases h
  · cases h
end FI
