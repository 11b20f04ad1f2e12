/-! calls: a method's contract out of its run -/
theorem rargs_eq {ν : rV} {ρ : Nat → Nat} : ∀ (vs : List Value) (i : Nat), lv_args i (vs.map (rg ν ρ)) = rgl ρ ν (rargs i vs)
  | [], i => rfl
  | v :: vs, i => by
    rw [List.map_cons]
    unfold lv_args rargs
    rw [rg_cat, show (if v.category = 2 then i + 2 else i + 1) = i + v.category by rcases lv_cat v with h | h <;> rw [h] <;> rfl, rargs_eq vs]
    rfl
theorem rwords_sl {ν : rV} {ρ : Nat → Nat} : ∀ vs : List Value, (lg_sl (vs.map (rg ν ρ))).length = rwords vs
  | [] => rfl
  | v :: vs => by
    unfold lg_sl
    rw [List.map_cons, List.flatMap_cons, List.length_append]
    have h := rwords_sl (ν := ν) (ρ := ρ) vs
    unfold lg_sl at h
    rw [h, rg_cat]
    show _ = v.category + rwords vs
    rcases lv_cat v with h | h <;> rw [h] <;> rfl
section CA
variable (P : rP) (E : rE) (l : Launch) (D : va_G) (dA : Nat → ClassId) (B : Nat) (HB : Heap × rS) (ρ : Nat → Nat)
def rPc (ν : rV) (vs : List Value) (σ : rS) : Array Value → State → Prop := fun a U => a = (vs.map (rg ν ρ)).toArray ∧ rhp P E D dA B HB ρ ν σ U.heap ∧ rkn P.2.2.2.2.2.2.1 E.2.2.2.2.1 E.2.2.2.2.2.2.1 E.2.2.2.2.2.2.2.1 E.2.2.2.2.2.2.2.2.1 E.2.2.2.2.2.2.2.2.2 D dA B HB ρ ν U
def rQc (ν : rV) (v : Option Value) (σ : rS) : Array Value → State → Outcome → State → Prop := fun _ _ o t => o = .returned (v.map (rg ν ρ)) ∧ rhp P E D dA B HB ρ ν σ t.heap
abbrev rroom (d mc ms : Nat) : Room := { frames := d + 1, cells := mc, slots := ms, locals := 50 * d + 46 }
end CA
section CB
variable {P : rP} {E : rE} {l : Launch} {D : va_G} {dA : Nat → ClassId} {B : Nat} {HB : Heap × rS} {ρ : Nat → Nat}
theorem rretok_ok {ν : rV} {rt : Nat} {v : Value} {ty : FieldType} (h : rretok rt (some v) = true) (ht : rtag ty = rt) : rfit rt v = true := by
  simp only [rretok, Bool.and_eq_true] at h
  exact h.2
theorem rmet {r : rR} {μ' d : Nat} {vs : List Value} {σ : rS} {n : Nat} {ν : rV} (hp : rpoM P E μ' n) (hg : rgoal P E l D dA B HB ρ r μ' d 0 (rargs 0 vs) [] σ 0 0) (hν : rholds ν r.1) (hret : rretok (P.2.2.1 μ') r.2.1 = true) (hwd : rwords vs ≤ P.2.1 μ') :
    Met l (E.1 μ') (Jvm.Cond.code (E.1 μ') (E.2.1 μ') (P.2.1 μ') (E.2.2.1 μ') :: E.2.2.2.2.2.1) (rroom d r.2.2.2.2.2.1 r.2.2.2.2.2.2) (rPc P E D dA B HB ρ ν vs σ) (rQc P E D dA B HB ρ ν r.2.1 r.2.2.1) r.2.2.2.2.2.1 r.2.2.2.2.2.2 (fun q => B ≤ q) := by
  obtain ⟨p1, p2, p3, p4, p5, p6, p7⟩ := hp
  refine Met.ofW (cc := E.2.1 μ') (maxL := P.2.1 μ') (ret := E.2.2.1 μ') p5 rfl ?_
  intro p e s m args below meth c s₁ Bd hml hv
  obtain ⟨rfl, hH, hK⟩ := hv
  have hts := atoms_spec (ws := Jvm.Cond.code (E.1 μ') (E.2.1 μ') (P.2.1 μ') (E.2.2.1 μ') :: E.2.2.2.2.2.1) Bd.pre
  have hlocks := Bd.notSynchronized
  have hr := Bd.returns
  rw [lg_entry_eq]
  have hl := lv_entry (vs.map (rg ν ρ)) (n := P.2.1 μ') (by rw [rwords_sl]; exact hwd)
  rw [rargs_eq] at hl
  refine hg.2.2 ν hν p e _ s m _ below meth c s.heap [] _ _ ⟨Bd.exec, Bd.bytes, hml, findClass_of_methodNamed Bd.named, fun w hw => hts w (List.mem_cons_of_mem _ hw), fun h => (name_of_methodNamed Bd.named Bd.method).1.trans (p7 h), hK⟩ (Nat.le_refl _) (Nat.le_refl _) (Nat.le_refl _) (Nat.le_refl _) ?_ hH hl (fun q h => by cases h)
  intro i pc H locs lsR hi hd hH2 hL
  generalize r.2.1 = v at hi hret hH2 ⊢
  cases v with
  | none =>
    simp only [rreti, decide_eq_true_eq] at hi
    subst hi
    rcases p6 with ⟨q1, q2⟩ | ⟨ty, q1, q2⟩
    · rw [q1] at hr
      exact W.vret Bd.exec Bd.bytes hr (fun t ht _ => ⟨rfl, by rw [ht]; exact hH2⟩) hL hd
    · simp only [rretok] at hret
      have h9 := Nat.eq_of_beq_eq_true hret
      rw [h9] at q2
      cases ty <;> cases q2
  | some v =>
    have hrt : P.2.2.1 μ' < 4 ∧ rfit (P.2.2.1 μ') v = true := by
      simp only [rretok, Bool.and_eq_true] at hret
      exact ⟨Nat.le_of_ble_eq_true hret.1, hret.2⟩
    rcases p6 with ⟨q1, q2⟩ | ⟨ty, q1, q2⟩
    · omega
    · rw [q1] at hr
      obtain ⟨hn, -⟩ := rfit_ok (ν := ν) (ρ := ρ) hrt.2 q2
      by_cases hI : risI v = true
      · have hii : i = .ireturn := by cases v <;> first | (cases hI; done) | exact of_decide_eq_true hi
        subst hii
        rw [rg_i hI] at hn
        have hq : ∀ t : State, t.heap = H → s.WarmedH t.vm → rQc P E D dA B HB ρ ν (some v) r.2.2.1 (vs.map (rg ν ρ)).toArray s (.returned (some (.int (ri ν v)))) t := fun t ht _ => ⟨by rw [← rg_i (ρ := ρ) hI]; rfl, by rw [ht]; exact hH2⟩
        show W p l e _ s m _ below meth c H locs _ _ _ (F0 m pc lsR [rg ν ρ v])
        rw [rg_i hI]
        exact W.zret Bd.exec Bd.bytes hr hn hq hL hd
      · by_cases hJ : risL v = true
        · have hii : i = .lreturn := by cases v <;> first | (cases hJ; done) | exact of_decide_eq_true hi
          subst hii
          have hty : ty = .long := by
            have h2 := hrt.2
            rw [← q2] at h2
            cases ty <;> simp only [rtag, rfit] at h2 <;> first | rfl | (cases v <;> cases hJ <;> cases h2)
          subst hty
          have hq : ∀ t : State, t.heap = H → s.WarmedH t.vm → rQc P E D dA B HB ρ ν (some v) r.2.2.1 (vs.map (rg ν ρ)).toArray s (.returned (some (.long (rl ν v)))) t := fun t ht _ => ⟨by rw [← rg_l (ρ := ρ) hJ]; rfl, by rw [ht]; exact hH2⟩
          show W p l e _ s m _ below meth c H locs _ _ _ (F0 m pc lsR [rg ν ρ v])
          rw [rg_l hJ]
          exact W.lret Bd.exec Bd.bytes hr hq hL hd
        · have hR : risR v = true ∧ i = .areturn := by
            cases v <;> first | exact absurd rfl hI | exact absurd rfl hJ | exact ⟨rfl, of_decide_eq_true hi⟩ | (cases hi; done)
          obtain ⟨hR, hii⟩ := hR
          subst hii
          have hty : (∃ n, ty = .object n) ∨ ∃ t, ty = .array t := by
            have h2 := hrt.2
            rw [← q2] at h2
            cases ty <;> first | exact Or.inl ⟨_, rfl⟩ | exact Or.inr ⟨_, rfl⟩ | (simp only [rtag, rfit] at h2; cases v <;> cases hR <;> cases h2)
          exact W.aret Bd.exec Bd.bytes hr hty (by cases v <;> first | exact Or.inl rfl | exact Or.inr ⟨_, rfl⟩ | (cases hR; done)) (fun t ht _ => ⟨rfl, by rw [ht]; exact hH2⟩) hL hd
theorem rPc_blind {ν : rV} {vs : List Value} {σ : rS} : FrameBlind (rPc P E D dA B HB ρ ν vs σ) := fun a U g mk q => ⟨q.1, q.2.1, rkn.moved (u := U) (U := U.calling g mk a) (State.WarmedH.refl U) q.2.2⟩
theorem rPc_at {ν : rV} {vs : List Value} {σ : rS} {s : State} {H : Heap} (hH : rhp P E D dA B HB ρ ν σ H) (hK : rkn P.2.2.2.2.2.2.1 E.2.2.2.2.1 E.2.2.2.2.2.2.1 E.2.2.2.2.2.2.2.1 E.2.2.2.2.2.2.2.2.1 E.2.2.2.2.2.2.2.2.2 D dA B HB ρ ν s) : ∀ U : State, U.heap = H → s.WarmedH U.vm → rPc P E D dA B HB ρ ν vs σ (vs.map (rg ν ρ)).toArray U := fun U hU hW => ⟨rfl, by rw [hU]; exact hH, hK.moved hW⟩
theorem rW_call {p : Program} {e : Env} {R : Room} {s : State} {m : MethodId} {args : Array Value} {below : List Frame} {meth : Method} {c : Code} {H : Heap} {locs : List Loc} {cells slots mc ms pc : Nat} {Q : State → Prop} {lsR : Array Slot} {st0 rest : List Value} {ν : rV} {v : Option Value} {σ' : rS} {a : Array Value}
    (hr : va_Run p l e R s m args below meth c H locs cells slots mc ms (F0 m pc lsR st0) rest (rQc P E D dA B HB ρ ν v σ' a) (fun q => B ≤ q)) (hL : ∀ q ∈ locs, B ≤ q.base)
    (kk : ∀ (H1 : Heap) (locs1 : List Loc), rhp P E D dA B HB ρ ν σ' H1 → (∀ q ∈ locs1, B ≤ q.base) → W p l e R s m args below meth c H1 locs1 (cells + mc) (slots + ms) Q (F0 m (pc + 3) lsR ((v.map (rg ν ρ)).toList ++ rest))) : W p l e R s m args below meth c H locs cells slots Q (F0 m pc lsR st0) := by
  intro T hT X
  obtain ⟨v', st₀, t, T', L, h0, X', hL', e1, e2, ⟨hv, hh⟩, st⟩ := hr T hT X
  cases hv
  obtain ⟨t2, a1, b1⟩ := kk T'.heap (locs ++ L) (by rw [e1]; exact hh) (fun q hq => by
    rcases List.mem_append.mp hq with h | h
    · exact hL q h
    · exact hL' q h) T' rfl X'
  exact ⟨t2, st t2 a1, b1⟩
/-- the calls that are known already -/
def rknown (P : rP) (E : rE) (l : Launch) (D : va_G) (dA : Nat → ClassId) (B : Nat) (HB : Heap × rS) (ρ : Nat → Nat) : Prop := ∀ q ∈ P.2.2.2.2.2.2.2, rgoal P E l D dA B HB ρ ([], q.2.2.2.2.1, q.2.2.2.2.2.1, 0, [], q.2.2.2.2.2.2.1, q.2.2.2.2.2.2.2) q.1 q.2.1 0 (rargs 0 q.2.2.1) [] q.2.2.2.1 0 0
theorem rmemo_ok {μ d : Nat} {vs : List Value} {σ : rS} {z : Option Value × rS × Nat × Nat} : ∀ {Kn : List rM}, rmemo Kn μ d vs σ = some z → ∃ d0, d0 ≤ d ∧ (μ, d0, vs, σ, z) ∈ Kn
  | [], h => by cases h
  | q :: l, h => by
    unfold rmemo at h
    split at h
    · next hb =>
      simp only [Bool.and_eq_true, decide_eq_true_eq] at hb
      obtain ⟨b1, b2, b3, b4⟩ := hb
      cases h
      have b1 := Nat.eq_of_beq_eq_true b1
      have b4 := rseq_eq b4
      obtain ⟨q1, q2, q3, q4, q5⟩ := q
      simp only at b1 b3 b4
      subst b1; subst b3; subst b4
      exact ⟨q2, Nat.le_of_ble_eq_true b2, List.mem_cons_self⟩
    · obtain ⟨d0, h1, h2⟩ := rmemo_ok h
      exact ⟨d0, h1, List.mem_cons_of_mem _ h2⟩
theorem rcall_ok {rec : rF} {μ d pc μ' k cells slots : Nat} {ls : rO} {vs rest : List Value} {σ : rS} {pa : List Nat} {r : rR} (hkn : rknown P E l D dA B HB ρ) (hrec : rsound P E l D dA B HB ρ rec) (h : rcall P.2.1 P.2.2.1 P.2.2.2.2.2.2.2 rec μ d pc ls μ' vs rest σ k pa cells slots = some r) :
    rwords rest ≤ 8 ∧ rwords vs ≤ P.2.1 μ' ∧ ∃ (d0 : Nat) (z r' : rR), d0 + 1 ≤ d ∧ rgoal P E l D dA B HB ρ z μ' d0 0 (rargs 0 vs) [] σ 0 0 ∧ rretok (P.2.2.1 μ') z.2.1 = true ∧ rgoal P E l D dA B HB ρ r' μ d (pc + 3) ls (z.2.1.toList ++ rest) z.2.2.1 (cells + z.2.2.2.2.2.1) (slots + z.2.2.2.2.2.2) ∧ r'.2 = r.2 ∧ ∀ ν, rholds ν r.1 → rholds ν z.1 ∧ rholds ν r'.1 := by
  unfold rcall at h
  split at h
  · cases h
  · next d' =>
    split at h
    · cases h
    · next hb =>
      simp only [Bool.and_eq_true] at hb
      refine ⟨Nat.le_of_ble_eq_true hb.1, Nat.le_of_ble_eq_true hb.2, ?_⟩
      split at h
      · next z hz =>
        split at h
        · next hret =>
          rw [rn_eq] at h
          obtain ⟨d0, h1, h2⟩ := rmemo_ok hz
          exact ⟨d0, ([], z.1, z.2.1, 0, [], z.2.2.1, z.2.2.2), r, by omega, hkn _ h2, hret, hrec _ _ _ _ _ _ _ _ _ _ _ h, rfl, fun ν hν => ⟨rholds_nil ν, hν⟩⟩
        · cases h
      · split at h
        · next z hz =>
          split at h
          · next hret =>
            obtain ⟨r', h1, h2, h3⟩ := rafter_ok h
            rw [rn_eq] at h1
            exact ⟨d', z, r', by omega, hrec _ _ _ _ _ _ _ _ _ _ _ hz, hret, hrec _ _ _ _ _ _ _ _ _ _ _ h1, h2, h3⟩
          · cases h
        · cases h
theorem rcalled {r r' z : rR} {μ d pc cells slots : Nat} {ls : rO} {st rest : List Value} {σ : rS}
    (hg : rgoal P E l D dA B HB ρ r' μ d (pc + 3) ls (z.2.1.toList ++ rest) z.2.2.1 (cells + z.2.2.2.2.2.1) (slots + z.2.2.2.2.2.2)) (ht : r'.2 = r.2) (hh : ∀ ν, rholds ν r.1 → rholds ν z.1 ∧ rholds ν r'.1)
    (hrun : ∀ ν, rholds ν z.1 → ∀ (p : Program) (e : Env) (R : Room) (s : State) (m : MethodId) (args : Array Value) (below : List Frame) (meth : Method) (c : Code) (H : Heap) (locs : List Loc) (lsR : Array Slot), rctx P E D dA B HB ρ ν p s m args meth c μ → rhp P E D dA B HB ρ ν σ H → lv_has lsR (P.2.1 μ) (rgl ρ ν ls) → 50 * d + 46 ≤ R.locals → d + 1 ≤ R.frames → cells + z.2.2.2.2.2.1 ≤ R.cells ∧ slots + z.2.2.2.2.2.2 ≤ R.slots →
      ∃ a, va_Run p l e R s m args below meth c H locs cells slots z.2.2.2.2.2.1 z.2.2.2.2.2.2 (F0 m pc lsR (st.map (rg ν ρ))) (rest.map (rg ν ρ)) (rQc P E D dA B HB ρ ν z.2.1 z.2.2.1 a) (fun q => B ≤ q)) :
    rgoal P E l D dA B HB ρ r μ d pc ls st σ cells slots := by
  obtain ⟨g1, g2, g3⟩ := hg
  rw [ht] at g1 g2
  refine ⟨by omega, by omega, fun ν hν => ?_⟩
  obtain ⟨h1, h2⟩ := hh ν hν
  have h3 := g3 ν h2
  rw [ht] at h3
  intro p e R s m args below meth c H locs lsR Q a1 a2 a3 a4 a5 a6 a7 a8 a9
  obtain ⟨a, hr⟩ := hrun ν h1 p e R s m args below meth c H locs lsR a1 a7 a8 a3 a2 ⟨by omega, by omega⟩
  refine rW_call hr a9 fun H1 locs1 b1 b2 => ?_
  have w := h3 p e R s m args below meth c H1 locs1 lsR Q a1 a2 a3 a4 a5 a6 b1 a8 b2
  rw [List.map_append] at w
  generalize z.2.1 = v at w ⊢
  cases v <;> exact w
theorem rgood (ht : rtab P E) {μ' n : Nat} (hp : rpoM P E μ' n) : GoodIn E.2.2.2.2.2.1 (Jvm.Cond.code (E.1 μ') (E.2.1 μ') (P.2.1 μ') (E.2.2.1 μ') :: E.2.2.2.2.2.1) := by
  intro w hw
  have hm : w ∈ E.2.2.2.2.2.1 := by
    rcases List.mem_cons.mp hw with rfl | h
    · exact hp.2.1
    · exact h
  exact ⟨hm, good_of_word (List.all_eq_true.mp ht.2.2.2.2.2.2.2.2 w hm)⟩
theorem st_static {x : Nat} {rec : rF} {μ d pc k cells slots len : Nat} {ls : rO} {st : List Value} {σ : rS} {pa : List Nat} {act : rA} {r : rR} (hkn : rknown P E l D dA B HB ρ) (ht : rtab P E) (hrec : rsound P E l D dA B HB ρ rec) (hp : rpo P E μ x act) (hk : act.1 = 24 ∨ act.1 = 25) (hd : decode (E.2.1 μ) pc = .ok (.invokestatic x, 3)) (h : rinv P.2.1 P.2.2.1 P.2.2.2.2.2.2.2 rec μ d pc ls st σ k pa cells slots act = some r) : rgoal P E l D dA B HB ρ r μ d pc ls st σ cells slots := by
  unfold rinv at h
  split at h
  · cases h
  · next zz hz =>
    obtain ⟨vs, rest⟩ := zz
    obtain ⟨as, h1, h2, h3⟩ := rpopn_ok hz
    simp only [List.append_nil] at h1 h2
    have hcall : rcall P.2.1 P.2.2.1 P.2.2.2.2.2.2.2 rec μ d pc ls act.2.1 vs rest σ k pa cells slots = some r := by
      rcases hk with hk | hk <;> rw [hk] at h <;> exact h
    obtain ⟨hw1, hw2, d0, z, r', hd0, hgz, hret, hgr, htr, hhr⟩ := rcall_ok hkn hrec hcall
    refine rcalled hgr htr hhr fun ν hν p e R s m args below meth c H locs lsR X hH hl hlo hfr hf => ?_
    have hlen : (vs.map (rg ν ρ)).length = act.2.2.1 := by rw [List.length_map, h1, List.length_reverse, h3]
    have hst : st.map (rg ν ρ) = (vs.map (rg ν ρ)).reverse ++ rest.map (rg ν ρ) := by rw [h2, List.map_append, h1, ← List.map_reverse, List.reverse_reverse]
    have hwr : 2 * (F0 m pc lsR (st.map (rg ν ρ))).monitorRoom + ((rest.map (rg ν ρ)).map fun v => v.category).sum ≤ 8 := by
      rw [rwords_sum]
      show 2 * 0 + _ ≤ 8
      omega
    unfold rpo at hp
    rcases hk with hk | hk
    · rw [hk] at hp
      obtain ⟨hM, q1, q2⟩ := hp
      have hmet := rmet (ν := ν) hM hgz hν hret hw2
      refine ⟨_, va_runS ⟨X.1, X.2.1, X.2.2.1, X.2.2.2.1, X.2.2.2.2.1⟩ hmet ⟨callB_of act.2.2.1 X.2.2.2.2.1 (rgood ht hM) rfl rfl rfl (X.2.2.2.2.1 _ hM.1) (X.2.2.2.2.1 _ q1) hM.2.2.1 ⟨by show d0 + 1 + 1 ≤ R.frames; omega, by have := hM.2.2.2.1; show 8 + (P.2.1 act.2.1 + 11) + 50 * d0 + 46 ≤ R.locals; omega⟩, X.2.2.2.2.1 _ q2⟩ ⟨rPc_blind, rPc_at hH X.2.2.2.2.2.2⟩ rfl hlen hl.1 hst hwr hd hf⟩
    · rw [hk] at hp
      obtain ⟨hM, ⟨host, q1⟩, q2⟩ := hp
      have hmet := rmet (ν := ν) hM hgz hν hret hw2
      refine ⟨_, va_runSN ⟨X.1, X.2.1, X.2.2.1, X.2.2.2.1, X.2.2.2.2.1⟩ hmet ⟨va_cnB act.2.2.1 X.2.2.2.2.1 (rgood ht hM) rfl rfl rfl (X.2.2.2.2.2.2.2.2.2.2.1 _ q1).2 (X.2.2.2.2.1 _ hM.1) hM.2.2.1 ⟨by show d0 + 1 + 1 ≤ R.frames; omega, by have := hM.2.2.2.1; show 8 + (P.2.1 act.2.1 + 11) + 50 * d0 + 46 ≤ R.locals; omega⟩, X.2.2.2.2.1 _ q2, trivial⟩ ⟨rPc_blind, rPc_at hH X.2.2.2.2.2.2⟩ rfl hlen hl.1 hst hwr hd hf⟩
theorem rrecv {ν : rV} {s : State} {H : Heap} {σ : rS} {b ci : Nat} {fs : List Value} {q : vw_C} (hH : rhp P E D dA B HB ρ ν σ H) (hK : rkn P.2.2.2.2.2.2.1 E.2.2.2.2.1 E.2.2.2.2.2.2.1 E.2.2.2.2.2.2.2.1 E.2.2.2.2.2.2.2.2.1 E.2.2.2.2.2.2.2.2.2 D dA B HB ρ ν s) (hb : σ[b]? = some (.inl (ci, fs))) (hq : E.2.2.2.2.1[ci]? = some q) : ∃ cellB : Cell, H[ρ b]? = some cellB ∧ cellB.vm.isStatics = false ∧ s.vm.findClass q.1 = some cellB.cls := by
  obtain ⟨r', h1, cell, g1, g2, g3, -⟩ := robj hH hK hb
  exact ⟨cell, g1, by rw [g3]; rfl, by rw [g2]; exact (hK.1 ci q hq).2.1⟩
theorem st_inst {ins : Instr} {x : Nat} {rec : rF} {μ d pc k cells slots len : Nat} {ls : rO} {st : List Value} {σ : rS} {pa : List Nat} {act : rA} {r : rR} (hkn : rknown P E l D dA B HB ρ) (ht : rtab P E) (hrec : rsound P E l D dA B HB ρ rec) (hp : rpo P E μ x act) (hk : (ins = .invokevirtual x ∧ (act.1 = 20 ∨ act.1 = 21)) ∨ (ins = .invokespecial x ∧ (act.1 = 22 ∨ act.1 = 23))) (hd : decode (E.2.1 μ) pc = .ok (ins, 3)) (h : rinv P.2.1 P.2.2.1 P.2.2.2.2.2.2.2 rec μ d pc ls st σ k pa cells slots act = some r) : rgoal P E l D dA B HB ρ r μ d pc ls st σ cells slots := by
  unfold rinv at h
  split at h
  · cases h
  · next zz hz =>
    obtain ⟨vs, rest0⟩ := zz
    obtain ⟨as, h1, h2, h3⟩ := rpopn_ok hz
    simp only [List.append_nil] at h1 h2
    have hcall : ∃ (b : Nat) (rest : List Value) (ci : Nat) (fs : List Value), rest0 = .ref b :: rest ∧ σ[b]? = some (.inl (ci, fs)) ∧ act.2.2.2 = .ref ci ∧ rcall P.2.1 P.2.2.1 P.2.2.2.2.2.2.2 rec μ d pc ls act.2.1 (.ref b :: vs) rest σ k pa cells slots = some r := by
      have key : rinvo P.2.1 P.2.2.1 P.2.2.2.2.2.2.2 rec μ d pc ls vs rest0 σ k pa cells slots act = some r := by
        rcases hk with ⟨-, hk | hk⟩ | ⟨-, hk | hk⟩ <;> rw [hk] at h <;> exact h
      clear h hz h2
      unfold rinvo at key
      split at key
      · next b rest =>
        split at key
        · next q hq =>
          split at key
          · next ci hci =>
            split at key
            · next hb =>
              rw [rat_eq] at hq
              obtain ⟨q1, q2⟩ := q
              have hb : q1 = ci := Nat.eq_of_beq_eq_true hb
              subst hb
              exact ⟨b, rest, q1, q2, rfl, hq, hci, key⟩
            · cases key
          · cases key
        · cases key
      · cases key
    obtain ⟨b, rest, ci, fs, rfl, hσ, hci, hcall⟩ := hcall
    obtain ⟨hw1, hw2, d0, z, r', hd0, hgz, hret, hgr, htr, hhr⟩ := rcall_ok hkn hrec hcall
    refine rcalled hgr htr hhr fun ν hν p e R s m args below meth c H locs lsR X hH hl hlo hfr hf => ?_
    have hlen : (vs.map (rg ν ρ)).length = act.2.2.1 := by rw [List.length_map, h1, List.length_reverse, h3]
    have hst : st.map (rg ν ρ) = (vs.map (rg ν ρ)).reverse ++ .ref (ρ b) :: rest.map (rg ν ρ) := by
      rw [h2, List.map_append, h1, ← List.map_reverse, List.reverse_reverse]
      rfl
    have hwr : 2 * (F0 m pc lsR (st.map (rg ν ρ))).monitorRoom + ((rest.map (rg ν ρ)).map fun v => v.category).sum ≤ 8 := by
      rw [rwords_sum]
      show 2 * 0 + _ ≤ 8
      omega
    unfold rpo at hp
    rcases hk with ⟨rfl, hk | hk⟩ | ⟨rfl, hk | hk⟩
    · rw [hk] at hp
      obtain ⟨hM, q1, q2, q3, ci', q, hc1, hc2, hc3⟩ := hp
      rw [hci] at hc1
      cases hc1
      have hmet := rmet (ν := ν) hM hgz hν hret hw2
      have hrc := rrecv hH X.2.2.2.2.2.2 hσ hc2
      rw [hc3] at hrc
      exact ⟨_, va_runV ⟨X.1, X.2.1, X.2.2.1, X.2.2.2.1, X.2.2.2.2.1⟩ hmet ⟨callB_of act.2.2.1 X.2.2.2.2.1 (rgood ht hM) rfl rfl rfl (X.2.2.2.2.1 _ hM.1) (X.2.2.2.2.1 _ q1) hM.2.2.1 ⟨by show d0 + 1 + 1 ≤ R.frames; omega, by have := hM.2.2.2.1; show 8 + (P.2.1 act.2.1 + 11) + 50 * d0 + 46 ≤ R.locals; omega⟩, X.2.2.2.2.1 _ q2, X.2.2.2.2.1 _ q3⟩ ⟨rPc_blind, hrc, rPc_at (vs := .ref b :: vs) hH X.2.2.2.2.2.2⟩ rfl hlen hl.1 hst hwr hd hf⟩
    · rw [hk] at hp
      obtain ⟨hM, ⟨host, q1⟩, q2, q3, ci', q, hc1, hc2, hc3⟩ := hp
      rw [hci] at hc1
      cases hc1
      have hmet := rmet (ν := ν) hM hgz hν hret hw2
      have hrc := rrecv hH X.2.2.2.2.2.2 hσ hc2
      rw [hc3] at hrc
      exact ⟨_, va_runVN ⟨X.1, X.2.1, X.2.2.1, X.2.2.2.1, X.2.2.2.2.1⟩ hmet ⟨va_cnB act.2.2.1 X.2.2.2.2.1 (rgood ht hM) rfl rfl rfl (X.2.2.2.2.2.2.2.2.2.2.1 _ q1).2 (X.2.2.2.2.1 _ hM.1) hM.2.2.1 ⟨by show d0 + 1 + 1 ≤ R.frames; omega, by have := hM.2.2.2.1; show 8 + (P.2.1 act.2.1 + 11) + 50 * d0 + 46 ≤ R.locals; omega⟩, X.2.2.2.2.1 _ q2, X.2.2.2.2.1 _ q3⟩ ⟨rPc_blind, hrc, rPc_at (vs := .ref b :: vs) hH X.2.2.2.2.2.2⟩ rfl hlen hl.1 hst hwr hd hf⟩
    · rw [hk] at hp
      obtain ⟨hM, q1, q2, q3, q4⟩ := hp
      have hmet := rmet (ν := ν) hM hgz hν hret hw2
      have hcb : CallB R s args (E.1 μ).cls x (E.1 act.2.1) (E.2.1 act.2.1) (P.2.1 act.2.1) (E.2.2.1 act.2.1) (Jvm.Cond.code (E.1 act.2.1) (E.2.1 act.2.1) (P.2.1 act.2.1) (E.2.2.1 act.2.1) :: E.2.2.2.2.2.1) (rroom d0 z.2.2.2.2.2.1 z.2.2.2.2.2.2) z.2.2.2.2.2.1 z.2.2.2.2.2.2 act.2.2.1 := callB_of act.2.2.1 X.2.2.2.2.1 (rgood ht hM) rfl rfl rfl (X.2.2.2.2.1 _ hM.1) (X.2.2.2.2.1 _ q1) hM.2.2.1 ⟨by show d0 + 1 + 1 ≤ R.frames; omega, by have := hM.2.2.2.1; show 8 + (P.2.1 act.2.1 + 11) + 50 * d0 + 46 ≤ R.locals; omega⟩
      rw [q4] at hcb hmet
      exact ⟨_, va_runI ⟨X.1, X.2.1, X.2.2.1, X.2.2.2.1, X.2.2.2.2.1⟩ hmet ⟨hcb, q3, X.2.2.2.2.1 _ q2⟩ ⟨rPc_blind, rPc_at (vs := .ref b :: vs) hH X.2.2.2.2.2.2⟩ rfl hlen hl.1 hst hwr hd hf⟩
    · rw [hk] at hp
      obtain ⟨hM, ⟨host, q1⟩, q2, q3, q4⟩ := hp
      have hmet := rmet (ν := ν) hM hgz hν hret hw2
      have hcb : va_CN R s args (E.1 μ).cls x (E.1 act.2.1) host (E.2.1 act.2.1) (P.2.1 act.2.1) (E.2.2.1 act.2.1) (Jvm.Cond.code (E.1 act.2.1) (E.2.1 act.2.1) (P.2.1 act.2.1) (E.2.2.1 act.2.1) :: E.2.2.2.2.2.1) (rroom d0 z.2.2.2.2.2.1 z.2.2.2.2.2.2) z.2.2.2.2.2.1 z.2.2.2.2.2.2 act.2.2.1 := va_cnB act.2.2.1 X.2.2.2.2.1 (rgood ht hM) rfl rfl rfl (X.2.2.2.2.2.2.2.2.2.2.1 _ q1).2 (X.2.2.2.2.1 _ hM.1) hM.2.2.1 ⟨by show d0 + 1 + 1 ≤ R.frames; omega, by have := hM.2.2.2.1; show 8 + (P.2.1 act.2.1 + 11) + 50 * d0 + 46 ≤ R.locals; omega⟩
      rw [q4] at hcb hmet
      exact ⟨_, va_runIN ⟨X.1, X.2.1, X.2.2.1, X.2.2.2.1, X.2.2.2.2.1⟩ hmet ⟨hcb, q3, X.2.2.2.2.1 _ q2⟩ ⟨rPc_blind, rPc_at (vs := .ref b :: vs) hH X.2.2.2.2.2.2⟩ rfl hlen hl.1 hst hwr hd hf⟩
end CB
