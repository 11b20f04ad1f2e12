/-! fields, arrays, new cells -/
theorem rkn.K {SB : Nat} {ν : rV} {Cl : List vw_C} {Ty : Nat → FieldType} {St : Nat → String × String × String} {NS : Nat} {TN : List Jvm.Cond} {D : va_G} {dA : Nat → ClassId} {B : Nat} {HB : Heap × rS} {ρ : Nat → Nat} {U : State} (h : rkn SB Cl Ty St NS TN D dA B HB ρ ν U) : va_K D Cl [] U := ⟨h.1, fun k q hk => by simp at hk⟩
theorem va_P1 {D : va_G} {cl : List vw_C} {q : Nat × va_E} {H : Heap} (h : va_at D cl q H) : va_P D cl [q] H := by
  intro k x hk
  match k, hk with
  | 0, hk => cases hk; exact h
  | k + 1, hk => simp at hk
theorem vp_V_map {ν : rV} {ρ : Nat → Nat} {fs : List Value} {k : Nat} {v : Value} (h : fs[k]? = some v) : (fs.map (rg ν ρ))[k]? = some (rg ν ρ v) := by rw [List.getElem?_map, h]; rfl
section CS
variable {P : rP} {E : rE} {l : Launch} {D : va_G} {dA : Nat → ClassId} {B : Nat} {HB : Heap × rS} {ρ : Nat → Nat} {rec : rF} {μ d pc k cells slots len : Nat} {ls : rO} {st : List Value} {σ : rS} {pa : List Nat} {act : rA} {r : rR}
theorem st_getfield {x : Nat} (ht : rtab P E) (hrec : rsound P E l D dA B HB ρ rec) (hp : rpo P E μ x act) (hk : act.1 = 0 ∨ act.1 = 1) (hd : decode (E.2.1 μ) pc = .ok (.getfield x, 3)) (h : rinstr P rec μ d pc ls st σ k pa cells slots (.getfield x) len act = some r) : rgoal P E l D dA B HB ρ r μ d pc ls st σ cells slots := by
  simp only [rinstr] at h
  split at h
  · next o st =>
    obtain ⟨a, fs, v, rfl, hσ, hf, h⟩ := rget_ok h
    rw [rn_eq] at h
    unfold rpo at hp
    rcases hk with hk | hk
    · rw [hk] at hp
      obtain ⟨C, T, N, w, tag, ty, q1, q2, q3, q4, -⟩ := hp
      subst q3
      refine rread rfl (hrec _ _ _ _ _ _ _ _ _ _ _ h) fun ν hν => ⟨hν, fun p e R s m args below meth c H locs lsR Q X hH w => ?_⟩
      exact va_get X.1 X.2.1 X.2.2.2.2.1 (ht.2.2.1 _ _ _ _ q1).1 X.2.2.2.1 X.2.2.2.2.2.2.K (va_P1 (q := (ρ a, .inr (act.2.1, fs.map (rg ν ρ)))) (robj hH X.2.2.2.2.2.2 hσ)) 0 rfl q1 _ q2 (X.2.2.2.2.1 _ q4) (fun _ h => h) (vp_V_map hf) hd w
    · rw [hk] at hp
      obtain ⟨⟨C, T, N, w, tag, ty, q1, q2, ⟨host, q3⟩, q4, -⟩, -⟩ := hp
      subst q3
      refine rread rfl (hrec _ _ _ _ _ _ _ _ _ _ _ h) fun ν hν => ⟨hν, fun p e R s m args below meth c H locs lsR Q X hH w => ?_⟩
      exact va_getN X.1 X.2.1 X.2.2.2.2.1 (ht.2.2.1 _ _ _ _ q1).1 X.2.2.2.1 X.2.2.2.2.2.2.K (va_P1 (q := (ρ a, .inr (act.2.1, fs.map (rg ν ρ)))) (robj hH X.2.2.2.2.2.2 hσ)) 0 rfl q1 _ q2 (va_Nw.use rfl (X.2.2.2.2.2.2.2.2.2.2.1 _ q4).2) (fun _ h => h) (vp_V_map hf) hd w
  · cases h
/-- the object behind a store -/
theorem rcell_put {ν : rV} {H' : Heap} {a ci kf N : Nat} {C : String} {T : u_T} {fs : List Value} {v : Value} {cell : Cell} (q1 : E.2.2.2.2.1[ci]? = some (C, T, N)) (hkf : kf < N) (hl : kf < fs.length) (g2 : cell.cls = D.1 ci) (g3 : cell.vm = .none) (g4 : ∀ k, k < N → cell.slots[D.2 ci k]? = some (vp_V (fs.map (rg ν ρ)) k))
    (hap : ∀ x y, x < N → y < N → x ≠ y → (D.2 ci) x ≠ (D.2 ci) y) (e1 : H'[a]? = some (cell.setSlot (D.2 ci kf) (rg ν ρ v))) : rcell E.2.2.2.2.1 D dA ρ ν a (.inl (ci, fs.set kf v)) H' := by
  refine ⟨_, q1, t_OB.to (V := updV (vp_V (fs.map (rg ν ρ))) kf (rg ν ρ v)) ⟨_, e1, g2, g3, t_set g4 hap hkf _⟩ (fun j _ => ?_)⟩
  rw [vp_updV_set (by rw [List.length_map]; exact hl), List.map_set]
theorem st_putfield {x : Nat} (hρ : rho P.2.2.2.2.2.2.1 B ρ) (ht : rtab P E) (hrec : rsound P E l D dA B HB ρ rec) (hp : rpo P E μ x act) (hk : act.1 = 0 ∨ act.1 = 1) (hd : decode (E.2.1 μ) pc = .ok (.putfield x, 3)) (h : rinstr P rec μ d pc ls st σ k pa cells slots (.putfield x) len act = some r) : rgoal P E l D dA B HB ρ r μ d pc ls st σ cells slots := by
  simp only [rinstr] at h
  split at h
  · next v o st =>
    split at h
    · next tag htag =>
      split at h
      · next hin =>
        obtain ⟨a, fs, rfl, hσ, ha, hfit, hlf, h⟩ := rput_ok h
        rw [rn_eq] at h
        unfold rpo at hp
        rcases hk with hk | hk
        · rw [hk] at hp
          obtain ⟨C, T, N, w, tag', ty, q1, q2, q3, q4, q5, q6, q7, q8, q9⟩ := hp
          rw [htag] at q5
          cases q5
          subst q3
          obtain ⟨t1, ⟨ty0, t2, -⟩, t3, -⟩ := ht.2.2.1 _ _ _ _ q1
          refine rwrite rfl (hrec _ _ _ _ _ _ _ _ _ _ _ h) fun ν hν => ⟨hν, fun p e R s m args below meth c H locs lsR Q X hH _ _ _ hL w => ?_⟩
          have hap := va_apart (own := (E.1 μ).cls) X.2.2.2.2.1 t1 ty0 t2 t3 X.2.2.2.2.2.2.K q1
          obtain ⟨hn, hfi⟩ := rfit_ok (ν := ν) (ρ := ρ) hfit q7
          obtain ⟨r', h1, cell, g1, g2, g3, g4⟩ := robj hH X.2.2.2.2.2.2 hσ
          have hr : r' = (C, T, N) := Option.some.inj (h1.symm.trans q1)
          subst hr
          obtain ⟨hS, hfc, kC, hkC, hkind⟩ := X.2.2.2.2.2.2.1 _ _ q1
          obtain ⟨cf, kf, fi, f, hi, hsl⟩ := hS _ q2
          have hlay := X.2.2.2.2.1 _ (t1 _ (u_in_lay q2))
          have hst := (u_facts hfc hkC (u_lays X.2.2.2.2.1 t1 q2) hi).1
          unfold u_lay at hlay
          by_cases h8 : tag < 8
          · rw [if_neg (by rw [q8 h8]; decide)] at hlay
            have h6 := u_store hfc hkC hkind hlay hi q6 hn hfi
            refine W.putK X.1 X.2.1 (f := f) ⟨X.2.2.2.1, X.2.2.2.2.1 _ q4, ⟨_, _, _, hi⟩, hst⟩ (by rw [g2]; exact h6) g1 g3 (by rw [hsl]; exact k2_hasslot (g4 _ q2)) rfl rfl hd fun H' e1 e2 e3 => ?_
            rw [hsl] at e1
            refine w H' _ (rheap.set hρ hH ha e2 e3 (rcell_put q1 q2 hlf g2 g3 g4 hap e1)) (fun z hz => ?_)
            rcases List.mem_append.mp hz with hz | hz
            · exact hL z hz
            · rw [List.mem_singleton.mp hz]; exact hρ.ge ha
          · have hin2 : tag < 16 ∧ P.2.2.2.1 μ = true := by
              simp only [Bool.or_eq_true, Bool.and_eq_true] at hin
              rcases hin with z | z
              · exact absurd (show tag < 8 from Nat.le_of_ble_eq_true z) h8
              · exact ⟨Nat.le_of_ble_eq_true z.1, z.2⟩
            obtain ⟨hfin, hdecl⟩ := q9 (Nat.not_lt.mp h8) hin2.1
            rw [if_pos hfin] at hlay
            have hcf : m.cls = cf := by
              obtain ⟨_, _, c', _, _, _, -, -, hf', -, -, -, hown2, -⟩ := Cond.laysFinal_spec hlay
              have e1 : c' = cf := by have := hi.symm.trans hf'; simp at this; exact this.1.symm
              rw [hdecl] at hown2
              rw [← e1]; exact Option.some.inj (X.2.2.2.1.symm.trans hown2)
            have h6 := u_fits hfc hkC hkind (Or.inr hlay) hi q6 hn hfi
            refine W.putFinK X.1 X.2.1 X.2.2.2.1 (X.2.2.2.2.1 _ q4) hi hst hcf (X.2.2.2.2.2.1 hin2.2) (by rw [g2]; exact h6) g1 g3 (by rw [hsl]; exact k2_hasslot (g4 _ q2)) rfl rfl hd fun H' e1 e2 e3 => ?_
            rw [hsl] at e1
            refine w H' _ (rheap.set hρ hH ha e2 e3 (rcell_put q1 q2 hlf g2 g3 g4 hap e1)) (fun z hz => ?_)
            rcases List.mem_append.mp hz with hz | hz
            · exact hL z hz
            · rw [List.mem_singleton.mp hz]; exact hρ.ge ha
        · rw [hk] at hp
          obtain ⟨⟨C, T, N, w, tag', ty, q1, q2, ⟨host, q3⟩, q4, q5, q6, q7, q8, q9⟩, q10⟩ := hp
          rw [htag] at q5
          cases q5
          subst q3
          have h8 : tag < 8 := by
            simp only [Bool.or_eq_true, Bool.and_eq_true] at hin
            rcases hin with z | z
            · exact Nat.le_of_ble_eq_true z
            · have h16 : tag < 16 := Nat.le_of_ble_eq_true z.1
              rcases q10 _ htag with z | z
              · exact z
              · exact absurd h16 (Nat.not_lt.mpr z)
          obtain ⟨t1, ⟨ty0, t2, -⟩, t3, -⟩ := ht.2.2.1 _ _ _ _ q1
          refine rwrite rfl (hrec _ _ _ _ _ _ _ _ _ _ _ h) fun ν hν => ⟨hν, fun p e R s m args below meth c H locs lsR Q X hH _ _ _ hL w => ?_⟩
          have hap := va_apart (own := (E.1 μ).cls) X.2.2.2.2.1 t1 ty0 t2 t3 X.2.2.2.2.2.2.K q1
          obtain ⟨hn, hfi⟩ := rfit_ok (ν := ν) (ρ := ρ) hfit q7
          obtain ⟨r', h1, cell, g1, g2, g3, g4⟩ := robj hH X.2.2.2.2.2.2 hσ
          have hr : r' = (C, T, N) := Option.some.inj (h1.symm.trans q1)
          subst hr
          obtain ⟨hS, hfc, kC, hkC, hkind⟩ := X.2.2.2.2.2.2.1 _ _ q1
          obtain ⟨cf, kf, fi, f, hi, hsl⟩ := hS _ q2
          have hlay := X.2.2.2.2.1 _ (t1 _ (u_in_lay q2))
          have hst := (u_facts hfc hkC (u_lays X.2.2.2.2.1 t1 q2) hi).1
          unfold u_lay at hlay
          rw [if_neg (by rw [q8 h8]; decide)] at hlay
          have h6 := u_store hfc hkC hkind hlay hi q6 hn hfi
          refine va_WputK X.1 X.2.1 (f := f) X.2.2.2.1 (va_Nw.use rfl (X.2.2.2.2.2.2.2.2.2.2.1 _ q4).2) hi hst (by rw [g2]; exact h6) g1 g3 (by rw [hsl]; exact k2_hasslot (g4 _ q2)) rfl rfl hd fun H' e1 e2 e3 => ?_
          rw [hsl] at e1
          refine w H' _ (rheap.set hρ hH ha e2 e3 (rcell_put q1 q2 hlf g2 g3 g4 hap e1)) (fun z hz => ?_)
          rcases List.mem_append.mp hz with hz | hz
          · exact hL z hz
          · rw [List.mem_singleton.mp hz]; exact hρ.ge ha
      · cases h
    · cases h
  · cases h
theorem st_getstatic {x : Nat} (ht : rtab P E) (hrec : rsound P E l D dA B HB ρ rec) (hp : rpo P E μ x act) (hk : act.1 = 14 ∨ act.1 = 15) (hd : decode (E.2.1 μ) pc = .ok (.getstatic x, 3)) (h : rinstr P rec μ d pc ls st σ k pa cells slots (.getstatic x) len act = some r) : rgoal P E l D dA B HB ρ r μ d pc ls st σ cells slots := by
  simp only [rinstr, rn_eq] at h
  unfold rpo at hp
  rcases hk with hk | hk
  · rw [hk] at hp
    obtain ⟨q1, q2⟩ := hp
    refine rread rfl (hrec _ _ _ _ _ _ _ _ _ _ _ h) fun ν hν => ⟨hν, fun p e R s m args below meth c H locs lsR Q X hH w => ?_⟩
    obtain ⟨cf, kf, fi, f, a, cell, h1, h2, h3, h4, h5, h6, h7, h8⟩ := X.2.2.2.2.2.2.2.2.1 _ q1
    exact W.gets X.1 X.2.1 X.2.2.2.1 (X.2.2.2.2.1 _ q2) h1 h2 h3 h4 (by rw [hH.2.2.1 a (by omega)]; exact h5) (fun e => by rw [e] at h6; cases h6) h7 rfl hd w
  · rw [hk] at hp
    obtain ⟨q1, host, q2⟩ := hp
    refine rread rfl (hrec _ _ _ _ _ _ _ _ _ _ _ h) fun ν hν => ⟨hν, fun p e R s m args below meth c H locs lsR Q X hH w => ?_⟩
    obtain ⟨cf, kf, fi, f, a, cell, h1, h2, h3, h4, h5, h6, h7, h8⟩ := X.2.2.2.2.2.2.2.2.1 _ q1
    exact va_WgetsN X.1 X.2.1 X.2.2.2.1 (va_Nw.use rfl (X.2.2.2.2.2.2.2.2.2.2.1 _ q2).2) h1 h2 h3 h4 (by rw [hH.2.2.1 a (by omega)]; exact h5) (fun e => by rw [e] at h6; cases h6) h7 rfl hd w
theorem rlocsOk {locs : List Loc} {a j : Nat} (hL : ∀ q ∈ locs, B ≤ q.base) (ha : B ≤ a) : ∀ q ∈ locs ++ [⟨a, j⟩], B ≤ q.base := by
  intro z hz
  rcases List.mem_append.mp hz with hz | hz
  · exact hL z hz
  · rw [List.mem_singleton.mp hz]; exact ha
theorem rarr {ν : rV} {H : Heap} {s : State} {a t n : Nat} {dv : Value} {ov : rO} (hK : rkn P.2.2.2.2.2.2.1 E.2.2.2.2.1 E.2.2.2.2.2.2.1 E.2.2.2.2.2.2.2.1 E.2.2.2.2.2.2.2.2.1 E.2.2.2.2.2.2.2.2.2 D dA B HB ρ ν s) (ht : t < 8) : s.isArrayOf (arrV (dA t) n (fun j => rg ν ρ (rlk ov dv j))) (E.2.2.2.2.2.2.1 t) := (hK.2.1 t ht).1 n _
theorem rcell_ast {ν : rV} {H' : Heap} {a t n x : Nat} {dv v : Value} {ov : rO} (e1 : H'[a]? = some ((arrV (dA t) n (fun j => rg ν ρ (rlk ov dv j))).setSlot x (rg ν ρ v))) : rcell E.2.2.2.2.1 D dA ρ ν a (.inr (t, n, dv, rup ov x v)) H' := by
  show H'[a]? = some (arrV (dA t) n (fun j => rg ν ρ (rlk (rup ov x v) dv j)))
  rw [e1, arrV_store]
  congr 2
  funext j
  rw [rlk_rup]
  unfold updV
  split <;> rfl
theorem st_iaload (ht : rtab P E) (hrec : rsound P E l D dA B HB ρ rec) (hd : decode (E.2.1 μ) pc = .ok (.iaload, 1)) (h : rinstr P rec μ d pc ls st σ k pa cells slots .iaload len act = some r) : rgoal P E l D dA B HB ρ r μ d pc ls st σ cells slots := by
  simp only [rinstr] at h
  split at h
  · next i o st =>
    obtain ⟨a, q, j, rfl, hσ, rfl, hin, h⟩ := rplace_ok h
    obtain ⟨t, n, dv, ov⟩ := q
    split at h
    · next hb =>
      have hb : t = 1 := Nat.eq_of_beq_eq_true hb
      subst hb
      try dsimp only at h
      split at h
      · next hv =>
        obtain ⟨z, pa', r', h, h2, h3, h4⟩ := rconc_ok hv h
        rw [rn_eq] at h
        refine rread h2 (hrec _ _ _ _ _ _ _ _ _ _ _ h) fun ν hν => ⟨(h4 ν hν).1, fun p e R s m args below meth c H locs lsR Q X hH w => ?_⟩
        obtain ⟨cell, t1, t2, t3, t4, t5, t6, -⟩ := rarrT hH X.2.2.2.2.2.2 hσ (by decide)
        rw [ht.2.2.2.1.2.1] at t2
        rw [List.map_cons, rg_i h3, (h4 ν hν).2, ← rg_i (ρ := ρ) hv] at w
        exact W.iald X.1 X.2.1 t1 t2 t3 (fun q => hin (q.imp id (fun q => Nat.le_trans t4 q))) (t6 _ (Nat.not_le.mp fun q => hin (Or.inr q))) rfl rfl hd w
      · cases h
    · cases h
  · cases h
theorem st_baload (ht : rtab P E) (hrec : rsound P E l D dA B HB ρ rec) (hd : decode (E.2.1 μ) pc = .ok (.baload, 1)) (h : rinstr P rec μ d pc ls st σ k pa cells slots .baload len act = some r) : rgoal P E l D dA B HB ρ r μ d pc ls st σ cells slots := by
  simp only [rinstr] at h
  split at h
  · next i o st =>
    split at h
    · obtain ⟨a, q, j, rfl, hσ, rfl, hin, h⟩ := rplace_ok h
      obtain ⟨t, n, dv, ov⟩ := q
      split at h
      · next hb =>
        have hb : t = 0 := Nat.eq_of_beq_eq_true hb
        subst hb
        try dsimp only at h
        split at h
        · next hv =>
          try dsimp only at h
          try dsimp only at h
          rw [rn_eq] at h
          refine rread rfl (hrec _ _ _ _ _ _ _ _ _ _ _ h) fun ν hν => ⟨hν, fun p e R s m args below meth c H locs lsR Q X hH w => ?_⟩
          obtain ⟨cell, t1, t2, t3, t4, t5, t6, -⟩ := rarrT hH X.2.2.2.2.2.2 hσ (by decide)
          rw [ht.2.2.2.1.1] at t2
          exact W.bald X.1 X.2.1 t1 t2 t3 (fun q => hin (q.imp id (fun q => Nat.le_trans t4 q))) (t6 _ (Nat.not_le.mp fun q => hin (Or.inr q))) rfl rfl hd w
        · cases h
      · cases h
    · obtain ⟨a, q, j, rfl, hσ, rfl, hin, h⟩ := rplace_ok h
      obtain ⟨t, n, dv, ov⟩ := q
      split at h
      · next hb =>
        have hb : t = 3 := Nat.eq_of_beq_eq_true hb
        subst hb
        try dsimp only at h
        split at h
        · next hv =>
          try dsimp only at h
          try dsimp only at h
          rw [rn_eq] at h
          refine rread rfl (hrec _ _ _ _ _ _ _ _ _ _ _ h) fun ν hν => ⟨hν, fun p e R s m args below meth c H locs lsR Q X hH w => ?_⟩
          obtain ⟨cell, t1, t2, t3, t4, t5, t6, -⟩ := rarrT hH X.2.2.2.2.2.2 hσ (by decide)
          rw [ht.2.2.2.1.2.2.2.1] at t2
          exact W.zald X.1 X.2.1 t1 t2 t3 (fun q => hin (q.imp id (fun q => Nat.le_trans t4 q))) (t6 _ (Nat.not_le.mp fun q => hin (Or.inr q))) rfl rfl hd w
        · cases h
      · cases h
  · cases h
theorem st_laload (ht : rtab P E) (hrec : rsound P E l D dA B HB ρ rec) (hd : decode (E.2.1 μ) pc = .ok (.laload, 1)) (h : rinstr P rec μ d pc ls st σ k pa cells slots .laload len act = some r) : rgoal P E l D dA B HB ρ r μ d pc ls st σ cells slots := by
  simp only [rinstr] at h
  split at h
  · next i o st =>
    obtain ⟨a, q, j, rfl, hσ, rfl, hin, h⟩ := rplace_ok h
    obtain ⟨t, n, dv, ov⟩ := q
    split at h
    · next hb =>
      have hb : t = 2 := Nat.eq_of_beq_eq_true hb
      subst hb
      try dsimp only at h
      split at h
      · next hv =>
        try dsimp only at h
        try dsimp only at h
        rw [rn_eq] at h
        refine rread rfl (hrec _ _ _ _ _ _ _ _ _ _ _ h) fun ν hν => ⟨hν, fun p e R s m args below meth c H locs lsR Q X hH w => ?_⟩
        obtain ⟨cell, t1, t2, t3, t4, t5, t6, -⟩ := rarrT hH X.2.2.2.2.2.2 hσ (by decide)
        rw [ht.2.2.2.1.2.2.1] at t2
        exact W.lald X.1 X.2.1 t1 t2 t3 (fun q => hin (q.imp id (fun q => Nat.le_trans t4 q))) (t6 _ (Nat.not_le.mp fun q => hin (Or.inr q))) rfl rfl hd w
      · cases h
    · cases h
  · cases h
theorem rTyR (ht : rtab P E) {t : Nat} (h4 : 4 ≤ t) (h8 : t < 8) : (E.2.2.2.2.2.2.1 t).isReference = true := by
  by_cases h7 : t = 7
  · subst h7
    rw [ht.2.2.2.1.2.2.2.2.1]
    rfl
  · obtain ⟨q, -, h⟩ := ht.2.2.2.1.2.2.2.2.2 t h4 (by omega)
    rw [h]
    rfl
theorem st_aaload (ht : rtab P E) (hrec : rsound P E l D dA B HB ρ rec) (hd : decode (E.2.1 μ) pc = .ok (.aaload, 1)) (h : rinstr P rec μ d pc ls st σ k pa cells slots .aaload len act = some r) : rgoal P E l D dA B HB ρ r μ d pc ls st σ cells slots := by
  simp only [rinstr] at h
  split at h
  · next i o st =>
    obtain ⟨a, q, j, rfl, hσ, rfl, hin, h⟩ := rplace_ok h
    obtain ⟨t, n, dv, ov⟩ := q
    split at h
    · next hb =>
      simp only [Bool.and_eq_true] at hb
      have h4 : 4 ≤ t := Nat.le_of_ble_eq_true hb.1
      have h8 : t < 8 := Nat.le_of_ble_eq_true hb.2
      try dsimp only at h
      split at h
      · next hv =>
        try dsimp only at h
        try dsimp only at h
        rw [rn_eq] at h
        refine rread rfl (hrec _ _ _ _ _ _ _ _ _ _ _ h) fun ν hν => ⟨hν, fun p e R s m args below meth c H locs lsR Q X hH w => ?_⟩
        obtain ⟨cell, t1, t2, t3, t4, t5, t6, -⟩ := rarrT hH X.2.2.2.2.2.2 hσ h8
        exact W.aald X.1 X.2.1 t1 t2 (rTyR ht h4 h8) t3 (fun q => hin (q.imp id (fun q => Nat.le_trans t4 q))) (t6 _ (Nat.not_le.mp fun q => hin (Or.inr q))) rfl rfl hd w
      · cases h
    · cases h
  · cases h
theorem st_arraylength (ht : rtab P E) (hrec : rsound P E l D dA B HB ρ rec) (hd : decode (E.2.1 μ) pc = .ok (.arraylength, 1)) (h : rinstr P rec μ d pc ls st σ k pa cells slots .arraylength len act = some r) : rgoal P E l D dA B HB ρ r μ d pc ls st σ cells slots := by
  simp only [rinstr] at h
  split at h
  · next a st =>
    split at h
    · next q hq =>
      rw [rat_eq] at hq
      obtain ⟨t, n, dv, ov⟩ := q
      split at h
      · next hb =>
        simp only [Bool.and_eq_true] at hb
        have h8 : t < 8 := Nat.le_of_ble_eq_true hb.2
        try dsimp only at h
        rw [rn_eq] at h
        refine rread rfl (hrec _ _ _ _ _ _ _ _ _ _ _ h) fun ν hν => ⟨hν, fun p e R s m args below meth c H locs lsR Q X hH w => ?_⟩
        obtain ⟨cell, t1, t2, t3, t4, t5, t6, -⟩ := rarrT hH X.2.2.2.2.2.2 hq h8
        exact W.alen (n := Int32.ofNat n) X.1 X.2.1 t1 t2 t5 rfl rfl hd w
      · cases h
    · cases h
  · cases h
theorem st_iastore (hρ : rho P.2.2.2.2.2.2.1 B ρ) (ht : rtab P E) (hrec : rsound P E l D dA B HB ρ rec) (hd : decode (E.2.1 μ) pc = .ok (.iastore, 1)) (h : rinstr P rec μ d pc ls st σ k pa cells slots .iastore len act = some r) : rgoal P E l D dA B HB ρ r μ d pc ls st σ cells slots := by
  simp only [rinstr] at h
  split at h
  · next v i o st =>
    obtain ⟨a, q, j, rfl, hσ, rfl, hin, h⟩ := rplace_ok h
    simp only [rstl_eq] at h
    obtain ⟨t, n, dv, ov⟩ := q
    split at h
    · next hb =>
      simp only [Bool.and_eq_true] at hb
      have hb1 : t = 1 := Nat.eq_of_beq_eq_true hb.1
      have ha := Nat.le_of_ble_eq_true hb.2.1
      have hv : risI v = true := hb.2.2
      subst hb1
      try dsimp only at h
      rw [rn_eq] at h
      refine rwrite rfl (hrec _ _ _ _ _ _ _ _ _ _ _ h) fun ν hν => ⟨hν, fun p e R s m args below meth c H locs lsR Q X hH _ _ _ hL w => ?_⟩
      have hA := rarr (ν := ν) (H := H) (a := a) (n := n) (dv := dv) (ov := ov) X.2.2.2.2.2.2 (show 1 < 8 by decide)
      rw [ht.2.2.2.1.2.1] at hA
      rw [List.map_cons, rg_i hv]
      refine W.iast X.1 X.2.1 (hH.2.2.2.1 a _ ha hσ) hA (fun q => by cases q) (by rw [arrV_size]; exact hin) rfl rfl hd fun H1 e1 e2 e3 => ?_
      rw [← rg_i (ρ := ρ) hv] at e1
      exact w H1 _ (rheap.set hρ hH ha e2 e3 (rcell_ast e1)) (rlocsOk hL (hρ.ge ha))
    · cases h
  · cases h
theorem st_lastore (hρ : rho P.2.2.2.2.2.2.1 B ρ) (ht : rtab P E) (hrec : rsound P E l D dA B HB ρ rec) (hd : decode (E.2.1 μ) pc = .ok (.lastore, 1)) (h : rinstr P rec μ d pc ls st σ k pa cells slots .lastore len act = some r) : rgoal P E l D dA B HB ρ r μ d pc ls st σ cells slots := by
  simp only [rinstr] at h
  split at h
  · next v i o st =>
    obtain ⟨a, q, j, rfl, hσ, rfl, hin, h⟩ := rplace_ok h
    simp only [rstl_eq] at h
    obtain ⟨t, n, dv, ov⟩ := q
    split at h
    · next hb =>
      simp only [Bool.and_eq_true] at hb
      have hb1 : t = 2 := Nat.eq_of_beq_eq_true hb.1
      have ha := Nat.le_of_ble_eq_true hb.2.1
      have hv : risL v = true := hb.2.2
      subst hb1
      try dsimp only at h
      rw [rn_eq] at h
      refine rwrite rfl (hrec _ _ _ _ _ _ _ _ _ _ _ h) fun ν hν => ⟨hν, fun p e R s m args below meth c H locs lsR Q X hH _ _ _ hL w => ?_⟩
      have hA := rarr (ν := ν) (H := H) (a := a) (n := n) (dv := dv) (ov := ov) X.2.2.2.2.2.2 (show 2 < 8 by decide)
      rw [ht.2.2.2.1.2.2.1] at hA
      rw [List.map_cons, rg_l hv]
      refine W.last X.1 X.2.1 (hH.2.2.2.1 a _ ha hσ) hA (fun q => by cases q) (by rw [arrV_size]; exact hin) rfl rfl hd fun H1 e1 e2 e3 => ?_
      rw [← rg_l (ρ := ρ) hv] at e1
      exact w H1 _ (rheap.set hρ hH ha e2 e3 (rcell_ast e1)) (rlocsOk hL (hρ.ge ha))
    · cases h
  · cases h
theorem st_bastore (hρ : rho P.2.2.2.2.2.2.1 B ρ) (ht : rtab P E) (hrec : rsound P E l D dA B HB ρ rec) (hd : decode (E.2.1 μ) pc = .ok (.bastore, 1)) (h : rinstr P rec μ d pc ls st σ k pa cells slots .bastore len act = some r) : rgoal P E l D dA B HB ρ r μ d pc ls st σ cells slots := by
  simp only [rinstr] at h
  split at h
  · next v0 i o st =>
    split at h
    · obtain ⟨b1, v, k', r', h, h2, hv, h4⟩ := runi_ok h
      obtain ⟨a, q, j, rfl, hσ, rfl, hin, h⟩ := rplace_ok h
      simp only [rstl_eq] at h
      obtain ⟨t, n, dv, ov⟩ := q
      split at h
      · next hb =>
        simp only [Bool.and_eq_true] at hb
        have hb1 : t = 0 := Nat.eq_of_beq_eq_true hb.1
        have ha := Nat.le_of_ble_eq_true hb.2.1
        subst hb1
        try dsimp only at h
        rw [rn_eq] at h
        refine rwrite h2 (hrec _ _ _ _ _ _ _ _ _ _ _ h) fun ν hν => ⟨(h4 ν hν).1, fun p e R s m args below meth c H locs lsR Q X hH _ _ _ hL w => ?_⟩
        have hA := rarr (ν := ν) (H := H) (a := a) (n := n) (dv := dv) (ov := ov) X.2.2.2.2.2.2 (show 0 < 8 by decide)
        rw [ht.2.2.2.1.1] at hA
        rw [List.map_cons, rg_i b1]
        refine W.bast X.1 X.2.1 (hH.2.2.2.1 a _ ha hσ) hA (fun q => by cases q) (by rw [arrV_size]; exact hin) rfl rfl hd fun H1 e1 e2 e3 => ?_
        have h5 : rg ν ρ v = narrow .byte (.int (ri ν v0)) := by
          rw [rg_i hv, (h4 ν hν).2]
          rfl
        rw [← h5] at e1
        exact w H1 _ (rheap.set hρ hH ha e2 e3 (rcell_ast e1)) (rlocsOk hL (hρ.ge ha))
      · cases h
    · obtain ⟨a, q, j, rfl, hσ, rfl, hin, h⟩ := rplace_ok h
      simp only [rstl_eq] at h
      obtain ⟨t, n, dv, ov⟩ := q
      split at h
      · next hb =>
        simp only [Bool.and_eq_true] at hb
        have hb1 : t = 3 := Nat.eq_of_beq_eq_true hb.1
        have ha := Nat.le_of_ble_eq_true hb.2.1
        have hv : rbool v0 = true := hb.2.2
        subst hb1
        try dsimp only at h
        rw [rn_eq] at h
        cases v0 with
        | int x =>
          have hx : x = 0 ∨ x = 1 := by
            have hv : (decide (x = 0) || decide (x = 1)) = true := hv
            rw [Bool.or_eq_true, decide_eq_true_eq, decide_eq_true_eq] at hv
            exact hv
          have h5 : narrow .boolean (.int x) = .int x := by
            rcases hx with rfl | rfl <;> rfl
          refine rwrite rfl (hrec _ _ _ _ _ _ _ _ _ _ _ h) fun ν hν => ⟨hν, fun p e R s m args below meth c H locs lsR Q X hH _ _ _ hL w => ?_⟩
          have hA := rarr (ν := ν) (H := H) (a := a) (n := n) (dv := dv) (ov := ov) X.2.2.2.2.2.2 (show 3 < 8 by decide)
          rw [ht.2.2.2.1.2.2.2.1] at hA
          refine W.zast X.1 X.2.1 (hH.2.2.2.1 a _ ha hσ) hA (fun q => by cases q) (by rw [arrV_size]; exact hin) rfl rfl hd fun H1 e1 e2 e3 => ?_
          rw [h5] at e1
          exact w H1 _ (rheap.set hρ hH ha e2 e3 (rcell_ast (v := .int x) e1)) (rlocsOk hL (hρ.ge ha))
        | _ => cases hv
      · cases h
  · cases h
theorem st_aastore (hρ : rho P.2.2.2.2.2.2.1 B ρ) (ht : rtab P E) (hrec : rsound P E l D dA B HB ρ rec) (hd : decode (E.2.1 μ) pc = .ok (.aastore, 1)) (h : rinstr P rec μ d pc ls st σ k pa cells slots .aastore len act = some r) : rgoal P E l D dA B HB ρ r μ d pc ls st σ cells slots := by
  simp only [rinstr] at h
  split at h
  · next v i o st =>
    obtain ⟨a, q, j, rfl, hσ, rfl, hin, h⟩ := rplace_ok h
    simp only [rstl_eq] at h
    obtain ⟨t, n, dv, ov⟩ := q
    split at h
    · next hb =>
      simp only [Bool.and_eq_true] at hb
      obtain ⟨hb1, hb2, hb3, hb4⟩ := hb
      have h4 : 4 ≤ t := Nat.le_of_ble_eq_true hb1
      have h7 : t < 7 := Nat.le_of_ble_eq_true hb2
      have ha := Nat.le_of_ble_eq_true hb3
      try dsimp only at h
      rw [rn_eq] at h
      obtain ⟨qc, hqc, hty⟩ := ht.2.2.2.1.2.2.2.2.2 t h4 h7
      refine rwrite rfl (hrec _ _ _ _ _ _ _ _ _ _ _ h) fun ν hν => ⟨hν, fun p e R s m args below meth c H locs lsR Q X hH _ _ _ hL w => ?_⟩
      have hA := rarr (ν := ν) (H := H) (a := a) (n := n) (dv := dv) (ov := ov) X.2.2.2.2.2.2 (show t < 8 by omega)
      rw [hty] at hA
      have hlt : j.toNatClampNeg < n := Nat.not_le.mp fun q => hin (Or.inr q)
      have h0 : ¬ j < 0 := fun q => hin (Or.inl q)
      cases v with
      | null =>
        refine va_WaastN X.1 X.2.1 (hH.2.2.2.1 a _ ha hσ) hA (fun q => by cases q) (by rw [arrV_size]; exact hin) rfl rfl hd fun H1 e1 e2 e3 => ?_
        exact w H1 _ (rheap.set hρ hH ha e2 e3 (rcell_ast (v := .null) e1)) (rlocsOk hL (hρ.ge ha))
      | ref b =>
        simp only [rkin] at hb4
        split at hb4
        · next q hq =>
          rw [rat_eq] at hq
          obtain ⟨ci, fs⟩ := q
          have hci : ci = P.2.2.2.2.2.1 t := Nat.eq_of_beq_eq_true hb4
          subst hci
          obtain ⟨r', h1, cell, g1, g2, g3, g4⟩ := robj hH X.2.2.2.2.2.2 hq
          have hcls := (X.2.2.2.2.2.2.1 _ _ hqc).2
          obtain ⟨kA, comp, k1, k2, k3, -⟩ := (show va_RA s (dA t) (.object qc.1) by rw [← hty]; exact (X.2.2.2.2.2.2.2.1 t (by omega)).2)
          have hcomp : comp = D.1 (P.2.2.2.2.2.1 t) := Option.some.inj (k3.symm.trans hcls.1)
          subst hcomp
          obtain ⟨kC, hkC, -⟩ := hcls.2
          refine W.aast X.1 X.2.1 (hH.2.2.2.1 a _ ha hσ) (fun q h => by cases h) (fun h => by cases h) k1 k2 rfl hkC ⟨h0, by rw [arrV_size]; exact hlt⟩ g1 (fun q h => by rw [g3] at h; cases h) (by rw [g2]; exact hkC) (by rw [g2]; exact va_assign hcls) rfl rfl hd fun H1 e1 e2 e3 => ?_
          exact w H1 _ (rheap.set hρ hH ha e2 e3 (rcell_ast (v := .ref b) e1)) (rlocsOk hL (hρ.ge ha))
        · cases hb4
      | _ => cases hb4
    · cases h
  · cases h
end CS
