/-! the steps, an instruction each -/
theorem rne_t {x y : Int32} (h : rcmp 1 x y = true) : ¬ x = y := by
  simp only [rcmp, Bool.not_eq_true', decide_eq_false_iff_not] at h
  exact h
theorem rne_f {x y : Int32} (h : rcmp 1 x y = false) : x = y := by
  simp only [rcmp, Bool.not_eq_false', decide_eq_true_eq] at h
  exact h
section ST
variable {P : rP} {E : rE} {l : Launch} {D : va_G} {dA : Nat → ClassId} {B : Nat} {HB : Heap × rS} {ρ : Nat → Nat} {rec : rF} {μ d pc k cells slots len : Nat} {ls : rO} {st : List Value} {σ : rS} {pa : List Nat} {act : rA} {r : rR}

theorem st_iconst {n : Int} (hrec : rsound P E l D dA B HB ρ rec) (hd : decode (E.2.1 μ) pc = .ok (.iconst n, 1)) (h : rinstr P rec μ d pc ls st σ k pa cells slots (.iconst n) len act = some r) : rgoal P E l D dA B HB ρ r μ d pc ls st σ cells slots := by
  simp only [rinstr, rci_eq, rn_eq] at h
  exact rpure rfl (hrec _ _ _ _ _ _ _ _ _ _ _ h) fun ν hν => ⟨hν, fun p e R s m args below meth c H locs lsR Q C hl _ _ w => lv_iconst C.1 C.2.1 hd rfl w⟩

theorem st_bipush {n : Int} (hrec : rsound P E l D dA B HB ρ rec) (hd : decode (E.2.1 μ) pc = .ok (.bipush n, 2)) (h : rinstr P rec μ d pc ls st σ k pa cells slots (.bipush n) len act = some r) : rgoal P E l D dA B HB ρ r μ d pc ls st σ cells slots := by
  simp only [rinstr, rci_eq, rn_eq] at h
  exact rpure rfl (hrec _ _ _ _ _ _ _ _ _ _ _ h) fun ν hν => ⟨hν, fun p e R s m args below meth c H locs lsR Q C hl _ _ w => lv_bipush C.1 C.2.1 hd rfl w⟩

theorem st_sipush {n : Int} (hrec : rsound P E l D dA B HB ρ rec) (hd : decode (E.2.1 μ) pc = .ok (.sipush n, 3)) (h : rinstr P rec μ d pc ls st σ k pa cells slots (.sipush n) len act = some r) : rgoal P E l D dA B HB ρ r μ d pc ls st σ cells slots := by
  simp only [rinstr, rci_eq, rn_eq] at h
  exact rpure rfl (hrec _ _ _ _ _ _ _ _ _ _ _ h) fun ν hν => ⟨hν, fun p e R s m args below meth c H locs lsR Q C hl _ _ w => lv_sipush C.1 C.2.1 hd rfl w⟩

theorem st_lconst {n : Fin 2} (hrec : rsound P E l D dA B HB ρ rec) (hd : decode (E.2.1 μ) pc = .ok (.lconst n, 1)) (h : rinstr P rec μ d pc ls st σ k pa cells slots (.lconst n) len act = some r) : rgoal P E l D dA B HB ρ r μ d pc ls st σ cells slots := by
  simp only [rinstr, rcl_eq, rn_eq] at h
  exact rpure rfl (hrec _ _ _ _ _ _ _ _ _ _ _ h) fun ν hν => ⟨hν, fun p e R s m args below meth c H locs lsR Q C hl _ _ w => lv_lconst C.1 C.2.1 hd rfl w⟩

theorem st_null (hrec : rsound P E l D dA B HB ρ rec) (hd : decode (E.2.1 μ) pc = .ok (.aconst_null, 1)) (h : rinstr P rec μ d pc ls st σ k pa cells slots (.aconst_null) len act = some r) : rgoal P E l D dA B HB ρ r μ d pc ls st σ cells slots := by
  simp only [rinstr, rn_eq] at h
  exact rpure rfl (hrec _ _ _ _ _ _ _ _ _ _ _ h) fun ν hν => ⟨hν, fun p e R s m args below meth c H locs lsR Q C hl _ _ w => lv_null C.1 C.2.1 hd w⟩

theorem st_iload {n : Nat} (hrec : rsound P E l D dA B HB ρ rec) (hd : decode (E.2.1 μ) pc = .ok (.iload n, 2)) (h : rinstr P rec μ d pc ls st σ k pa cells slots (.iload n) len act = some r) : rgoal P E l D dA B HB ρ r μ d pc ls st σ cells slots := by
  simp only [rinstr] at h
  obtain ⟨v, hm, hv, h⟩ := rload_ok h
  rw [rn_eq] at h
  refine rpure rfl (hrec _ _ _ _ _ _ _ _ _ _ _ h) fun ν hν => ⟨hν, fun p e R s m args below meth c H locs lsR Q C hl _ _ w => ?_⟩
  have hm := rgl_mem (ρ := ρ) (ν := ν) hm
  rw [List.map_cons, rg_i hv] at w
  rw [rg_i hv] at hm
  exact lv_iload C.1 C.2.1 hd (lv_atm hl hm) w

theorem st_iload_n {n : Fin 4} (hrec : rsound P E l D dA B HB ρ rec) (hd : decode (E.2.1 μ) pc = .ok (.iload_n n, 1)) (h : rinstr P rec μ d pc ls st σ k pa cells slots (.iload_n n) len act = some r) : rgoal P E l D dA B HB ρ r μ d pc ls st σ cells slots := by
  simp only [rinstr] at h
  obtain ⟨v, hm, hv, h⟩ := rload_ok h
  rw [rn_eq] at h
  refine rpure rfl (hrec _ _ _ _ _ _ _ _ _ _ _ h) fun ν hν => ⟨hν, fun p e R s m args below meth c H locs lsR Q C hl _ _ w => ?_⟩
  have hm := rgl_mem (ρ := ρ) (ν := ν) hm
  rw [List.map_cons, rg_i hv] at w
  rw [rg_i hv] at hm
  exact lv_iload_n C.1 C.2.1 hd rfl (lv_atm hl hm) w

theorem st_lload {n : Nat} (hrec : rsound P E l D dA B HB ρ rec) (hd : decode (E.2.1 μ) pc = .ok (.lload n, 2)) (h : rinstr P rec μ d pc ls st σ k pa cells slots (.lload n) len act = some r) : rgoal P E l D dA B HB ρ r μ d pc ls st σ cells slots := by
  simp only [rinstr] at h
  obtain ⟨v, hm, hv, h⟩ := rload_ok h
  rw [rn_eq] at h
  refine rpure rfl (hrec _ _ _ _ _ _ _ _ _ _ _ h) fun ν hν => ⟨hν, fun p e R s m args below meth c H locs lsR Q C hl _ _ w => ?_⟩
  have hm := rgl_mem (ρ := ρ) (ν := ν) hm
  rw [List.map_cons, rg_l hv] at w
  rw [rg_l hv] at hm
  exact lv_lload C.1 C.2.1 hd (lv_atm hl hm) w

theorem st_lload_n {n : Fin 4} (hrec : rsound P E l D dA B HB ρ rec) (hd : decode (E.2.1 μ) pc = .ok (.lload_n n, 1)) (h : rinstr P rec μ d pc ls st σ k pa cells slots (.lload_n n) len act = some r) : rgoal P E l D dA B HB ρ r μ d pc ls st σ cells slots := by
  simp only [rinstr] at h
  obtain ⟨v, hm, hv, h⟩ := rload_ok h
  rw [rn_eq] at h
  refine rpure rfl (hrec _ _ _ _ _ _ _ _ _ _ _ h) fun ν hν => ⟨hν, fun p e R s m args below meth c H locs lsR Q C hl _ _ w => ?_⟩
  have hm := rgl_mem (ρ := ρ) (ν := ν) hm
  rw [List.map_cons, rg_l hv] at w
  rw [rg_l hv] at hm
  exact lv_lload_n C.1 C.2.1 hd rfl (lv_atm hl hm) w

theorem st_aload {n : Nat} (hrec : rsound P E l D dA B HB ρ rec) (hd : decode (E.2.1 μ) pc = .ok (.aload n, 2)) (h : rinstr P rec μ d pc ls st σ k pa cells slots (.aload n) len act = some r) : rgoal P E l D dA B HB ρ r μ d pc ls st σ cells slots := by
  simp only [rinstr] at h
  obtain ⟨v, hm, hv, h⟩ := rload_ok h
  rw [rn_eq] at h
  refine rpure rfl (hrec _ _ _ _ _ _ _ _ _ _ _ h) fun ν hν => ⟨hν, fun p e R s m args below meth c H locs lsR Q C hl _ _ w => ?_⟩
  have hm := rgl_mem (ρ := ρ) (ν := ν) hm
  cases v with
  | ref a => exact lv_aload C.1 C.2.1 hd (lv_atm hl hm) w
  | null => exact lv_aloadN C.1 C.2.1 hd (lv_atm hl hm) w
  | _ => simp [risR] at hv

theorem st_aload_n {n : Fin 4} (hrec : rsound P E l D dA B HB ρ rec) (hd : decode (E.2.1 μ) pc = .ok (.aload_n n, 1)) (h : rinstr P rec μ d pc ls st σ k pa cells slots (.aload_n n) len act = some r) : rgoal P E l D dA B HB ρ r μ d pc ls st σ cells slots := by
  simp only [rinstr] at h
  obtain ⟨v, hm, hv, h⟩ := rload_ok h
  rw [rn_eq] at h
  refine rpure rfl (hrec _ _ _ _ _ _ _ _ _ _ _ h) fun ν hν => ⟨hν, fun p e R s m args below meth c H locs lsR Q C hl _ _ w => ?_⟩
  have hm := rgl_mem (ρ := ρ) (ν := ν) hm
  cases v with
  | ref a => exact lv_aload_n C.1 C.2.1 hd rfl (lv_atm hl hm) w
  | null => exact lv_aload_nN C.1 C.2.1 hd rfl (lv_atm hl hm) w
  | _ => simp [risR] at hv

theorem st_istore {n : Nat} (hrec : rsound P E l D dA B HB ρ rec) (hd : decode (E.2.1 μ) pc = .ok (.istore n, 2)) (hn : (n : Nat) < P.2.1 μ) (h : rinstr P rec μ d pc ls st σ k pa cells slots (.istore n) len act = some r) : rgoal P E l D dA B HB ρ r μ d pc ls st σ cells slots := by
  simp only [rinstr] at h
  split at h
  · next v st =>
    split at h
    · next hb =>
      rw [rn_eq] at h
      refine rlocal rfl (hrec _ _ _ _ _ _ _ _ _ _ _ h) fun ν hν => ⟨hν, fun p e R s m args below meth c H locs lsR Q C hl w => ?_⟩
      rw [List.map_cons, rg_i hb]
      exact lv_istore C.1 C.2.1 hd hl hn (by rw [← rg_i hb]; exact rgl_set) w
    · cases h
  · cases h

theorem st_istore_n {n : Fin 4} (hrec : rsound P E l D dA B HB ρ rec) (hd : decode (E.2.1 μ) pc = .ok (.istore_n n, 1)) (hn : (n : Nat) < P.2.1 μ) (h : rinstr P rec μ d pc ls st σ k pa cells slots (.istore_n n) len act = some r) : rgoal P E l D dA B HB ρ r μ d pc ls st σ cells slots := by
  simp only [rinstr] at h
  split at h
  · next v st =>
    split at h
    · next hb =>
      rw [rn_eq] at h
      refine rlocal rfl (hrec _ _ _ _ _ _ _ _ _ _ _ h) fun ν hν => ⟨hν, fun p e R s m args below meth c H locs lsR Q C hl w => ?_⟩
      rw [List.map_cons, rg_i hb]
      exact lv_istore_n C.1 C.2.1 hd rfl hl hn (by rw [← rg_i hb]; exact rgl_set) w
    · cases h
  · cases h

theorem st_lstore {n : Nat} (hrec : rsound P E l D dA B HB ρ rec) (hd : decode (E.2.1 μ) pc = .ok (.lstore n, 2)) (hn : (n : Nat) + 1 < P.2.1 μ) (h : rinstr P rec μ d pc ls st σ k pa cells slots (.lstore n) len act = some r) : rgoal P E l D dA B HB ρ r μ d pc ls st σ cells slots := by
  simp only [rinstr] at h
  split at h
  · next v st =>
    split at h
    · next hb =>
      rw [rn_eq] at h
      refine rlocal rfl (hrec _ _ _ _ _ _ _ _ _ _ _ h) fun ν hν => ⟨hν, fun p e R s m args below meth c H locs lsR Q C hl w => ?_⟩
      rw [List.map_cons, rg_l hb]
      exact lv_lstore C.1 C.2.1 hd hl hn (by rw [← rg_l hb]; exact rgl_set2) w
    · cases h
  · cases h

theorem st_lstore_n {n : Fin 4} (hrec : rsound P E l D dA B HB ρ rec) (hd : decode (E.2.1 μ) pc = .ok (.lstore_n n, 1)) (hn : (n : Nat) + 1 < P.2.1 μ) (h : rinstr P rec μ d pc ls st σ k pa cells slots (.lstore_n n) len act = some r) : rgoal P E l D dA B HB ρ r μ d pc ls st σ cells slots := by
  simp only [rinstr] at h
  split at h
  · next v st =>
    split at h
    · next hb =>
      rw [rn_eq] at h
      refine rlocal rfl (hrec _ _ _ _ _ _ _ _ _ _ _ h) fun ν hν => ⟨hν, fun p e R s m args below meth c H locs lsR Q C hl w => ?_⟩
      rw [List.map_cons, rg_l hb]
      exact lv_lstore_n C.1 C.2.1 hd rfl hl hn (by rw [← rg_l hb]; exact rgl_set2) w
    · cases h
  · cases h

theorem st_astore {n : Nat} (hrec : rsound P E l D dA B HB ρ rec) (hd : decode (E.2.1 μ) pc = .ok (.astore n, 2)) (hn : (n : Nat) < P.2.1 μ) (h : rinstr P rec μ d pc ls st σ k pa cells slots (.astore n) len act = some r) : rgoal P E l D dA B HB ρ r μ d pc ls st σ cells slots := by
  simp only [rinstr] at h
  split at h
  · next a st =>
    rw [rn_eq] at h
    exact rlocal rfl (hrec _ _ _ _ _ _ _ _ _ _ _ h) fun ν hν => ⟨hν, fun p e R s m args below meth c H locs lsR Q C hl w => lv_astore C.1 C.2.1 hd hl hn (rgl_set (v := .ref a)) w⟩
  · next st =>
    rw [rn_eq] at h
    exact rlocal rfl (hrec _ _ _ _ _ _ _ _ _ _ _ h) fun ν hν => ⟨hν, fun p e R s m args below meth c H locs lsR Q C hl w => lv_astoreN C.1 C.2.1 hd hl hn (rgl_set (v := .null)) w⟩
  · cases h

theorem st_astore_n {n : Fin 4} (hrec : rsound P E l D dA B HB ρ rec) (hd : decode (E.2.1 μ) pc = .ok (.astore_n n, 1)) (hn : (n : Nat) < P.2.1 μ) (h : rinstr P rec μ d pc ls st σ k pa cells slots (.astore_n n) len act = some r) : rgoal P E l D dA B HB ρ r μ d pc ls st σ cells slots := by
  simp only [rinstr] at h
  split at h
  · next a st =>
    rw [rn_eq] at h
    exact rlocal rfl (hrec _ _ _ _ _ _ _ _ _ _ _ h) fun ν hν => ⟨hν, fun p e R s m args below meth c H locs lsR Q C hl w => lv_astore_n C.1 C.2.1 hd rfl hl hn (rgl_set (v := .ref a)) w⟩
  · next st =>
    rw [rn_eq] at h
    exact rlocal rfl (hrec _ _ _ _ _ _ _ _ _ _ _ h) fun ν hν => ⟨hν, fun p e R s m args below meth c H locs lsR Q C hl w => lv_astore_nN C.1 C.2.1 hd rfl hl hn (rgl_set (v := .null)) w⟩
  · cases h

theorem st_iinc {n : Nat} {x : Int} (hrec : rsound P E l D dA B HB ρ rec) (hd : decode (E.2.1 μ) pc = .ok (.iinc n x, len)) (hlen : len = 3 ∨ len = 6) (hn : n < P.2.1 μ) (h : rinstr P rec μ d pc ls st σ k pa cells slots (.iinc n x) len act = some r) : rgoal P E l D dA B HB ρ r μ d pc ls st σ cells slots := by
  simp only [rinstr] at h
  split at h
  · next v hv =>
    obtain ⟨b1, b2, z, k', r', h1, h2, h3, h4⟩ := rbin_ok h
    rw [rn_eq] at h1
    refine rlocal h2 (hrec _ _ _ _ _ _ _ _ _ _ _ h1) fun ν hν => ⟨(h4 ν hν).1, fun p e R s m args below meth c H locs lsR Q C hl w => ?_⟩
    have hm := rgl_mem (ρ := ρ) (ν := ν) (rlook_mem hv)
    rw [rg_i b1] at hm
    obtain ⟨kk, hk⟩ := List.getElem?_of_mem hm
    have h5 := (h4 ν hν).2
    rcases hlen with rfl | rfl
    · exact lv_iinc (v := ri ν z) C.1 C.2.1 hd hl hk h5.symm hn (by rw [← rg_i h3]; exact rgl_set) w
    · exact lv_iincW (v := ri ν z) C.1 C.2.1 hd hl hk h5.symm hn (by rw [← rg_i h3]; exact rgl_set) w
  · cases h

theorem st_iadd (hrec : rsound P E l D dA B HB ρ rec) (hd : decode (E.2.1 μ) pc = .ok (.iadd, 1)) (h : rinstr P rec μ d pc ls st σ k pa cells slots (.iadd) len act = some r) : rgoal P E l D dA B HB ρ r μ d pc ls st σ cells slots := by
  simp only [rinstr] at h
  split at h
  · next y x st =>
    obtain ⟨b1, b2, z, k', r', h1, h2, h3, h4⟩ := rbin_ok h
    rw [rn_eq] at h1
    refine rpure h2 (hrec _ _ _ _ _ _ _ _ _ _ _ h1) fun ν hν => ⟨(h4 ν hν).1, fun p e R s m args below meth c H locs lsR Q C hl _ _ w => ?_⟩
    have h5 := (h4 ν hν).2
    rw [List.map_cons, rg_i h3, h5] at w
    rw [List.map_cons, List.map_cons, rg_i b2, rg_i b1]
    exact lv_iadd C.1 C.2.1 hd w
  · cases h

theorem st_isub (hrec : rsound P E l D dA B HB ρ rec) (hd : decode (E.2.1 μ) pc = .ok (.isub, 1)) (h : rinstr P rec μ d pc ls st σ k pa cells slots (.isub) len act = some r) : rgoal P E l D dA B HB ρ r μ d pc ls st σ cells slots := by
  simp only [rinstr] at h
  split at h
  · next y x st =>
    obtain ⟨b1, b2, z, k', r', h1, h2, h3, h4⟩ := rbin_ok h
    rw [rn_eq] at h1
    refine rpure h2 (hrec _ _ _ _ _ _ _ _ _ _ _ h1) fun ν hν => ⟨(h4 ν hν).1, fun p e R s m args below meth c H locs lsR Q C hl _ _ w => ?_⟩
    have h5 := (h4 ν hν).2
    rw [List.map_cons, rg_i h3, h5] at w
    rw [List.map_cons, List.map_cons, rg_i b2, rg_i b1]
    exact lv_isub C.1 C.2.1 hd w
  · cases h

theorem st_imul (hrec : rsound P E l D dA B HB ρ rec) (hd : decode (E.2.1 μ) pc = .ok (.imul, 1)) (h : rinstr P rec μ d pc ls st σ k pa cells slots (.imul) len act = some r) : rgoal P E l D dA B HB ρ r μ d pc ls st σ cells slots := by
  simp only [rinstr] at h
  split at h
  · next y x st =>
    obtain ⟨b1, b2, z, k', r', h1, h2, h3, h4⟩ := rbin_ok h
    rw [rn_eq] at h1
    refine rpure h2 (hrec _ _ _ _ _ _ _ _ _ _ _ h1) fun ν hν => ⟨(h4 ν hν).1, fun p e R s m args below meth c H locs lsR Q C hl _ _ w => ?_⟩
    have h5 := (h4 ν hν).2
    rw [List.map_cons, rg_i h3, h5] at w
    rw [List.map_cons, List.map_cons, rg_i b2, rg_i b1]
    exact lv_imul C.1 C.2.1 hd w
  · cases h

theorem st_iand (hrec : rsound P E l D dA B HB ρ rec) (hd : decode (E.2.1 μ) pc = .ok (.iand, 1)) (h : rinstr P rec μ d pc ls st σ k pa cells slots (.iand) len act = some r) : rgoal P E l D dA B HB ρ r μ d pc ls st σ cells slots := by
  simp only [rinstr] at h
  split at h
  · next y x st =>
    obtain ⟨b1, b2, z, k', r', h1, h2, h3, h4⟩ := rbin_ok h
    rw [rn_eq] at h1
    refine rpure h2 (hrec _ _ _ _ _ _ _ _ _ _ _ h1) fun ν hν => ⟨(h4 ν hν).1, fun p e R s m args below meth c H locs lsR Q C hl _ _ w => ?_⟩
    have h5 := (h4 ν hν).2
    rw [List.map_cons, rg_i h3, h5] at w
    rw [List.map_cons, List.map_cons, rg_i b2, rg_i b1]
    exact lv_iand C.1 C.2.1 hd w
  · cases h

theorem st_ior (hrec : rsound P E l D dA B HB ρ rec) (hd : decode (E.2.1 μ) pc = .ok (.ior, 1)) (h : rinstr P rec μ d pc ls st σ k pa cells slots (.ior) len act = some r) : rgoal P E l D dA B HB ρ r μ d pc ls st σ cells slots := by
  simp only [rinstr] at h
  split at h
  · next y x st =>
    obtain ⟨b1, b2, z, k', r', h1, h2, h3, h4⟩ := rbin_ok h
    rw [rn_eq] at h1
    refine rpure h2 (hrec _ _ _ _ _ _ _ _ _ _ _ h1) fun ν hν => ⟨(h4 ν hν).1, fun p e R s m args below meth c H locs lsR Q C hl _ _ w => ?_⟩
    have h5 := (h4 ν hν).2
    rw [List.map_cons, rg_i h3, h5] at w
    rw [List.map_cons, List.map_cons, rg_i b2, rg_i b1]
    exact lv_ior C.1 C.2.1 hd w
  · cases h

theorem st_ixor (hrec : rsound P E l D dA B HB ρ rec) (hd : decode (E.2.1 μ) pc = .ok (.ixor, 1)) (h : rinstr P rec μ d pc ls st σ k pa cells slots (.ixor) len act = some r) : rgoal P E l D dA B HB ρ r μ d pc ls st σ cells slots := by
  simp only [rinstr] at h
  split at h
  · next y x st =>
    obtain ⟨b1, b2, z, k', r', h1, h2, h3, h4⟩ := rbin_ok h
    rw [rn_eq] at h1
    refine rpure h2 (hrec _ _ _ _ _ _ _ _ _ _ _ h1) fun ν hν => ⟨(h4 ν hν).1, fun p e R s m args below meth c H locs lsR Q C hl _ _ w => ?_⟩
    have h5 := (h4 ν hν).2
    rw [List.map_cons, rg_i h3, h5] at w
    rw [List.map_cons, List.map_cons, rg_i b2, rg_i b1]
    exact lv_ixor C.1 C.2.1 hd w
  · cases h

theorem st_ishl (hrec : rsound P E l D dA B HB ρ rec) (hd : decode (E.2.1 μ) pc = .ok (.ishl, 1)) (h : rinstr P rec μ d pc ls st σ k pa cells slots (.ishl) len act = some r) : rgoal P E l D dA B HB ρ r μ d pc ls st σ cells slots := by
  simp only [rinstr] at h
  split at h
  · next y x st =>
    obtain ⟨b1, b2, z, k', r', h1, h2, h3, h4⟩ := rbin_ok h
    rw [rn_eq] at h1
    refine rpure h2 (hrec _ _ _ _ _ _ _ _ _ _ _ h1) fun ν hν => ⟨(h4 ν hν).1, fun p e R s m args below meth c H locs lsR Q C hl _ _ w => ?_⟩
    have h5 := (h4 ν hν).2
    rw [List.map_cons, rg_i h3, h5] at w
    rw [List.map_cons, List.map_cons, rg_i b2, rg_i b1]
    exact lv_ishl C.1 C.2.1 hd w
  · cases h

theorem st_ishr (hrec : rsound P E l D dA B HB ρ rec) (hd : decode (E.2.1 μ) pc = .ok (.ishr, 1)) (h : rinstr P rec μ d pc ls st σ k pa cells slots (.ishr) len act = some r) : rgoal P E l D dA B HB ρ r μ d pc ls st σ cells slots := by
  simp only [rinstr] at h
  split at h
  · next y x st =>
    obtain ⟨b1, b2, z, k', r', h1, h2, h3, h4⟩ := rbin_ok h
    rw [rn_eq] at h1
    refine rpure h2 (hrec _ _ _ _ _ _ _ _ _ _ _ h1) fun ν hν => ⟨(h4 ν hν).1, fun p e R s m args below meth c H locs lsR Q C hl _ _ w => ?_⟩
    have h5 := (h4 ν hν).2
    rw [List.map_cons, rg_i h3, h5] at w
    rw [List.map_cons, List.map_cons, rg_i b2, rg_i b1]
    exact lv_ishr C.1 C.2.1 hd w
  · cases h

theorem st_iushr (hrec : rsound P E l D dA B HB ρ rec) (hd : decode (E.2.1 μ) pc = .ok (.iushr, 1)) (h : rinstr P rec μ d pc ls st σ k pa cells slots (.iushr) len act = some r) : rgoal P E l D dA B HB ρ r μ d pc ls st σ cells slots := by
  simp only [rinstr] at h
  split at h
  · next y x st =>
    obtain ⟨b1, b2, z, k', r', h1, h2, h3, h4⟩ := rbin_ok h
    rw [rn_eq] at h1
    refine rpure h2 (hrec _ _ _ _ _ _ _ _ _ _ _ h1) fun ν hν => ⟨(h4 ν hν).1, fun p e R s m args below meth c H locs lsR Q C hl _ _ w => ?_⟩
    have h5 := (h4 ν hν).2
    rw [List.map_cons, rg_i h3, h5] at w
    rw [List.map_cons, List.map_cons, rg_i b2, rg_i b1]
    exact lv_iushr C.1 C.2.1 hd rfl w
  · cases h

theorem st_ladd (hrec : rsound P E l D dA B HB ρ rec) (hd : decode (E.2.1 μ) pc = .ok (.ladd, 1)) (h : rinstr P rec μ d pc ls st σ k pa cells slots (.ladd) len act = some r) : rgoal P E l D dA B HB ρ r μ d pc ls st σ cells slots := by
  simp only [rinstr] at h
  split at h
  · next y x st =>
    obtain ⟨b1, b2, z, k', r', h1, h2, h3, h4⟩ := rlbin_ok h
    rw [rn_eq] at h1
    refine rpure h2 (hrec _ _ _ _ _ _ _ _ _ _ _ h1) fun ν hν => ⟨(h4 ν hν).1, fun p e R s m args below meth c H locs lsR Q C hl _ _ w => ?_⟩
    have h5 := (h4 ν hν).2
    rw [List.map_cons, rg_l h3, h5] at w
    rw [List.map_cons, List.map_cons, rg_l b2, rg_l b1]
    exact lv_ladd C.1 C.2.1 hd w
  · cases h

theorem st_lsub (hrec : rsound P E l D dA B HB ρ rec) (hd : decode (E.2.1 μ) pc = .ok (.lsub, 1)) (h : rinstr P rec μ d pc ls st σ k pa cells slots (.lsub) len act = some r) : rgoal P E l D dA B HB ρ r μ d pc ls st σ cells slots := by
  simp only [rinstr] at h
  split at h
  · next y x st =>
    obtain ⟨b1, b2, z, k', r', h1, h2, h3, h4⟩ := rlbin_ok h
    rw [rn_eq] at h1
    refine rpure h2 (hrec _ _ _ _ _ _ _ _ _ _ _ h1) fun ν hν => ⟨(h4 ν hν).1, fun p e R s m args below meth c H locs lsR Q C hl _ _ w => ?_⟩
    have h5 := (h4 ν hν).2
    rw [List.map_cons, rg_l h3, h5] at w
    rw [List.map_cons, List.map_cons, rg_l b2, rg_l b1]
    exact lv_lsub C.1 C.2.1 hd w
  · cases h

theorem st_lmul (hrec : rsound P E l D dA B HB ρ rec) (hd : decode (E.2.1 μ) pc = .ok (.lmul, 1)) (h : rinstr P rec μ d pc ls st σ k pa cells slots (.lmul) len act = some r) : rgoal P E l D dA B HB ρ r μ d pc ls st σ cells slots := by
  simp only [rinstr] at h
  split at h
  · next y x st =>
    obtain ⟨b1, b2, z, k', r', h1, h2, h3, h4⟩ := rlbin_ok h
    rw [rn_eq] at h1
    refine rpure h2 (hrec _ _ _ _ _ _ _ _ _ _ _ h1) fun ν hν => ⟨(h4 ν hν).1, fun p e R s m args below meth c H locs lsR Q C hl _ _ w => ?_⟩
    have h5 := (h4 ν hν).2
    rw [List.map_cons, rg_l h3, h5] at w
    rw [List.map_cons, List.map_cons, rg_l b2, rg_l b1]
    exact lv_lmul C.1 C.2.1 hd w
  · cases h

theorem st_land (hrec : rsound P E l D dA B HB ρ rec) (hd : decode (E.2.1 μ) pc = .ok (.land, 1)) (h : rinstr P rec μ d pc ls st σ k pa cells slots (.land) len act = some r) : rgoal P E l D dA B HB ρ r μ d pc ls st σ cells slots := by
  simp only [rinstr] at h
  split at h
  · next y x st =>
    obtain ⟨b1, b2, z, k', r', h1, h2, h3, h4⟩ := rlbin_ok h
    rw [rn_eq] at h1
    refine rpure h2 (hrec _ _ _ _ _ _ _ _ _ _ _ h1) fun ν hν => ⟨(h4 ν hν).1, fun p e R s m args below meth c H locs lsR Q C hl _ _ w => ?_⟩
    have h5 := (h4 ν hν).2
    rw [List.map_cons, rg_l h3, h5] at w
    rw [List.map_cons, List.map_cons, rg_l b2, rg_l b1]
    exact lv_land C.1 C.2.1 hd w
  · cases h

theorem st_lor (hrec : rsound P E l D dA B HB ρ rec) (hd : decode (E.2.1 μ) pc = .ok (.lor, 1)) (h : rinstr P rec μ d pc ls st σ k pa cells slots (.lor) len act = some r) : rgoal P E l D dA B HB ρ r μ d pc ls st σ cells slots := by
  simp only [rinstr] at h
  split at h
  · next y x st =>
    obtain ⟨b1, b2, z, k', r', h1, h2, h3, h4⟩ := rlbin_ok h
    rw [rn_eq] at h1
    refine rpure h2 (hrec _ _ _ _ _ _ _ _ _ _ _ h1) fun ν hν => ⟨(h4 ν hν).1, fun p e R s m args below meth c H locs lsR Q C hl _ _ w => ?_⟩
    have h5 := (h4 ν hν).2
    rw [List.map_cons, rg_l h3, h5] at w
    rw [List.map_cons, List.map_cons, rg_l b2, rg_l b1]
    exact lv_lor C.1 C.2.1 hd w
  · cases h

theorem st_lxor (hrec : rsound P E l D dA B HB ρ rec) (hd : decode (E.2.1 μ) pc = .ok (.lxor, 1)) (h : rinstr P rec μ d pc ls st σ k pa cells slots (.lxor) len act = some r) : rgoal P E l D dA B HB ρ r μ d pc ls st σ cells slots := by
  simp only [rinstr] at h
  split at h
  · next y x st =>
    obtain ⟨b1, b2, z, k', r', h1, h2, h3, h4⟩ := rlbin_ok h
    rw [rn_eq] at h1
    refine rpure h2 (hrec _ _ _ _ _ _ _ _ _ _ _ h1) fun ν hν => ⟨(h4 ν hν).1, fun p e R s m args below meth c H locs lsR Q C hl _ _ w => ?_⟩
    have h5 := (h4 ν hν).2
    rw [List.map_cons, rg_l h3, h5] at w
    rw [List.map_cons, List.map_cons, rg_l b2, rg_l b1]
    exact lv_lxor C.1 C.2.1 hd w
  · cases h

theorem st_lshl (hrec : rsound P E l D dA B HB ρ rec) (hd : decode (E.2.1 μ) pc = .ok (.lshl, 1)) (h : rinstr P rec μ d pc ls st σ k pa cells slots (.lshl) len act = some r) : rgoal P E l D dA B HB ρ r μ d pc ls st σ cells slots := by
  simp only [rinstr] at h
  split at h
  · next y x st =>
    obtain ⟨b1, b2, z, k', r', h1, h2, h3, h4⟩ := rlsh_ok h
    rw [rn_eq] at h1
    refine rpure h2 (hrec _ _ _ _ _ _ _ _ _ _ _ h1) fun ν hν => ⟨(h4 ν hν).1, fun p e R s m args below meth c H locs lsR Q C hl _ _ w => ?_⟩
    have h5 := (h4 ν hν).2
    rw [List.map_cons, rg_l h3, h5] at w
    rw [List.map_cons, List.map_cons, rg_i b2, rg_l b1]
    exact lv_lshl C.1 C.2.1 hd rfl w
  · cases h

theorem st_lshr (hrec : rsound P E l D dA B HB ρ rec) (hd : decode (E.2.1 μ) pc = .ok (.lshr, 1)) (h : rinstr P rec μ d pc ls st σ k pa cells slots (.lshr) len act = some r) : rgoal P E l D dA B HB ρ r μ d pc ls st σ cells slots := by
  simp only [rinstr] at h
  split at h
  · next y x st =>
    obtain ⟨b1, b2, z, k', r', h1, h2, h3, h4⟩ := rlsh_ok h
    rw [rn_eq] at h1
    refine rpure h2 (hrec _ _ _ _ _ _ _ _ _ _ _ h1) fun ν hν => ⟨(h4 ν hν).1, fun p e R s m args below meth c H locs lsR Q C hl _ _ w => ?_⟩
    have h5 := (h4 ν hν).2
    rw [List.map_cons, rg_l h3, h5] at w
    rw [List.map_cons, List.map_cons, rg_i b2, rg_l b1]
    exact lv_lshr C.1 C.2.1 hd rfl w
  · cases h

theorem st_lushr (hrec : rsound P E l D dA B HB ρ rec) (hd : decode (E.2.1 μ) pc = .ok (.lushr, 1)) (h : rinstr P rec μ d pc ls st σ k pa cells slots (.lushr) len act = some r) : rgoal P E l D dA B HB ρ r μ d pc ls st σ cells slots := by
  simp only [rinstr] at h
  split at h
  · next y x st =>
    obtain ⟨b1, b2, z, k', r', h1, h2, h3, h4⟩ := rlsh_ok h
    rw [rn_eq] at h1
    refine rpure h2 (hrec _ _ _ _ _ _ _ _ _ _ _ h1) fun ν hν => ⟨(h4 ν hν).1, fun p e R s m args below meth c H locs lsR Q C hl _ _ w => ?_⟩
    have h5 := (h4 ν hν).2
    rw [List.map_cons, rg_l h3, h5] at w
    rw [List.map_cons, List.map_cons, rg_i b2, rg_l b1]
    exact lv_lushr C.1 C.2.1 hd rfl w
  · cases h

theorem st_lcmp (hrec : rsound P E l D dA B HB ρ rec) (hd : decode (E.2.1 μ) pc = .ok (.lcmp, 1)) (h : rinstr P rec μ d pc ls st σ k pa cells slots (.lcmp) len act = some r) : rgoal P E l D dA B HB ρ r μ d pc ls st σ cells slots := by
  simp only [rinstr] at h
  split at h
  · next y x st =>
    obtain ⟨b1, b2, z, k', r', h1, h2, h3, h4⟩ := rlcmp_ok h
    rw [rn_eq] at h1
    refine rpure h2 (hrec _ _ _ _ _ _ _ _ _ _ _ h1) fun ν hν => ⟨(h4 ν hν).1, fun p e R s m args below meth c H locs lsR Q C hl _ _ w => ?_⟩
    have h5 := (h4 ν hν).2
    rw [List.map_cons, rg_i h3, h5] at w
    rw [List.map_cons, List.map_cons, rg_l b2, rg_l b1]
    exact W.lcmp C.1 C.2.1 hd w
  · cases h

theorem st_idiv (hrec : rsound P E l D dA B HB ρ rec) (hd : decode (E.2.1 μ) pc = .ok (.idiv, 1)) (h : rinstr P rec μ d pc ls st σ k pa cells slots (.idiv) len act = some r) : rgoal P E l D dA B HB ρ r μ d pc ls st σ cells slots := by
  simp only [rinstr] at h
  split at h
  · next y x st =>
    obtain ⟨b, rfl, hb, h⟩ := rdiv_ok h
    obtain ⟨b1, b2, z, k', r', h1, h2, h3, h4⟩ := rbin_ok h
    rw [rn_eq] at h1
    refine rpure h2 (hrec _ _ _ _ _ _ _ _ _ _ _ h1) fun ν hν => ⟨(h4 ν hν).1, fun p e R s m args below meth c H locs lsR Q C hl _ _ w => ?_⟩
    have h5 := (h4 ν hν).2
    rw [List.map_cons, rg_i h3, h5] at w
    rw [List.map_cons, List.map_cons, rg_i b1]
    exact lv_idiv C.1 C.2.1 hd hb w
  · cases h

theorem st_irem (hrec : rsound P E l D dA B HB ρ rec) (hd : decode (E.2.1 μ) pc = .ok (.irem, 1)) (h : rinstr P rec μ d pc ls st σ k pa cells slots (.irem) len act = some r) : rgoal P E l D dA B HB ρ r μ d pc ls st σ cells slots := by
  simp only [rinstr] at h
  split at h
  · next y x st =>
    obtain ⟨b, rfl, hb, h⟩ := rdiv_ok h
    obtain ⟨b1, b2, z, k', r', h1, h2, h3, h4⟩ := rbin_ok h
    rw [rn_eq] at h1
    refine rpure h2 (hrec _ _ _ _ _ _ _ _ _ _ _ h1) fun ν hν => ⟨(h4 ν hν).1, fun p e R s m args below meth c H locs lsR Q C hl _ _ w => ?_⟩
    have h5 := (h4 ν hν).2
    rw [List.map_cons, rg_i h3, h5] at w
    rw [List.map_cons, List.map_cons, rg_i b1]
    exact lv_irem C.1 C.2.1 hd hb w
  · cases h

theorem st_ineg (hrec : rsound P E l D dA B HB ρ rec) (hd : decode (E.2.1 μ) pc = .ok (.ineg, 1)) (h : rinstr P rec μ d pc ls st σ k pa cells slots (.ineg) len act = some r) : rgoal P E l D dA B HB ρ r μ d pc ls st σ cells slots := by
  simp only [rinstr] at h
  split at h
  · next x st =>
    obtain ⟨b1, z, k', r', h1, h2, h3, h4⟩ := runi_ok h
    rw [rn_eq] at h1
    refine rpure h2 (hrec _ _ _ _ _ _ _ _ _ _ _ h1) fun ν hν => ⟨(h4 ν hν).1, fun p e R s m args below meth c H locs lsR Q C hl _ _ w => ?_⟩
    have h5 := (h4 ν hν).2
    rw [List.map_cons, rg_i h3, h5] at w
    rw [List.map_cons, rg_i b1]
    exact lv_ineg C.1 C.2.1 hd w
  · cases h

theorem st_i2b (hrec : rsound P E l D dA B HB ρ rec) (hd : decode (E.2.1 μ) pc = .ok (.i2b, 1)) (h : rinstr P rec μ d pc ls st σ k pa cells slots (.i2b) len act = some r) : rgoal P E l D dA B HB ρ r μ d pc ls st σ cells slots := by
  simp only [rinstr] at h
  split at h
  · next x st =>
    obtain ⟨b1, z, k', r', h1, h2, h3, h4⟩ := runi_ok h
    rw [rn_eq] at h1
    refine rpure h2 (hrec _ _ _ _ _ _ _ _ _ _ _ h1) fun ν hν => ⟨(h4 ν hν).1, fun p e R s m args below meth c H locs lsR Q C hl _ _ w => ?_⟩
    have h5 := (h4 ν hν).2
    rw [List.map_cons, rg_i h3, h5] at w
    rw [List.map_cons, rg_i b1]
    exact lv_i2b C.1 C.2.1 hd rfl w
  · cases h

theorem st_i2l (hrec : rsound P E l D dA B HB ρ rec) (hd : decode (E.2.1 μ) pc = .ok (.i2l, 1)) (h : rinstr P rec μ d pc ls st σ k pa cells slots (.i2l) len act = some r) : rgoal P E l D dA B HB ρ r μ d pc ls st σ cells slots := by
  simp only [rinstr] at h
  split at h
  · next x st =>
    obtain ⟨b1, z, k', r', h1, h2, h3, h4⟩ := ri2l_ok h
    rw [rn_eq] at h1
    refine rpure h2 (hrec _ _ _ _ _ _ _ _ _ _ _ h1) fun ν hν => ⟨(h4 ν hν).1, fun p e R s m args below meth c H locs lsR Q C hl _ _ w => ?_⟩
    have h5 := (h4 ν hν).2
    rw [List.map_cons, rg_l h3, h5] at w
    rw [List.map_cons, rg_i b1]
    exact lv_i2l C.1 C.2.1 hd rfl w
  · cases h

theorem st_l2i (hrec : rsound P E l D dA B HB ρ rec) (hd : decode (E.2.1 μ) pc = .ok (.l2i, 1)) (h : rinstr P rec μ d pc ls st σ k pa cells slots (.l2i) len act = some r) : rgoal P E l D dA B HB ρ r μ d pc ls st σ cells slots := by
  simp only [rinstr] at h
  split at h
  · next x st =>
    obtain ⟨b1, z, k', r', h1, h2, h3, h4⟩ := rl2i_ok h
    rw [rn_eq] at h1
    refine rpure h2 (hrec _ _ _ _ _ _ _ _ _ _ _ h1) fun ν hν => ⟨(h4 ν hν).1, fun p e R s m args below meth c H locs lsR Q C hl _ _ w => ?_⟩
    have h5 := (h4 ν hν).2
    rw [List.map_cons, rg_i h3, h5] at w
    rw [List.map_cons, rg_l b1]
    exact lv_l2i C.1 C.2.1 hd rfl w
  · cases h

theorem st_dup (hrec : rsound P E l D dA B HB ρ rec) (hd : decode (E.2.1 μ) pc = .ok (.dup, 1)) (h : rinstr P rec μ d pc ls st σ k pa cells slots (.dup) len act = some r) : rgoal P E l D dA B HB ρ r μ d pc ls st σ cells slots := by
  simp only [rinstr] at h
  split at h
  · next x st =>
    split at h
    · next hb =>
      rw [rn_eq] at h
      exact rpure rfl (hrec _ _ _ _ _ _ _ _ _ _ _ h) fun ν hν => ⟨hν, fun p e R s m args below meth c H locs lsR Q C hl _ _ w => lv_dup C.1 C.2.1 hd (by rw [rg_cat]; exact Nat.eq_of_beq_eq_true hb) w⟩
    · cases h
  · cases h

theorem st_pop (hrec : rsound P E l D dA B HB ρ rec) (hd : decode (E.2.1 μ) pc = .ok (.pop, 1)) (h : rinstr P rec μ d pc ls st σ k pa cells slots (.pop) len act = some r) : rgoal P E l D dA B HB ρ r μ d pc ls st σ cells slots := by
  simp only [rinstr] at h
  split at h
  · next x st =>
    split at h
    · next hb =>
      rw [rn_eq] at h
      exact rpure rfl (hrec _ _ _ _ _ _ _ _ _ _ _ h) fun ν hν => ⟨hν, fun p e R s m args below meth c H locs lsR Q C hl _ _ w => lv_pop C.1 C.2.1 hd (by rw [rg_cat]; exact Nat.eq_of_beq_eq_true hb) w⟩
    · cases h
  · cases h

theorem st_dup_x1 (hrec : rsound P E l D dA B HB ρ rec) (hd : decode (E.2.1 μ) pc = .ok (.dup_x1, 1)) (h : rinstr P rec μ d pc ls st σ k pa cells slots (.dup_x1) len act = some r) : rgoal P E l D dA B HB ρ r μ d pc ls st σ cells slots := by
  simp only [rinstr] at h
  split at h
  · next x y st =>
    split at h
    · next hb =>
      rw [rn_eq] at h
      rw [Bool.and_eq_true] at hb
      exact rpure rfl (hrec _ _ _ _ _ _ _ _ _ _ _ h) fun ν hν => ⟨hν, fun p e R s m args below meth c H locs lsR Q C hl _ _ w => lv_dup_x1 C.1 C.2.1 hd (by rw [rg_cat]; exact Nat.eq_of_beq_eq_true hb.1) (by rw [rg_cat]; exact Nat.eq_of_beq_eq_true hb.2) w⟩
    · cases h
  · cases h

theorem st_dup2 (hrec : rsound P E l D dA B HB ρ rec) (hd : decode (E.2.1 μ) pc = .ok (.dup2, 1)) (h : rinstr P rec μ d pc ls st σ k pa cells slots (.dup2) len act = some r) : rgoal P E l D dA B HB ρ r μ d pc ls st σ cells slots := by
  simp only [rinstr] at h
  split at h
  · next x st =>
    split at h
    · next hb =>
      rw [rn_eq] at h
      have hc : x.category = 2 := by
        have := Nat.ne_of_beq_eq_false hb
        rcases lv_cat x with q | q
        · exact absurd q this
        · exact q
      exact rpure rfl (hrec _ _ _ _ _ _ _ _ _ _ _ h) fun ν hν => ⟨hν, fun p e R s m args below meth c H locs lsR Q C hl _ _ w => lv_dup2_2 C.1 C.2.1 hd (by rw [rg_cat]; exact hc) w⟩
    · next hb =>
      split at h
      · next y st =>
        split at h
        · next hb2 =>
          rw [rn_eq] at h
          exact rpure rfl (hrec _ _ _ _ _ _ _ _ _ _ _ h) fun ν hν => ⟨hν, fun p e R s m args below meth c H locs lsR Q C hl _ _ w => lv_dup2_11 C.1 C.2.1 hd (by rw [rg_cat]; exact Nat.eq_of_beq_eq_true hb) (by rw [rg_cat]; exact Nat.eq_of_beq_eq_true hb2) w⟩
        · cases h
      · cases h
  · cases h

theorem st_goto {off : Int} (hrec : rsound P E l D dA B HB ρ rec) (hd : decode (E.2.1 μ) pc = .ok (.goto off, 3)) (h : rinstr P rec μ d pc ls st σ k pa cells slots (.goto off) len act = some r) : rgoal P E l D dA B HB ρ r μ d pc ls st σ cells slots := by
  simp only [rinstr] at h
  obtain ⟨t, ht, h⟩ := rjmp_ok h
  exact rpure rfl (hrec _ _ _ _ _ _ _ _ _ _ _ h) fun ν hν => ⟨hν, fun p e R s m args below meth c H locs lsR Q C hl _ _ w => lv_goto C.1 C.2.1 hd ht w⟩

theorem st_if_eq {off : Int} (hrec : rsound P E l D dA B HB ρ rec) (hd : decode (E.2.1 μ) pc = .ok (.ifCond .eq off, 3)) (h : rinstr P rec μ d pc ls st σ k pa cells slots (.ifCond .eq off) len act = some r) : rgoal P E l D dA B HB ρ r μ d pc ls st σ cells slots := by
  simp only [rinstr] at h
  split at h
  · next x st =>
    obtain ⟨t, ht, h⟩ := rjmp_ok h
    obtain ⟨b1, b2, h | h⟩ := rbr_ok h
    · obtain ⟨pa', r', h1, h2, h4⟩ := h
      refine rpure h2 (hrec _ _ _ _ _ _ _ _ _ _ _ h1) fun ν hν => ⟨(h4 ν hν).1, fun p e R s m args below meth c H locs lsR Q C hl _ _ w => ?_⟩
      have hc := (h4 ν hν).2
      rw [List.map_cons, rg_i b1]
      exact lv_if_eq C.1 C.2.1 hd ht (fun _ => w) (fun q => absurd (of_decide_eq_true hc) q)
    · obtain ⟨pa', r', h1, h2, h4⟩ := h
      rw [rn_eq] at h1
      refine rpure h2 (hrec _ _ _ _ _ _ _ _ _ _ _ h1) fun ν hν => ⟨(h4 ν hν).1, fun p e R s m args below meth c H locs lsR Q C hl _ _ w => ?_⟩
      have hc := (h4 ν hν).2
      rw [List.map_cons, rg_i b1]
      exact lv_if_eq C.1 C.2.1 hd ht (fun q => absurd q (of_decide_eq_false hc)) (fun _ => w)
  · cases h

theorem st_icmp_eq {off : Int} (hrec : rsound P E l D dA B HB ρ rec) (hd : decode (E.2.1 μ) pc = .ok (.if_icmp .eq off, 3)) (h : rinstr P rec μ d pc ls st σ k pa cells slots (.if_icmp .eq off) len act = some r) : rgoal P E l D dA B HB ρ r μ d pc ls st σ cells slots := by
  simp only [rinstr] at h
  split at h
  · next y x st =>
    obtain ⟨t, ht, h⟩ := rjmp_ok h
    obtain ⟨b1, b2, h | h⟩ := rbr_ok h
    · obtain ⟨pa', r', h1, h2, h4⟩ := h
      refine rpure h2 (hrec _ _ _ _ _ _ _ _ _ _ _ h1) fun ν hν => ⟨(h4 ν hν).1, fun p e R s m args below meth c H locs lsR Q C hl _ _ w => ?_⟩
      have hc := (h4 ν hν).2
      rw [List.map_cons, List.map_cons, rg_i b2, rg_i b1]
      exact lv_icmp_eq C.1 C.2.1 hd ht (fun _ => w) (fun q => absurd (of_decide_eq_true hc) q)
    · obtain ⟨pa', r', h1, h2, h4⟩ := h
      rw [rn_eq] at h1
      refine rpure h2 (hrec _ _ _ _ _ _ _ _ _ _ _ h1) fun ν hν => ⟨(h4 ν hν).1, fun p e R s m args below meth c H locs lsR Q C hl _ _ w => ?_⟩
      have hc := (h4 ν hν).2
      rw [List.map_cons, List.map_cons, rg_i b2, rg_i b1]
      exact lv_icmp_eq C.1 C.2.1 hd ht (fun q => absurd q (of_decide_eq_false hc)) (fun _ => w)
  · cases h

theorem st_if_ne {off : Int} (hrec : rsound P E l D dA B HB ρ rec) (hd : decode (E.2.1 μ) pc = .ok (.ifCond .ne off, 3)) (h : rinstr P rec μ d pc ls st σ k pa cells slots (.ifCond .ne off) len act = some r) : rgoal P E l D dA B HB ρ r μ d pc ls st σ cells slots := by
  simp only [rinstr] at h
  split at h
  · next x st =>
    obtain ⟨t, ht, h⟩ := rjmp_ok h
    obtain ⟨b1, b2, h | h⟩ := rbr_ok h
    · obtain ⟨pa', r', h1, h2, h4⟩ := h
      refine rpure h2 (hrec _ _ _ _ _ _ _ _ _ _ _ h1) fun ν hν => ⟨(h4 ν hν).1, fun p e R s m args below meth c H locs lsR Q C hl _ _ w => ?_⟩
      have hc := (h4 ν hν).2
      rw [List.map_cons, rg_i b1]
      exact lv_if_ne C.1 C.2.1 hd ht (fun _ => w) (fun q => absurd q (rne_t hc))
    · obtain ⟨pa', r', h1, h2, h4⟩ := h
      rw [rn_eq] at h1
      refine rpure h2 (hrec _ _ _ _ _ _ _ _ _ _ _ h1) fun ν hν => ⟨(h4 ν hν).1, fun p e R s m args below meth c H locs lsR Q C hl _ _ w => ?_⟩
      have hc := (h4 ν hν).2
      rw [List.map_cons, rg_i b1]
      exact lv_if_ne C.1 C.2.1 hd ht (fun q => absurd (rne_f hc) q) (fun _ => w)
  · cases h

theorem st_icmp_ne {off : Int} (hrec : rsound P E l D dA B HB ρ rec) (hd : decode (E.2.1 μ) pc = .ok (.if_icmp .ne off, 3)) (h : rinstr P rec μ d pc ls st σ k pa cells slots (.if_icmp .ne off) len act = some r) : rgoal P E l D dA B HB ρ r μ d pc ls st σ cells slots := by
  simp only [rinstr] at h
  split at h
  · next y x st =>
    obtain ⟨t, ht, h⟩ := rjmp_ok h
    obtain ⟨b1, b2, h | h⟩ := rbr_ok h
    · obtain ⟨pa', r', h1, h2, h4⟩ := h
      refine rpure h2 (hrec _ _ _ _ _ _ _ _ _ _ _ h1) fun ν hν => ⟨(h4 ν hν).1, fun p e R s m args below meth c H locs lsR Q C hl _ _ w => ?_⟩
      have hc := (h4 ν hν).2
      rw [List.map_cons, List.map_cons, rg_i b2, rg_i b1]
      exact lv_icmp_ne C.1 C.2.1 hd ht (fun _ => w) (fun q => absurd q (rne_t hc))
    · obtain ⟨pa', r', h1, h2, h4⟩ := h
      rw [rn_eq] at h1
      refine rpure h2 (hrec _ _ _ _ _ _ _ _ _ _ _ h1) fun ν hν => ⟨(h4 ν hν).1, fun p e R s m args below meth c H locs lsR Q C hl _ _ w => ?_⟩
      have hc := (h4 ν hν).2
      rw [List.map_cons, List.map_cons, rg_i b2, rg_i b1]
      exact lv_icmp_ne C.1 C.2.1 hd ht (fun q => absurd (rne_f hc) q) (fun _ => w)
  · cases h

theorem st_if_lt {off : Int} (hrec : rsound P E l D dA B HB ρ rec) (hd : decode (E.2.1 μ) pc = .ok (.ifCond .lt off, 3)) (h : rinstr P rec μ d pc ls st σ k pa cells slots (.ifCond .lt off) len act = some r) : rgoal P E l D dA B HB ρ r μ d pc ls st σ cells slots := by
  simp only [rinstr] at h
  split at h
  · next x st =>
    obtain ⟨t, ht, h⟩ := rjmp_ok h
    obtain ⟨b1, b2, h | h⟩ := rbr_ok h
    · obtain ⟨pa', r', h1, h2, h4⟩ := h
      refine rpure h2 (hrec _ _ _ _ _ _ _ _ _ _ _ h1) fun ν hν => ⟨(h4 ν hν).1, fun p e R s m args below meth c H locs lsR Q C hl _ _ w => ?_⟩
      have hc := (h4 ν hν).2
      rw [List.map_cons, rg_i b1]
      exact lv_if_lt C.1 C.2.1 hd ht (fun _ => w) (fun q => absurd (of_decide_eq_true hc) q)
    · obtain ⟨pa', r', h1, h2, h4⟩ := h
      rw [rn_eq] at h1
      refine rpure h2 (hrec _ _ _ _ _ _ _ _ _ _ _ h1) fun ν hν => ⟨(h4 ν hν).1, fun p e R s m args below meth c H locs lsR Q C hl _ _ w => ?_⟩
      have hc := (h4 ν hν).2
      rw [List.map_cons, rg_i b1]
      exact lv_if_lt C.1 C.2.1 hd ht (fun q => absurd q (of_decide_eq_false hc)) (fun _ => w)
  · cases h

theorem st_icmp_lt {off : Int} (hrec : rsound P E l D dA B HB ρ rec) (hd : decode (E.2.1 μ) pc = .ok (.if_icmp .lt off, 3)) (h : rinstr P rec μ d pc ls st σ k pa cells slots (.if_icmp .lt off) len act = some r) : rgoal P E l D dA B HB ρ r μ d pc ls st σ cells slots := by
  simp only [rinstr] at h
  split at h
  · next y x st =>
    obtain ⟨t, ht, h⟩ := rjmp_ok h
    obtain ⟨b1, b2, h | h⟩ := rbr_ok h
    · obtain ⟨pa', r', h1, h2, h4⟩ := h
      refine rpure h2 (hrec _ _ _ _ _ _ _ _ _ _ _ h1) fun ν hν => ⟨(h4 ν hν).1, fun p e R s m args below meth c H locs lsR Q C hl _ _ w => ?_⟩
      have hc := (h4 ν hν).2
      rw [List.map_cons, List.map_cons, rg_i b2, rg_i b1]
      exact lv_icmp_lt C.1 C.2.1 hd ht (fun _ => w) (fun q => absurd (of_decide_eq_true hc) q)
    · obtain ⟨pa', r', h1, h2, h4⟩ := h
      rw [rn_eq] at h1
      refine rpure h2 (hrec _ _ _ _ _ _ _ _ _ _ _ h1) fun ν hν => ⟨(h4 ν hν).1, fun p e R s m args below meth c H locs lsR Q C hl _ _ w => ?_⟩
      have hc := (h4 ν hν).2
      rw [List.map_cons, List.map_cons, rg_i b2, rg_i b1]
      exact lv_icmp_lt C.1 C.2.1 hd ht (fun q => absurd q (of_decide_eq_false hc)) (fun _ => w)
  · cases h

theorem st_if_ge {off : Int} (hrec : rsound P E l D dA B HB ρ rec) (hd : decode (E.2.1 μ) pc = .ok (.ifCond .ge off, 3)) (h : rinstr P rec μ d pc ls st σ k pa cells slots (.ifCond .ge off) len act = some r) : rgoal P E l D dA B HB ρ r μ d pc ls st σ cells slots := by
  simp only [rinstr] at h
  split at h
  · next x st =>
    obtain ⟨t, ht, h⟩ := rjmp_ok h
    obtain ⟨b1, b2, h | h⟩ := rbr_ok h
    · obtain ⟨pa', r', h1, h2, h4⟩ := h
      refine rpure h2 (hrec _ _ _ _ _ _ _ _ _ _ _ h1) fun ν hν => ⟨(h4 ν hν).1, fun p e R s m args below meth c H locs lsR Q C hl _ _ w => ?_⟩
      have hc := (h4 ν hν).2
      rw [List.map_cons, rg_i b1]
      exact lv_if_ge C.1 C.2.1 hd ht (fun _ => w) (fun q => absurd (of_decide_eq_true hc) q)
    · obtain ⟨pa', r', h1, h2, h4⟩ := h
      rw [rn_eq] at h1
      refine rpure h2 (hrec _ _ _ _ _ _ _ _ _ _ _ h1) fun ν hν => ⟨(h4 ν hν).1, fun p e R s m args below meth c H locs lsR Q C hl _ _ w => ?_⟩
      have hc := (h4 ν hν).2
      rw [List.map_cons, rg_i b1]
      exact lv_if_ge C.1 C.2.1 hd ht (fun q => absurd q (of_decide_eq_false hc)) (fun _ => w)
  · cases h

theorem st_icmp_ge {off : Int} (hrec : rsound P E l D dA B HB ρ rec) (hd : decode (E.2.1 μ) pc = .ok (.if_icmp .ge off, 3)) (h : rinstr P rec μ d pc ls st σ k pa cells slots (.if_icmp .ge off) len act = some r) : rgoal P E l D dA B HB ρ r μ d pc ls st σ cells slots := by
  simp only [rinstr] at h
  split at h
  · next y x st =>
    obtain ⟨t, ht, h⟩ := rjmp_ok h
    obtain ⟨b1, b2, h | h⟩ := rbr_ok h
    · obtain ⟨pa', r', h1, h2, h4⟩ := h
      refine rpure h2 (hrec _ _ _ _ _ _ _ _ _ _ _ h1) fun ν hν => ⟨(h4 ν hν).1, fun p e R s m args below meth c H locs lsR Q C hl _ _ w => ?_⟩
      have hc := (h4 ν hν).2
      rw [List.map_cons, List.map_cons, rg_i b2, rg_i b1]
      exact lv_icmp_ge C.1 C.2.1 hd ht (fun _ => w) (fun q => absurd (of_decide_eq_true hc) q)
    · obtain ⟨pa', r', h1, h2, h4⟩ := h
      rw [rn_eq] at h1
      refine rpure h2 (hrec _ _ _ _ _ _ _ _ _ _ _ h1) fun ν hν => ⟨(h4 ν hν).1, fun p e R s m args below meth c H locs lsR Q C hl _ _ w => ?_⟩
      have hc := (h4 ν hν).2
      rw [List.map_cons, List.map_cons, rg_i b2, rg_i b1]
      exact lv_icmp_ge C.1 C.2.1 hd ht (fun q => absurd q (of_decide_eq_false hc)) (fun _ => w)
  · cases h

theorem st_if_gt {off : Int} (hrec : rsound P E l D dA B HB ρ rec) (hd : decode (E.2.1 μ) pc = .ok (.ifCond .gt off, 3)) (h : rinstr P rec μ d pc ls st σ k pa cells slots (.ifCond .gt off) len act = some r) : rgoal P E l D dA B HB ρ r μ d pc ls st σ cells slots := by
  simp only [rinstr] at h
  split at h
  · next x st =>
    obtain ⟨t, ht, h⟩ := rjmp_ok h
    obtain ⟨b1, b2, h | h⟩ := rbr_ok h
    · obtain ⟨pa', r', h1, h2, h4⟩ := h
      refine rpure h2 (hrec _ _ _ _ _ _ _ _ _ _ _ h1) fun ν hν => ⟨(h4 ν hν).1, fun p e R s m args below meth c H locs lsR Q C hl _ _ w => ?_⟩
      have hc := (h4 ν hν).2
      rw [List.map_cons, rg_i b1]
      exact lv_if_gt C.1 C.2.1 hd ht (fun _ => w) (fun q => absurd (of_decide_eq_true hc) q)
    · obtain ⟨pa', r', h1, h2, h4⟩ := h
      rw [rn_eq] at h1
      refine rpure h2 (hrec _ _ _ _ _ _ _ _ _ _ _ h1) fun ν hν => ⟨(h4 ν hν).1, fun p e R s m args below meth c H locs lsR Q C hl _ _ w => ?_⟩
      have hc := (h4 ν hν).2
      rw [List.map_cons, rg_i b1]
      exact lv_if_gt C.1 C.2.1 hd ht (fun q => absurd q (of_decide_eq_false hc)) (fun _ => w)
  · cases h

theorem st_icmp_gt {off : Int} (hrec : rsound P E l D dA B HB ρ rec) (hd : decode (E.2.1 μ) pc = .ok (.if_icmp .gt off, 3)) (h : rinstr P rec μ d pc ls st σ k pa cells slots (.if_icmp .gt off) len act = some r) : rgoal P E l D dA B HB ρ r μ d pc ls st σ cells slots := by
  simp only [rinstr] at h
  split at h
  · next y x st =>
    obtain ⟨t, ht, h⟩ := rjmp_ok h
    obtain ⟨b1, b2, h | h⟩ := rbr_ok h
    · obtain ⟨pa', r', h1, h2, h4⟩ := h
      refine rpure h2 (hrec _ _ _ _ _ _ _ _ _ _ _ h1) fun ν hν => ⟨(h4 ν hν).1, fun p e R s m args below meth c H locs lsR Q C hl _ _ w => ?_⟩
      have hc := (h4 ν hν).2
      rw [List.map_cons, List.map_cons, rg_i b2, rg_i b1]
      exact lv_icmp_gt C.1 C.2.1 hd ht (fun _ => w) (fun q => absurd (of_decide_eq_true hc) q)
    · obtain ⟨pa', r', h1, h2, h4⟩ := h
      rw [rn_eq] at h1
      refine rpure h2 (hrec _ _ _ _ _ _ _ _ _ _ _ h1) fun ν hν => ⟨(h4 ν hν).1, fun p e R s m args below meth c H locs lsR Q C hl _ _ w => ?_⟩
      have hc := (h4 ν hν).2
      rw [List.map_cons, List.map_cons, rg_i b2, rg_i b1]
      exact lv_icmp_gt C.1 C.2.1 hd ht (fun q => absurd q (of_decide_eq_false hc)) (fun _ => w)
  · cases h

theorem st_if_le {off : Int} (hrec : rsound P E l D dA B HB ρ rec) (hd : decode (E.2.1 μ) pc = .ok (.ifCond .le off, 3)) (h : rinstr P rec μ d pc ls st σ k pa cells slots (.ifCond .le off) len act = some r) : rgoal P E l D dA B HB ρ r μ d pc ls st σ cells slots := by
  simp only [rinstr] at h
  split at h
  · next x st =>
    obtain ⟨t, ht, h⟩ := rjmp_ok h
    obtain ⟨b1, b2, h | h⟩ := rbr_ok h
    · obtain ⟨pa', r', h1, h2, h4⟩ := h
      refine rpure h2 (hrec _ _ _ _ _ _ _ _ _ _ _ h1) fun ν hν => ⟨(h4 ν hν).1, fun p e R s m args below meth c H locs lsR Q C hl _ _ w => ?_⟩
      have hc := (h4 ν hν).2
      rw [List.map_cons, rg_i b1]
      exact lv_if_le C.1 C.2.1 hd ht (fun _ => w) (fun q => absurd (of_decide_eq_true hc) q)
    · obtain ⟨pa', r', h1, h2, h4⟩ := h
      rw [rn_eq] at h1
      refine rpure h2 (hrec _ _ _ _ _ _ _ _ _ _ _ h1) fun ν hν => ⟨(h4 ν hν).1, fun p e R s m args below meth c H locs lsR Q C hl _ _ w => ?_⟩
      have hc := (h4 ν hν).2
      rw [List.map_cons, rg_i b1]
      exact lv_if_le C.1 C.2.1 hd ht (fun q => absurd q (of_decide_eq_false hc)) (fun _ => w)
  · cases h

theorem st_icmp_le {off : Int} (hrec : rsound P E l D dA B HB ρ rec) (hd : decode (E.2.1 μ) pc = .ok (.if_icmp .le off, 3)) (h : rinstr P rec μ d pc ls st σ k pa cells slots (.if_icmp .le off) len act = some r) : rgoal P E l D dA B HB ρ r μ d pc ls st σ cells slots := by
  simp only [rinstr] at h
  split at h
  · next y x st =>
    obtain ⟨t, ht, h⟩ := rjmp_ok h
    obtain ⟨b1, b2, h | h⟩ := rbr_ok h
    · obtain ⟨pa', r', h1, h2, h4⟩ := h
      refine rpure h2 (hrec _ _ _ _ _ _ _ _ _ _ _ h1) fun ν hν => ⟨(h4 ν hν).1, fun p e R s m args below meth c H locs lsR Q C hl _ _ w => ?_⟩
      have hc := (h4 ν hν).2
      rw [List.map_cons, List.map_cons, rg_i b2, rg_i b1]
      exact lv_icmp_le C.1 C.2.1 hd ht (fun _ => w) (fun q => absurd (of_decide_eq_true hc) q)
    · obtain ⟨pa', r', h1, h2, h4⟩ := h
      rw [rn_eq] at h1
      refine rpure h2 (hrec _ _ _ _ _ _ _ _ _ _ _ h1) fun ν hν => ⟨(h4 ν hν).1, fun p e R s m args below meth c H locs lsR Q C hl _ _ w => ?_⟩
      have hc := (h4 ν hν).2
      rw [List.map_cons, List.map_cons, rg_i b2, rg_i b1]
      exact lv_icmp_le C.1 C.2.1 hd ht (fun q => absurd q (of_decide_eq_false hc)) (fun _ => w)
  · cases h

theorem st_lneg (hrec : rsound P E l D dA B HB ρ rec) (hd : decode (E.2.1 μ) pc = .ok (.lneg, 1)) (h : rinstr P rec μ d pc ls st σ k pa cells slots (.lneg) len act = some r) : rgoal P E l D dA B HB ρ r μ d pc ls st σ cells slots := by
  simp only [rinstr] at h
  split at h
  · next x st =>
    rw [rcl_eq, rn_eq] at h
    exact rpure rfl (hrec _ _ _ _ _ _ _ _ _ _ _ h) fun ν hν => ⟨hν, fun p e R s m args below meth c H locs lsR Q C hl _ _ w => lv_lneg C.1 C.2.1 hd w⟩
  · cases h

theorem st_pop2 (hrec : rsound P E l D dA B HB ρ rec) (hd : decode (E.2.1 μ) pc = .ok (.pop2, 1)) (h : rinstr P rec μ d pc ls st σ k pa cells slots (.pop2) len act = some r) : rgoal P E l D dA B HB ρ r μ d pc ls st σ cells slots := by
  simp only [rinstr] at h
  split at h
  · next x st =>
    rw [rn_eq] at h
    exact rpure rfl (hrec _ _ _ _ _ _ _ _ _ _ _ h) fun ν hν => ⟨hν, fun p e R s m args below meth c H locs lsR Q C hl _ _ w => lv_pop2_2 C.1 C.2.1 hd rfl w⟩
  · cases h

theorem st_acmp_ne {off : Int} (hrec : rsound P E l D dA B HB ρ rec) (hd : decode (E.2.1 μ) pc = .ok (.if_acmp .ne off, 3)) (hρ : rho P.2.2.2.2.2.2.1 B ρ) (h : rinstr P rec μ d pc ls st σ k pa cells slots (.if_acmp .ne off) len act = some r) : rgoal P E l D dA B HB ρ r μ d pc ls st σ cells slots := by
  simp only [rinstr] at h
  split at h
  · next b a st =>
    obtain ⟨t, ht, h2⟩ := rjmp_ok h
    clear h
    split at h2
    · next hb =>
      have hb := Nat.eq_of_beq_eq_true hb
      subst hb
      rw [rn_eq] at h2
      exact rpure rfl (hrec _ _ _ _ _ _ _ _ _ _ _ h2) fun ν hν => ⟨hν, fun p e R s m args below meth c H locs lsR Q C hl _ _ w => lv_acmp_ne (rx := some (ρ a)) (ry := some (ρ a)) C.1 C.2.1 hd ht (fun q => absurd rfl q) (fun _ => w)⟩
    · next hb =>
      split at h2
      · next hs =>
        have hs := Nat.le_of_ble_eq_true hs
        have hne : ρ a ≠ ρ b := fun q => by
          have := hρ.inj hs q
          subst this
          rw [Nat.beq_refl] at hb
          cases hb
        exact rpure rfl (hrec _ _ _ _ _ _ _ _ _ _ _ h2) fun ν hν => ⟨hν, fun p e R s m args below meth c H locs lsR Q C hl _ _ w => lv_acmp_ne (rx := some (ρ a)) (ry := some (ρ b)) C.1 C.2.1 hd ht (fun _ => w) (fun q => absurd (Option.some.inj q) hne)⟩
      · cases h2
  · next b st =>
    obtain ⟨t, ht, h⟩ := rjmp_ok h
    exact rpure rfl (hrec _ _ _ _ _ _ _ _ _ _ _ h) fun ν hν => ⟨hν, fun p e R s m args below meth c H locs lsR Q C hl _ _ w => lv_acmp_ne (rx := none) (ry := some (ρ b)) C.1 C.2.1 hd ht (fun _ => w) (fun q => by cases q)⟩
  · cases h

theorem rpick_eq (x dflt : Int) : ∀ l : List (Int × Int), rpick x dflt l = Op.lookupswitch.offset l dflt x
  | [] => rfl
  | (a, o) :: l => by
    rw [Op.lookupswitch.offset_cons]
    show (bif decide (a = x) then o else rpick x dflt l) = _
    rw [rpick_eq x dflt l]
    by_cases h : a = x
    · rw [if_pos h, decide_eq_true h]; rfl
    · rw [if_neg h, decide_eq_false h]; rfl
theorem st_lookup {dflt : Int} {ps : Array (Int × Int)} (hrec : rsound P E l D dA B HB ρ rec) (hd : decode (E.2.1 μ) pc = .ok (.lookupswitch dflt ps, len)) (hp : (ps.toList.zip (ps.toList.drop 1)).all (fun (a, next) => a.1 < next.1) = true) (h : rinstr P rec μ d pc ls st σ k pa cells slots (.lookupswitch dflt ps) len act = some r) : rgoal P E l D dA B HB ρ r μ d pc ls st σ cells slots := by
  simp only [rinstr] at h
  split at h
  · next x st =>
    obtain ⟨t, ht, h⟩ := rjmp_ok h
    exact rpure rfl (hrec _ _ _ _ _ _ _ _ _ _ _ h) fun ν hν => ⟨hν, fun p e R s m args below meth c H locs lsR Q C hl _ _ w => lv_lookup C.1 C.2.1 hd hp (rpick_eq _ _ _).symm ht w⟩
  · cases h

end ST
