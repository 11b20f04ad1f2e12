abbrev V41_Br : vV := [(1, 0, [])]
theorem len_V41_Br_oz_B3cls : (V41_Br).length = 1 := by decide +kernel
/-- PackHouse.word: #1 -/
theorem C41_Br {σE : rS} {D N : Nat → Nat} {F : hF} {A : hA} {d c s : Nat} {Q : wQ} (H : HW V41_Br σE D N F A) {a2 : Int} (n0 : Int) (en0 : (N 0 : Int) = n0) (h0 : inr (a2)) (h1 : 0 ≤ (a2) ∧ (a2) + 4 ≤ (n0)) (k : ∀ (z : Int) (σ : rS) (Fₚ : hF) (Aₚ : hA), HW V41_Br σ D N Fₚ Aₚ → OUT (V41_Br).length D N σE c s D N σ c s → SF [] F Fₚ → SA [] A Aₚ → (inr (z)) → Q (some (I z)) σ c s) : Ew 41 (d + 0) 0 (rargs 0 [.ref (D 0), I a2]) [] σE c s Q := by
  have O := OUT_refl (n := (V41_Br).length) (D := D) (N := N) (σ := σE) (c := c) (s := s)
  have HE := H
  have r1 : (0 : Int) ≤ n0 ∧ n0 ≤ 1000000 := nleE (H.nle 0 (ltn len_V41_Br_oz_B3cls rfl)) (show (N 0 : Int) = n0 from en0)
  refine Ew_of (pcₚ := 1) (fun _ => x_aload_n rfl rfl) ?_
  refine Ew_of (pcₚ := 2) (fun _ => x_iload_n rfl rfl) ?_
  refine v_lB H (o := 0) rfl rfl rfl rfl (n := n0) (en0) (show 0 ≤ a2 ∧ a2 < n0 from q_2551 h1) (fun v2 ev2 qv2 => ?_)
  have ev2 : (A 0) (a2) = v2 := (congrFun (rfl : A 0 = A 0) (a2)).symm.trans ev2
  refine Ew_of (pcₚ := 6) (fun _ => x_sipush (z := 255) rfl (by decide)) ?_
  refine w_iand rfl (show inr (v2) from q_2536 qv2) (show inr (255) from q_36) (fun z3 gz3 gaz3 gbz3 => ?_)
  refine Ew_of (pcₚ := 8) (fun _ => x_aload_n rfl rfl) ?_
  refine Ew_of (pcₚ := 9) (fun _ => x_iload_n rfl rfl) ?_
  refine Ew_of (pcₚ := 10) (fun _ => x_iconst rfl) ?_
  refine w_iadd rfl ?_
  refine v_lB H (o := 0) rfl rfl rfl rfl (n := n0) (en0) (show 0 ≤ (a2 + 1) ∧ (a2 + 1) < n0 from q_2552 h1) (fun v4 ev4 qv4 => ?_)
  have ev4 : (A 0) ((a2 + 1)) = v4 := (congrFun (rfl : A 0 = A 0) ((a2 + 1))).symm.trans ev4
  refine Ew_of (pcₚ := 15) (fun _ => x_sipush (z := 255) rfl (by decide)) ?_
  refine w_iand rfl (show inr (v4) from q_2536 qv4) (show inr (255) from q_36) (fun z5 gz5 gaz5 gbz5 => ?_)
  refine Ew_of (pcₚ := 18) (fun _ => x_bipush (z := 8) rfl (by decide)) ?_
  refine w_ishlA rfl (fun z6 gz6 => ?_)
  refine w_ior rfl (fun z7 gz7 => ?_)
  refine Ew_of (pcₚ := 21) (fun _ => x_aload_n rfl rfl) ?_
  refine Ew_of (pcₚ := 22) (fun _ => x_iload_n rfl rfl) ?_
  refine Ew_of (pcₚ := 23) (fun _ => x_iconst rfl) ?_
  refine w_iadd rfl ?_
  refine v_lB H (o := 0) rfl rfl rfl rfl (n := n0) (en0) (show 0 ≤ (a2 + 2) ∧ (a2 + 2) < n0 from q_2553 h1) (fun v8 ev8 qv8 => ?_)
  have ev8 : (A 0) ((a2 + 2)) = v8 := (congrFun (rfl : A 0 = A 0) ((a2 + 2))).symm.trans ev8
  refine Ew_of (pcₚ := 28) (fun _ => x_sipush (z := 255) rfl (by decide)) ?_
  refine w_iand rfl (show inr (v8) from q_2536 qv8) (show inr (255) from q_36) (fun z9 gz9 gaz9 gbz9 => ?_)
  refine Ew_of (pcₚ := 31) (fun _ => x_bipush (z := 16) rfl (by decide)) ?_
  refine w_ishlA rfl (fun z10 gz10 => ?_)
  refine w_ior rfl (fun z11 gz11 => ?_)
  refine Ew_of (pcₚ := 34) (fun _ => x_aload_n rfl rfl) ?_
  refine Ew_of (pcₚ := 35) (fun _ => x_iload_n rfl rfl) ?_
  refine Ew_of (pcₚ := 36) (fun _ => x_iconst rfl) ?_
  refine w_iadd rfl ?_
  refine v_lB H (o := 0) rfl rfl rfl rfl (n := n0) (en0) (show 0 ≤ (a2 + 3) ∧ (a2 + 3) < n0 from q_2554 h1) (fun v12 ev12 qv12 => ?_)
  have ev12 : (A 0) ((a2 + 3)) = v12 := (congrFun (rfl : A 0 = A 0) ((a2 + 3))).symm.trans ev12
  refine Ew_of (pcₚ := 40) (fun _ => x_bipush (z := 24) rfl (by decide)) ?_
  refine w_ishlA rfl (fun z13 gz13 => ?_)
  refine w_ior rfl (fun z14 gz14 => ?_)
  exact w_ireturn rfl (k (z14) _ _ _ H O (SF_refl) (SA_refl) (show inr (z14) from gz14))
abbrev V42_Br : vV := [(1, 0, [])]
theorem len_V42_Br_oz_B3cls : (V42_Br).length = 1 := by decide +kernel
def oz_B3clsl_0 : List (Nat × Nat) := []
theorem oz_B3cls_2 : (oz_B3clsl_0).all (fun p => !tbz 0 (Nat.add (Nat.mul 32 p.1) p.2)) = true := by decide +kernel
def oz_B3clsl_1 : List Nat := []
theorem oz_B3cls_3 : (oz_B3clsl_1).all (fun p => !tbz 0 p) = true := by decide +kernel
/-- PackHouse.number: #1 -/
theorem C42_Br {σE : rS} {D N : Nat → Nat} {F : hF} {A : hA} {d c s : Nat} {Q : wQ} (H : HW V42_Br σE D N F A) {a2 a3 : Int} (n0 : Int) (en0 : (N 0 : Int) = n0) (h0 : inr (a2)) (h1 : inr (a3)) (h2 : (a3) ≤ 0 ∨ 0 ≤ (a2) ∧ (a2) + (a3) ≤ (n0)) (h3 : 0 ≤ (a3)) (k : ∀ (z : Int) (σ : rS) (Fₚ : hF) (Aₚ : hA), HW V42_Br σ D N Fₚ Aₚ → OUT (V42_Br).length D N σE c s D N σ c s → SF [] F Fₚ → SA [] A Aₚ → (inrJ (z)) → (NBY ((a3)) ((z))) → Q (some (J z)) σ c s) : Ew 42 (d + 0) 0 (rargs 0 [.ref (D 0), I a2, I a3]) [] σE c s Q := by
  have O := OUT_refl (n := (V42_Br).length) (D := D) (N := N) (σ := σE) (c := c) (s := s)
  have HE := H
  have r1 : (0 : Int) ≤ n0 ∧ n0 ≤ 1000000 := nleE (H.nle 0 (ltn len_V42_Br_oz_B3cls rfl)) (show (N 0 : Int) = n0 from en0)
  refine Ew_of (pcₚ := 1) (fun _ => x_lconst (z := 0) rfl (by decide)) ?_
  refine Ew_of (pcₚ := 2) (fun _ => x_lstore_n rfl) ?_
  refine Ew_of (pcₚ := 3) (fun _ => x_iload_n rfl (rk2_o (rfl) rfl rfl)) ?_
  refine Ew_of (pcₚ := 4) (fun _ => x_iconst rfl) ?_
  refine w_isub rfl ?_
  refine Ew_of (pcₚ := 7) (fun _ => x_istore rfl) ?_
  have : NBY ((a3) - 1 - ((a3) - 1)) 0 := by rw [show (a3) - 1 - ((a3) - 1) = 0 by omega]; exact NBY_0 (by omega : (0 : Int) ≤ 0)
  suffices hl7 : ∀ (m : Nat), ∀ (ls : rO) (σ : rS) (F_7 : hF) (A_7 : hA) (x7_3 : Int) (x7_5 : Int), rlook ls 0 = some (.ref (D 0)) → rlook ls 1 = some (I (a2)) → rlook ls 3 = some (J (x7_3)) → rlook ls 5 = some (I (x7_5)) → HW V42_Br σ D N F_7 A_7 → OUT (V42_Br).length D N σE c s D N σ c s → SF [] F F_7 → SA [] A A_7 → (inrJ (x7_3)) → (inr (x7_5)) → ((x7_5) ≤ ((a3 - 1))) → (((a3 - 1)) ≤ (x7_5) ∨ ((-1)) ≤ (x7_5)) → (NBY ((a3) - 1 - (x7_5)) ((x7_3))) → ((x7_5) - ((-1))).toNat = m → Ew 42 (d + 0) 7 ls [] σ c s Q from
    hl7 _ _ _ _ _ (0) ((a3 - 1)) (rk_o (rk2_o (rfl) rfl rfl) rfl rfl) (rk_o (rk2_o (rfl) rfl rfl) rfl rfl) (rk_o (rk2_s) rfl rfl) (rk_s) H O (SF_refl) (SA_refl)     (show inrJ (0) from q_81) (show inr ((a3 - 1)) from q_2555 h1 h3) (show ((a3 - 1)) ≤ ((a3 - 1)) from q_163) (show ((a3 - 1)) ≤ ((a3 - 1)) ∨ ((-1)) ≤ ((a3 - 1)) from q_162) (show NBY ((a3) - 1 - ((a3 - 1))) ((0)) by assumption) rfl
  as_aux_lemma =>
  intro m
  induction m using Nat.strongRecOn with
  | _ m ih7 =>
    intro ls σ F_7 A_7 x7_3 x7_5 l7_0 l7_1 l7_3 l7_5 H O hS_7 hA_7     j7_0 j7_1 j7_2 j7_3 j7_4 hm7
    have cF_7 : SF oz_B3clsl_0 F F_7 := SF_trans (SF_refl) hS_7 (any_sub (by decide +kernel))
    have mF_7 := SFm_of cF_7 oz_B3cls_2
    have cA_7 : SA oz_B3clsl_1 A A_7 := SA_trans (SA_refl) hA_7 (any_subA (by decide +kernel))
    have mA_7 := SAm_of cA_7 oz_B3cls_3
    have j7_n : NBY ((a3) - 1 - (x7_5)) ((x7_3)) := j7_4
    refine Ew_of (pcₚ := 9) (fun _ => x_iload rfl l7_5) ?_
    refine w_iflt (t := 35) rfl rfl (show inr (x7_5) from j7_1) (fun b2 => ?_) (fun b2 => ?_)
    · have : NBY ((a3)) ((x7_3)) := by have h0 : (a3) - 1 - (x7_5) = (a3) := (by omega); rw [h0] at j7_n; exact j7_n
      refine Ew_of (pcₚ := 36) (fun _ => x_lload_n rfl l7_3) ?_
      exact w_lreturn rfl (k (x7_3) _ _ _ H O (cF_7) (cA_7) (show inrJ (x7_3) from j7_0) (show NBY (a3) ((x7_3)) by assumption))
    · refine Ew_of (pcₚ := 13) (fun _ => x_lload_n rfl l7_3) ?_
      refine Ew_of (pcₚ := 15) (fun _ => x_bipush (z := 8) rfl (by decide)) ?_
      refine w_lshlK 8 256 (by decide) (by decide) rfl (fun z3 gz3 dz3 => ?_)
      refine Ew_of (pcₚ := 17) (fun _ => x_aload_n rfl l7_0) ?_
      refine Ew_of (pcₚ := 18) (fun _ => x_iload_n rfl l7_1) ?_
      refine Ew_of (pcₚ := 20) (fun _ => x_iload rfl l7_5) ?_
      refine w_iadd rfl ?_
      refine v_lB H (o := 0) rfl rfl rfl rfl (n := n0) (en0) (show 0 ≤ (a2 + x7_5) ∧ (a2 + x7_5) < n0 from q_2556 b2 h0 h2 j7_2 j7_3 r1) (fun v4 ev4 qv4 => ?_)
      have ev4 : (A 0) ((a2 + x7_5)) = v4 := (congrFun (funext (mA_7 0 rfl)) ((a2 + x7_5))).symm.trans ev4
      refine Ew_of (pcₚ := 25) (fun _ => x_sipush (z := 255) rfl (by decide)) ?_
      refine w_iand rfl (show inr (v4) from q_2536 qv4) (show inr (255) from q_36) (fun z5 gz5 gaz5 gbz5 => ?_)
      refine w_i2l rfl (show inr (z5) from gz5) ?_
      refine w_lorN rfl (show inrJ (z3) by omega) (show inrJ (z5) from q_428 gz5) (fun z6 gz6 dz6 => ?_)
      have : NBY ((a3) - 1 - ((x7_5) + (-1))) ((z6)) := by rw [show (a3) - 1 - ((x7_5) + (-1)) = (a3) - 1 - (x7_5) + 1 by omega]; exact NBY_step j7_n (by omega) (fun q w1 w2 => by have hp : p2 (8 * ((a3) - 1 - (x7_5))) ≤ p2 48 := p2_mono (by omega); rw [show p2 48 = 281474976710656 from by decide] at hp; omega)
      refine Ew_of (pcₚ := 29) (fun _ => x_lstore_n rfl) ?_
      refine Ew_of (pcₚ := 32) (fun _ => x_iinc (len := 3) rfl (rk2_o (l7_5) rfl rfl)) ?_
      refine Ew_of (pcₚ := 7) (fun _ => x_goto rfl rfl) ?_
      exact ih7 _ (msE hm7 q_176 (q_177 b2)) _ _ _ _ (z6) ((x7_5 + (-1))) (rk_o (rk2_o (l7_0) rfl rfl) rfl rfl) (rk_o (rk2_o (l7_1) rfl rfl) rfl rfl) (rk_o (rk2_s) rfl rfl) (rk_s) H O (hS_7) (hA_7)     (show inrJ (z6) by omega) (show inr ((x7_5 + (-1))) from q_175 b2 j7_1) (show ((x7_5 + (-1))) ≤ ((a3 - 1)) from q_174 j7_2) (show ((a3 - 1)) ≤ ((x7_5 + (-1))) ∨ ((-1)) ≤ ((x7_5 + (-1))) from q_173 b2) (show NBY ((a3) - 1 - ((x7_5 + (-1)))) ((z6)) by assumption) rfl
abbrev V46 : vV := []
theorem len_V46_oz_B3cls : (V46).length = 0 := by decide +kernel
/-- PackHouse.rotated:  -/
theorem C46 {σE : rS} {D N : Nat → Nat} {F : hF} {A : hA} {d c s : Nat} {Q : wQ} (H : HW V46 σE D N F A) {a1 a2 : Int} (h0 : inr (a1)) (h1 : inr (a2)) (k : ∀ (z : Int) (σ : rS) (Fₚ : hF) (Aₚ : hA), HW V46 σ D N Fₚ Aₚ → OUT (V46).length D N σE c s D N σ c s → SF [] F Fₚ → SA [] A Aₚ → (inr (z)) → Q (some (I z)) σ c s) : Ew 46 (d + 0) 0 (rargs 0 [I a1, I a2]) [] σE c s Q := by
  have O := OUT_refl (n := (V46).length) (D := D) (N := N) (σ := σE) (c := c) (s := s)
  have HE := H
  refine Ew_of (pcₚ := 1) (fun _ => x_iload_n rfl rfl) ?_
  refine Ew_of (pcₚ := 2) (fun _ => x_iload_n rfl rfl) ?_
  refine w_ishlA rfl (fun z1 gz1 => ?_)
  refine Ew_of (pcₚ := 4) (fun _ => x_iload_n rfl rfl) ?_
  refine Ew_of (pcₚ := 6) (fun _ => x_bipush (z := 32) rfl (by decide)) ?_
  refine Ew_of (pcₚ := 7) (fun _ => x_iload_n rfl rfl) ?_
  refine w_isubA rfl (fun z2 gz2 => ?_)
  refine w_iushrA rfl (fun z3 gz3 => ?_)
  refine w_ior rfl (fun z4 gz4 => ?_)
  exact w_ireturn rfl (k (z4) _ _ _ H O (SF_refl) (SA_refl) (show inr (z4) from gz4))
abbrev V47 : vV := []
theorem len_V47_oz_B3cls : (V47).length = 0 := by decide +kernel
/-- PackHouse.rotated:  -/
theorem C47 {σE : rS} {D N : Nat → Nat} {F : hF} {A : hA} {d c s : Nat} {Q : wQ} (H : HW V47 σE D N F A) {a1 a2 : Int} (h0 : inrJ (a1)) (h1 : inr (a2)) (k : ∀ (z : Int) (σ : rS) (Fₚ : hF) (Aₚ : hA), HW V47 σ D N Fₚ Aₚ → OUT (V47).length D N σE c s D N σ c s → SF [] F Fₚ → SA [] A Aₚ → (inrJ (z)) → Q (some (J z)) σ c s) : Ew 47 (d + 0) 0 (rargs 0 [J a1, I a2]) [] σE c s Q := by
  have O := OUT_refl (n := (V47).length) (D := D) (N := N) (σ := σE) (c := c) (s := s)
  have HE := H
  refine Ew_of (pcₚ := 1) (fun _ => x_lload_n rfl rfl) ?_
  refine Ew_of (pcₚ := 2) (fun _ => x_iload_n rfl rfl) ?_
  refine w_lshlA rfl (fun z1 gz1 => ?_)
  refine Ew_of (pcₚ := 4) (fun _ => x_lload_n rfl rfl) ?_
  refine Ew_of (pcₚ := 6) (fun _ => x_bipush (z := 64) rfl (by decide)) ?_
  refine Ew_of (pcₚ := 7) (fun _ => x_iload_n rfl rfl) ?_
  refine w_isubA rfl (fun z2 gz2 => ?_)
  refine w_lushrA rfl (fun z3 gz3 => ?_)
  refine w_lorA rfl (fun z4 gz4 => ?_)
  exact w_lreturn rfl (k (z4) _ _ _ H O (SF_refl) (SA_refl) (show inrJ (z4) from gz4))
abbrev V48 : vV := []
theorem len_V48_oz_B3cls : (V48).length = 0 := by decide +kernel
theorem oz_B3cls_7 : vsub V48 V46 [] = true := by decide +kernel
theorem oz_B3cls_8 : okc oz_B3clsl_1 0 = true := by decide +kernel
/-- PackHouse.narrowLane:  -/
theorem C48 {σE : rS} {D N : Nat → Nat} {F : hF} {A : hA} {d c s : Nat} {Q : wQ} (H : HW V48 σE D N F A) {a1 a2 : Int} (h0 : inr (a1)) (h1 : inr (a2)) (k : ∀ (z : Int) (σ : rS) (Fₚ : hF) (Aₚ : hA), HW V48 σ D N Fₚ Aₚ → OUT (V48).length D N σE c s D N σ c s → SF [] F Fₚ → SA [] A Aₚ → (inr (z)) → Q (some (I z)) σ c s) : Ew 48 (d + 1) 0 (rargs 0 [I a1, I a2]) [] σE c s Q := by
  have O := OUT_refl (n := (V48).length) (D := D) (N := N) (σ := σE) (c := c) (s := s)
  have HE := H
  refine Ew_of (pcₚ := 1) (fun _ => x_iload_n rfl rfl) ?_
  refine Ew_of (pcₚ := 2) (fun _ => x_iload_n rfl rfl) ?_
  refine Ew_of (pcₚ := 5) (fun _ => x_ldc_w (z := -2048144777) rfl (by decide)) ?_
  refine w_imulA rfl (fun z1 gz1 => ?_)
  refine w_iaddA rfl (fun z2 gz2 => ?_)
  refine Ew_of (pcₚ := 9) (fun _ => x_bipush (z := 13) rfl (by decide)) ?_
  refine w_stat24 rfl rfl (by rfl) (C46 (D := puc 0 D) (N := puc 0 N) (HW_subc H oz_B3cls_7 oz_B3cls_8) (show inr (z2) from gz2) (show inr (13) from q_90) (fun z3 σ3 F3ₚ A3ₚ Hₚ Oₚ hS3 hA3 pz3_0 => ⟨rfl, ?_⟩))
  refine v_backc (c := c) (s := s) H oz_B3cls_7 oz_B3cls_8 Hₚ Oₚ (fun F3 A3 H Oₚ eF3 eA3 => ?_)
  have O := OUT_trans O Oₚ
  -- PackHouse.rotated
  have cF3 : SF oz_B3clsl_0 F F3 := SF_trans (SF_refl) (SF_gluc (ι := oz_B3clsl_1) oz_B3cls_8 hS3 eF3 (by decide +kernel)) (any_sub (lₚ := []) (by decide +kernel))
  have mF3 := SFm_of cF3 oz_B3cls_2
  have cA3 : SA oz_B3clsl_1 A A3 := SA_trans (SA_refl) (SA_gluc (ι := oz_B3clsl_1) oz_B3cls_8 hA3 eA3 (by decide +kernel)) (any_subA (lₚ := []) (by decide +kernel))
  have mA3 := SAm_of cA3 oz_B3cls_3
  refine Ew_of (pcₚ := 15) (fun _ => x_ldc_w (z := -1640531535) rfl (by decide)) ?_
  refine w_imulA rfl (fun z4 gz4 => ?_)
  exact w_ireturn rfl (k (z4) _ _ _ H O (cF3) (cA3) (show inr (z4) from gz4))
abbrev V50 : vV := []
theorem len_V50_oz_B3cls : (V50).length = 0 := by decide +kernel
theorem oz_B3cls_10 : vsub V50 V47 [] = true := by decide +kernel
/-- PackHouse.wideLane:  -/
theorem C50 {σE : rS} {D N : Nat → Nat} {F : hF} {A : hA} {d c s : Nat} {Q : wQ} (H : HW V50 σE D N F A) {a1 a2 : Int} (h0 : inrJ (a1)) (h1 : inrJ (a2)) (k : ∀ (z : Int) (σ : rS) (Fₚ : hF) (Aₚ : hA), HW V50 σ D N Fₚ Aₚ → OUT (V50).length D N σE c s D N σ c s → SF [] F Fₚ → SA [] A Aₚ → (inrJ (z)) → Q (some (J z)) σ c s) : Ew 50 (d + 1) 0 (rargs 0 [J a1, J a2]) [] σE c s Q := by
  have O := OUT_refl (n := (V50).length) (D := D) (N := N) (σ := σE) (c := c) (s := s)
  have HE := H
  refine Ew_of (pcₚ := 1) (fun _ => x_lload_n rfl rfl) ?_
  refine Ew_of (pcₚ := 2) (fun _ => x_lload_n rfl rfl) ?_
  refine Ew_of (pcₚ := 5) (fun _ => x_ldc2 (z := -4417276706812531889) rfl (by decide)) ?_
  refine w_lmulA rfl (fun z1 gz1 => ?_)
  refine w_laddA rfl (fun z2 gz2 => ?_)
  refine Ew_of (pcₚ := 9) (fun _ => x_bipush (z := 31) rfl (by decide)) ?_
  refine w_stat24 rfl rfl (by rfl) (C47 (D := puc 0 D) (N := puc 0 N) (HW_subc H oz_B3cls_10 oz_B3cls_8) (show inrJ (z2) from gz2) (show inr (31) from q_62) (fun z3 σ3 F3ₚ A3ₚ Hₚ Oₚ hS3 hA3 pz3_0 => ⟨rfl, ?_⟩))
  refine v_backc (c := c) (s := s) H oz_B3cls_10 oz_B3cls_8 Hₚ Oₚ (fun F3 A3 H Oₚ eF3 eA3 => ?_)
  have O := OUT_trans O Oₚ
  -- PackHouse.rotated
  have cF3 : SF oz_B3clsl_0 F F3 := SF_trans (SF_refl) (SF_gluc (ι := oz_B3clsl_1) oz_B3cls_8 hS3 eF3 (by decide +kernel)) (any_sub (lₚ := []) (by decide +kernel))
  have mF3 := SFm_of cF3 oz_B3cls_2
  have cA3 : SA oz_B3clsl_1 A A3 := SA_trans (SA_refl) (SA_gluc (ι := oz_B3clsl_1) oz_B3cls_8 hA3 eA3 (by decide +kernel)) (any_subA (lₚ := []) (by decide +kernel))
  have mA3 := SAm_of cA3 oz_B3cls_3
  refine Ew_of (pcₚ := 15) (fun _ => x_ldc2 (z := -7046029288634856825) rfl (by decide)) ?_
  refine w_lmulA rfl (fun z4 gz4 => ?_)
  exact w_lreturn rfl (k (z4) _ _ _ H O (cF3) (cA3) (show inrJ (z4) from gz4))
abbrev V54 : vV := []
theorem len_V54_oz_B3cls : (V54).length = 0 := by decide +kernel
theorem oz_B3cls_12 : vsub V54 V46 [] = true := by decide +kernel
/-- PackHouse.maskedSum:  -/
theorem C54 {σE : rS} {D N : Nat → Nat} {F : hF} {A : hA} {d c s : Nat} {Q : wQ} (H : HW V54 σE D N F A) {a1 : Int} (h0 : inr (a1)) (k : ∀ (z : Int) (σ : rS) (Fₚ : hF) (Aₚ : hA), HW V54 σ D N Fₚ Aₚ → OUT (V54).length D N σE c s D N σ c s → SF [] F Fₚ → SA [] A Aₚ → (inr (z)) → Q (some (I z)) σ c s) : Ew 54 (d + 1) 0 (rargs 0 [I a1]) [] σE c s Q := by
  have O := OUT_refl (n := (V54).length) (D := D) (N := N) (σ := σE) (c := c) (s := s)
  have HE := H
  refine Ew_of (pcₚ := 1) (fun _ => x_iload_n rfl rfl) ?_
  refine Ew_of (pcₚ := 3) (fun _ => x_bipush (z := 17) rfl (by decide)) ?_
  refine w_stat24 rfl rfl (by rfl) (C46 (D := puc 0 D) (N := puc 0 N) (HW_subc H oz_B3cls_12 oz_B3cls_8) (show inr (a1) from h0) (show inr (17) from q_342) (fun z1 σ1 F1ₚ A1ₚ Hₚ Oₚ hS1 hA1 pz1_0 => ⟨rfl, ?_⟩))
  refine v_backc (c := c) (s := s) H oz_B3cls_12 oz_B3cls_8 Hₚ Oₚ (fun F1 A1 H Oₚ eF1 eA1 => ?_)
  have O := OUT_trans O Oₚ
  -- PackHouse.rotated
  have cF1 : SF oz_B3clsl_0 F F1 := SF_trans (SF_refl) (SF_gluc (ι := oz_B3clsl_1) oz_B3cls_8 hS1 eF1 (by decide +kernel)) (any_sub (lₚ := []) (by decide +kernel))
  have mF1 := SFm_of cF1 oz_B3cls_2
  have cA1 : SA oz_B3clsl_1 A A1 := SA_trans (SA_refl) (SA_gluc (ι := oz_B3clsl_1) oz_B3cls_8 hA1 eA1 (by decide +kernel)) (any_subA (lₚ := []) (by decide +kernel))
  have mA1 := SAm_of cA1 oz_B3cls_3
  refine Ew_of (pcₚ := 9) (fun _ => x_ldc_w (z := -1568478504) rfl (by decide)) ?_
  refine w_iaddA rfl (fun z2 gz2 => ?_)
  exact w_ireturn rfl (k (z2) _ _ _ H O (cF1) (cA1) (show inr (z2) from gz2))
