abbrev V34 : vV := [(0, 0, [(4, 0), (4, 0), (4, 0), (4, 0), (4, 0), (4, 0), (4, 0), (4, 0), (4, 0), (4, 0), (4, 0), (4, 0), (4, 0), (4, 0), (4, 0), (4, 0), (4, 0), (0, 0), (0, 0)]), (1, 1, [])]
theorem len_V34_oz_R5cls : (V34).length = 2 := by decide +kernel
theorem oz_R5cls_1 : vsub V34 V133_Ir [1] = true := by decide +kernel
def oz_R5clsl_0 : List (Nat × Nat) := []
theorem oz_R5cls_2 : (oz_R5clsl_0).all (fun p => !tbz 0 (Nat.add (Nat.mul 32 p.1) p.2)) = true := by decide +kernel
def oz_R5clsl_1 : List Nat := []
theorem oz_R5cls_3 : (oz_R5clsl_1).all (fun p => !tbz 0 p) = true := by decide +kernel
def oz_R5clsl_2 : List Nat := [1]
theorem oz_R5cls_4 : okc oz_R5clsl_2 1 = true := by decide +kernel
/-- PackHouse.boundOf: this, this.settings -/
theorem C34 {σE : rS} {D N : Nat → Nat} {F : hF} {A : hA} {d c s : Nat} {Q : wQ} (H : HW V34 σE D N F A) {a1 a2 : Int} (pf1 : HID (F 0 1 = (D 1 : Int))) (n1 : Int) (en1 : HID ((N 1 : Int) = n1)) (w1 : Int → Int) (ew1 : A 1 = w1) (h0 : inr (a1)) (h1 : inr (a2)) (h2 : 0 ≤ (a2) ∧ (a2) ≤ 16384) (h3 : 1 ≤ ((w1)) 2 ∧ ((w1)) 2 ≤ 65536) (h4 : 0 ≤ ((w1)) 8 ∧ ((w1)) 8 ≤ 11) (h5 : 0 ≤ ((w1)) 6 ∧ ((w1)) 6 ≤ 255) (h6 : (n1) = 10) (k : ∀ (z : Int) (σ : rS) (Fₚ : hF) (Aₚ : hA), HW V34 σ D N Fₚ Aₚ → OUT (V34).length D N σE c s D N σ c s → SF [] F Fₚ → SA [] A Aₚ → (inr (z)) → Q (some (I z)) σ c s) : Ew 34 (d + 2) 0 (rargs 0 [.ref (D 0), I a1, I a2]) [] σE c s Q := by
  have O := OUT_refl (n := (V34).length) (D := D) (N := N) (σ := σE) (c := c) (s := s)
  have HE := H
  have r1 : HID ((0 : Int) ≤ n1 ∧ n1 ≤ 1000000) := nrng (H.nle 1 (ltn len_V34_oz_R5cls rfl)) (show (N 1 : Int) = n1 from en1)
  refine Ew_of (pcₚ := 1) (fun _ => x_iload_n rfl rfl) ?_
  refine Ew_of (pcₚ := 2) (fun _ => x_aload_n rfl rfl) ?_
  refine v_g H (o := 0) (v := .ref (D 1)) rfl rfl rfl rfl rfl (vrf (pf1)) ?_
  refine Ew_of (pcₚ := 6) (fun _ => x_iconst rfl) ?_
  refine v_lI H (o := 1) rfl rfl rfl rfl (n := n1) (en1) (show 0 ≤ 2 ∧ 2 < n1 from q_4250 (HIDe r1) h6) (fun v2 ev2 (qv2 : HID _) => ?_)
  have ev2 : (w1) (2) = v2 := (congrFun (ew1) (2)).symm.trans ev2
  refine w_iadd rfl ?_
  refine Ew_of (pcₚ := 9) (fun _ => x_iconst rfl) ?_
  refine w_isub rfl ?_
  refine Ew_of (pcₚ := 11) (fun _ => x_aload_n rfl rfl) ?_
  refine v_g H (o := 0) (v := .ref (D 1)) rfl rfl rfl rfl rfl (vrf (pf1)) ?_
  refine Ew_of (pcₚ := 15) (fun _ => x_iconst rfl) ?_
  refine v_lI H (o := 1) rfl rfl rfl rfl (n := n1) (en1) (show 0 ≤ 2 ∧ 2 < n1 from q_4250 (HIDe r1) h6) (fun v3 ev3 (qv3 : HID _) => ?_)
  have ev3 : (w1) (2) = v3 := (congrFun (ew1) (2)).symm.trans ev3
  refine w_idiv rfl (show inr (((a2 + v2) - 1)) ∧ 0 ≤ ((a2 + v2) - 1) from q_4252 ev2 h2 h3) (show inr (v3) ∧ 0 < v3 from q_4251 (HIDe qv3) ev3 h3) ?_
  have hq : 0 ≤ (((((a2 + v2) - 1) / v3)) : Int) ∧ (((((a2 + v2) - 1) / v3)) : Int) ≤ (a2) + 65536 := ⟨Int.ediv_nonneg (by (have qg0 := HIDe qv2; have qg1 := HIDe qv3; omega)) (by (have qg0 := HIDe qv2; have qg1 := HIDe qv3; omega)), Int.le_trans (Int.ediv_le_self _ (by (have qg0 := HIDe qv2; have qg1 := HIDe qv3; omega))) (by (have qg0 := HIDe qv2; have qg1 := HIDe qv3; omega))⟩
  refine Ew_of (pcₚ := 18) (fun _ => x_istore_n rfl) ?_
  refine Ew_of (pcₚ := 19) (fun _ => x_iload_n rfl (rk_o (rfl) rfl rfl)) ?_
  by_cases b4 : a1 = 0
  · refine w_tsk 0 52 rfl (show inr (a1) from h0) (by omega) (by decide) rfl rfl ?_
    refine Ew_of (pcₚ := 53) (fun _ => x_iload_n rfl (rk_o (rfl) rfl rfl)) ?_
    refine Ew_of (pcₚ := 54) (fun _ => x_iload_n rfl (rk_o (rfl) rfl rfl)) ?_
    refine Ew_of (pcₚ := 57) (fun _ => x_sipush (z := 255) rfl (by decide)) ?_
    refine w_idiv rfl (show inr (a2) ∧ 0 ≤ a2 from q_4253 h1 h2) (show inr (255) ∧ 0 < 255 from q_2054) ?_
    refine w_iadd rfl ?_
    refine Ew_of (pcₚ := 61) (fun _ => x_bipush (z := 16) rfl (by decide)) ?_
    refine w_iadd rfl ?_
    exact w_ireturn rfl (k (((a2 + (a2 / 255)) + 16)) _ _ _ H O (SF_refl) (SA_refl) (show inr (((a2 + (a2 / 255)) + 16)) from q_4254 h2))
  ·
    by_cases b5 : a1 = 1
    · refine w_tsk 1 63 rfl (show inr (a1) from h0) (by omega) (by decide) rfl rfl ?_
      refine Ew_of (pcₚ := 65) (fun _ => x_bipush (z := 27) rfl (by decide)) ?_
      refine Ew_of (pcₚ := 67) (fun _ => x_bipush (z := 8) rfl (by decide)) ?_
      refine Ew_of (pcₚ := 68) (fun _ => x_iload_n rfl rk_s) ?_
      refine w_imulA rfl (fun z6 gz6 => ?_)
      refine w_iaddA rfl (fun z7 gz7 => ?_)
      refine Ew_of (pcₚ := 71) (fun _ => x_iload_n rfl (rk_o (rfl) rfl rfl)) ?_
      refine w_iaddA rfl (fun z8 gz8 => ?_)
      exact w_ireturn rfl (k (z8) _ _ _ H O (SF_refl) (SA_refl) (show inr (z8) from gz8))
    ·
      by_cases b9 : a1 = 2
      · refine w_tsk 2 73 rfl (show inr (a1) from h0) (by omega) (by decide) rfl rfl ?_
        refine Ew_of (pcₚ := 75) (fun _ => x_bipush (z := 32) rfl (by decide)) ?_
        refine Ew_of (pcₚ := 76) (fun _ => x_iload_n rfl (rk_o (rfl) rfl rfl)) ?_
        refine w_iadd rfl ?_
        refine Ew_of (pcₚ := 78) (fun _ => x_iload_n rfl (rk_o (rfl) rfl rfl)) ?_
        refine Ew_of (pcₚ := 80) (fun _ => x_bipush (z := 6) rfl (by decide)) ?_
        refine w_idiv rfl (show inr (a2) ∧ 0 ≤ a2 from q_4253 h1 h2) (show inr (6) ∧ 0 < 6 from q_2058) ?_
        refine w_iadd rfl ?_
        exact w_ireturn rfl (k (((32 + a2) + (a2 / 6))) _ _ _ H O (SF_refl) (SA_refl) (show inr (((32 + a2) + (a2 / 6))) from q_4255 h2))
      ·
        by_cases b10 : a1 = 3
        · refine w_tsk 3 83 rfl (show inr (a1) from h0) (by omega) (by decide) rfl rfl ?_
          refine Ew_of (pcₚ := 85) (fun _ => x_bipush (z := 10) rfl (by decide)) ?_
          refine Ew_of (pcₚ := 86) (fun _ => x_iload_n rfl (rk_o (rfl) rfl rfl)) ?_
          refine w_iadd rfl ?_
          refine Ew_of (pcₚ := 89) (fun _ => x_bipush (z := 8) rfl (by decide)) ?_
          refine Ew_of (pcₚ := 90) (fun _ => x_iload_n rfl rk_s) ?_
          refine w_imulA rfl (fun z11 gz11 => ?_)
          refine w_iaddA rfl (fun z12 gz12 => ?_)
          refine Ew_of (pcₚ := 93) (fun _ => x_aload_n rfl (rk_o (rfl) rfl rfl)) ?_
          refine v_g H (o := 0) (v := .ref (D 1)) rfl rfl rfl rfl rfl (vrf (pf1)) ?_
          refine Ew_of (pcₚ := 98) (fun _ => x_bipush (z := 6) rfl (by decide)) ?_
          refine v_lI H (o := 1) rfl rfl rfl rfl (n := n1) (en1) (show 0 ≤ 6 ∧ 6 < n1 from q_4256 (HIDe r1) h6) (fun v13 ev13 (qv13 : HID _) => ?_)
          have ev13 : (w1) (6) = v13 := (congrFun (ew1) (6)).symm.trans ev13
          refine w_ifle (t := 116) rfl rfl (show inr (v13) from (HIDe qv13)) (fun b14 => ?_) (fun b14 => ?_)
          · refine Ew_of (pcₚ := 117) (fun _ => x_iconst rfl) ?_
            refine w_iaddA rfl (fun z15 gz15 => ?_)
            exact w_ireturn rfl (k (z15) _ _ _ H O (SF_refl) (SA_refl) (show inr (z15) from gz15))
          · refine Ew_of (pcₚ := 103) (fun _ => x_iload_n rfl rk_s) ?_
            refine Ew_of (pcₚ := 104) (fun _ => x_iconst rfl) ?_
            refine Ew_of (pcₚ := 105) (fun _ => x_aload_n rfl (rk_o (rfl) rfl rfl)) ?_
            refine v_g H (o := 0) (v := .ref (D 1)) rfl rfl rfl rfl rfl (vrf (pf1)) ?_
            refine Ew_of (pcₚ := 110) (fun _ => x_bipush (z := 6) rfl (by decide)) ?_
            refine v_lI H (o := 1) rfl rfl rfl rfl (n := n1) (en1) (show 0 ≤ 6 ∧ 6 < n1 from q_4256 (HIDe r1) h6) (fun v16 ev16 (qv16 : HID _) => ?_)
            have ev16 : (w1) (6) = v16 := (congrFun (ew1) (6)).symm.trans ev16
            refine w_iadd rfl ?_
            refine w_imulA rfl (fun z17 gz17 => ?_)
            refine Ew_of (pcₚ := 117) (fun _ => x_goto rfl rfl) ?_
            refine w_iaddA rfl (fun z18 gz18 => ?_)
            exact w_ireturn rfl (k (z18) _ _ _ H O (SF_refl) (SA_refl) (show inr (z18) from gz18))
        ·
          by_cases b19 : a1 = 4
          · refine w_tsk 4 119 rfl (show inr (a1) from h0) (by omega) (by decide) rfl rfl ?_
            refine Ew_of (pcₚ := 120) (fun _ => x_aload_n rfl (rk_o (rfl) rfl rfl)) ?_
            refine v_g H (o := 0) (v := .ref (D 1)) rfl rfl rfl rfl rfl (vrf (pf1)) ?_
            refine Ew_of (pcₚ := 124) (fun _ => x_iload_n rfl (rk_o (rfl) rfl rfl)) ?_
            refine w_stat24 rfl rfl (by rfl) (C133_Ir (D := puc 1 D) (N := puc 1 N) (HW_subc H oz_R5cls_1 oz_R5cls_4) (n1) (en1) (w1) (ew1) (show inr (a2) from h1) (show (n1) = 10 from h6) (show 0 ≤ ((w1)) 8 ∧ ((w1)) 8 ≤ 11 from h4) (show 1 ≤ ((w1)) 2 ∧ ((w1)) 2 ≤ 65536 from h3) (show 0 ≤ (a2) ∧ (a2) ≤ 16384 from h2) (fun z20 σ20 F20ₚ A20ₚ Hₚ Oₚ hS20 hA20 pz20_0 pz20_1 => ⟨rfl, ?_⟩))
            refine v_backc (c := c) (s := s) H oz_R5cls_1 oz_R5cls_4 Hₚ Oₚ (fun F20 A20 H Oₚ eF20 eA20 => ?_)
            have O := OUT_trans O Oₚ
            -- Packer.rowLength
            have cF20 : SF oz_R5clsl_0 F F20 := SF_trans (SF_refl) (SF_gluc (ι := oz_R5clsl_2) oz_R5cls_4 hS20 eF20 (by decide +kernel)) (any_sub (lₚ := []) (by decide +kernel))
            have mF20 := SFm_of cF20 oz_R5cls_2
            have cA20 : SA oz_R5clsl_1 A A20 := SA_trans (SA_refl) (SA_gluc (ι := oz_R5clsl_2) oz_R5cls_4 hA20 eA20 (by decide +kernel)) (any_subA (lₚ := []) (by decide +kernel))
            have mA20 := SAm_of cA20 oz_R5cls_3
            refine Ew_of (pcₚ := 129) (fun _ => x_istore rfl) ?_
            refine Ew_of (pcₚ := 131) (fun _ => x_bipush (z := 22) rfl (by decide)) ?_
            refine Ew_of (pcₚ := 132) (fun _ => x_iconst rfl) ?_
            refine Ew_of (pcₚ := 133) (fun _ => x_iload_n rfl (rk_o (rk_o (rfl) rfl rfl) rfl rfl)) ?_
            refine w_ifne (t := 140) rfl rfl (show inr (a2) from h1) (fun b21 => ?_) (fun b21 => ?_)
            · refine Ew_of (pcₚ := 141) (fun _ => x_iload_n rfl (rk_o (rk_o (rfl) rfl rfl) rfl rfl)) ?_
              refine Ew_of (pcₚ := 143) (fun _ => x_iload rfl rk_s) ?_
              refine w_iadd rfl ?_
              refine Ew_of (pcₚ := 145) (fun _ => x_iconst rfl) ?_
              refine w_isub rfl ?_
              refine Ew_of (pcₚ := 148) (fun _ => x_iload rfl rk_s) ?_
              refine w_idiv rfl (show inr (((a2 + z20) - 1)) ∧ 0 ≤ ((a2 + z20) - 1) from q_4258 h2 pz20_1) (show inr (z20) ∧ 0 < z20 from q_4257 pz20_0 pz20_1) ?_
              refine w_imulA rfl (fun z22 gz22 => ?_)
              refine w_iaddA rfl (fun z23 gz23 => ?_)
              refine Ew_of (pcₚ := 152) (fun _ => x_iload_n rfl (rk_o (rk_o (rfl) rfl rfl) rfl rfl)) ?_
              refine w_iaddA rfl (fun z24 gz24 => ?_)
              exact w_ireturn rfl (k (z24) _ _ _ H O (cF20) (cA20) (show inr (z24) from gz24))
            · refine Ew_of (pcₚ := 137) (fun _ => x_iconst rfl) ?_
              refine Ew_of (pcₚ := 149) (fun _ => x_goto rfl rfl) ?_
              refine w_imulA rfl (fun z25 gz25 => ?_)
              refine w_iaddA rfl (fun z26 gz26 => ?_)
              refine Ew_of (pcₚ := 152) (fun _ => x_iload_n rfl (rk_o (rk_o (rfl) rfl rfl) rfl rfl)) ?_
              refine w_iaddA rfl (fun z27 gz27 => ?_)
              exact w_ireturn rfl (k (z27) _ _ _ H O (cF20) (cA20) (show inr (z27) from gz27))
          ·
            refine w_tsd 154 rfl (show inr (a1) from h0) (by omega) rfl ?_
            refine Ew_of (pcₚ := 157) (fun _ => x_sipush (z := 700) rfl (by decide)) ?_
            refine Ew_of (pcₚ := 158) (fun _ => x_iload_n rfl (rk_o (rfl) rfl rfl)) ?_
            refine w_iadd rfl ?_
            exact w_ireturn rfl (k ((700 + a2)) _ _ _ H O (SF_refl) (SA_refl) (show inr ((700 + a2)) from q_4259 h2))
abbrev V21 : vV := [(0, 0, [(4, 0), (4, 0), (4, 0), (4, 0), (4, 0), (4, 0), (4, 0), (4, 0), (4, 0), (4, 0), (4, 0), (4, 0), (4, 0), (4, 0), (4, 0), (4, 0), (4, 0), (0, 0), (0, 0)]), (1, 1, [])]
theorem len_V21_oz_R5cls : (V21).length = 2 := by decide +kernel
theorem oz_R5cls_6 : vsub V21 V34 [0, 1] = true := by decide +kernel
def oz_R5clsl_3 : List Nat := [0, 1]
theorem oz_R5cls_7 : okc oz_R5clsl_3 512 = true := by decide +kernel
/-- PackHouse.bound: this, this.settings -/
theorem C21 {σE : rS} {D N : Nat → Nat} {F : hF} {A : hA} {d c s : Nat} {Q : wQ} (H : HW V21 σE D N F A) {a1 a2 : Int} (pf1 : HID (F 0 1 = (D 1 : Int))) (n1 : Int) (en1 : HID ((N 1 : Int) = n1)) (w1 : Int → Int) (ew1 : A 1 = w1) (h0 : inr (a1)) (h1 : inr (a2)) (h2 : 1 ≤ ((w1)) 2 ∧ ((w1)) 2 ≤ 65536) (h3 : 0 ≤ ((w1)) 8 ∧ ((w1)) 8 ≤ 11) (h4 : 0 ≤ ((w1)) 6 ∧ ((w1)) 6 ≤ 255) (h5 : (n1) = 10) (k : ∀ (z : Int) (σ : rS) (Fₚ : hF) (Aₚ : hA), HW V21 σ D N Fₚ Aₚ → OUT (V21).length D N σE c s D N σ c s → SF [] F Fₚ → SA [] A Aₚ → (inr (z)) → Q (some (I z)) σ c s) : Ew 21 (d + 3) 0 (rargs 0 [.ref (D 0), I a1, I a2]) [] σE c s Q := by
  have O := OUT_refl (n := (V21).length) (D := D) (N := N) (σ := σE) (c := c) (s := s)
  have HE := H
  refine Ew_of (pcₚ := 1) (fun _ => x_iload_n rfl rfl) ?_
  refine w_iflt (t := 20) rfl rfl (show inr (a1) from h0) (fun b2 => ?_) (fun b2 => ?_)
  · refine Ew_of (pcₚ := 21) (fun _ => x_iconst rfl) ?_
    refine Ew_of (pcₚ := 30) (fun _ => x_goto rfl rfl) ?_
    exact w_ireturn rfl (k ((-1)) _ _ _ H O (SF_refl) (SA_refl) (show inr ((-1)) from q_16))
  · refine Ew_of (pcₚ := 5) (fun _ => x_iload_n rfl rfl) ?_
    refine Ew_of (pcₚ := 6) (fun _ => x_iconst rfl) ?_
    refine w_icmpgt (t := 20) rfl rfl (show inr (a1) from h0) (show inr (5) from q_509) (fun b3 => ?_) (fun b3 => ?_)
    · refine Ew_of (pcₚ := 21) (fun _ => x_iconst rfl) ?_
      refine Ew_of (pcₚ := 30) (fun _ => x_goto rfl rfl) ?_
      exact w_ireturn rfl (k ((-1)) _ _ _ H O (SF_refl) (SA_refl) (show inr ((-1)) from q_16))
    · refine Ew_of (pcₚ := 10) (fun _ => x_iload_n rfl rfl) ?_
      refine w_iflt (t := 20) rfl rfl (show inr (a2) from h1) (fun b4 => ?_) (fun b4 => ?_)
      · refine Ew_of (pcₚ := 21) (fun _ => x_iconst rfl) ?_
        refine Ew_of (pcₚ := 30) (fun _ => x_goto rfl rfl) ?_
        exact w_ireturn rfl (k ((-1)) _ _ _ H O (SF_refl) (SA_refl) (show inr ((-1)) from q_16))
      · refine Ew_of (pcₚ := 14) (fun _ => x_iload_n rfl rfl) ?_
        refine Ew_of (pcₚ := 17) (fun _ => x_sipush (z := 16384) rfl (by decide)) ?_
        refine w_icmple (t := 24) rfl rfl (show inr (a2) from h1) (show inr (16384) from q_2050) (fun b5 => ?_) (fun b5 => ?_)
        · refine Ew_of (pcₚ := 25) (fun _ => x_aload_n rfl rfl) ?_
          refine Ew_of (pcₚ := 26) (fun _ => x_iload_n rfl rfl) ?_
          refine Ew_of (pcₚ := 27) (fun _ => x_iload_n rfl rfl) ?_
          refine v_inv H (o := 0) rfl rfl rfl rfl rfl rfl (by rfl) (C34 (D := puc 512 D) (N := puc 512 N) (HW_subc H oz_R5cls_6 oz_R5cls_7) (pf1) (n1) (en1) (w1) (ew1) (show inr (a1) from h0) (show inr (a2) from h1) (show 0 ≤ (a2) ∧ (a2) ≤ 16384 from q_4260 b4 b5) (show 1 ≤ ((w1)) 2 ∧ ((w1)) 2 ≤ 65536 from h2) (show 0 ≤ ((w1)) 8 ∧ ((w1)) 8 ≤ 11 from h3) (show 0 ≤ ((w1)) 6 ∧ ((w1)) 6 ≤ 255 from h4) (show (n1) = 10 from h5) (fun z6 σ6 F6ₚ A6ₚ Hₚ Oₚ hS6 hA6 pz6_0 => ⟨rfl, ?_⟩))
          refine v_backc (c := c) (s := s) H oz_R5cls_6 oz_R5cls_7 Hₚ Oₚ (fun F6 A6 H Oₚ eF6 eA6 => ?_)
          have O := OUT_trans O Oₚ
          -- PackHouse.boundOf
          have cF6 : SF oz_R5clsl_0 F F6 := SF_trans (SF_refl) (SF_gluc (ι := oz_R5clsl_3) oz_R5cls_7 hS6 eF6 (by decide +kernel)) (any_sub (lₚ := []) (by decide +kernel))
          have mF6 := SFm_of cF6 oz_R5cls_2
          have cA6 : SA oz_R5clsl_1 A A6 := SA_trans (SA_refl) (SA_gluc (ι := oz_R5clsl_3) oz_R5cls_7 hA6 eA6 (by decide +kernel)) (any_subA (lₚ := []) (by decide +kernel))
          have mA6 := SAm_of cA6 oz_R5cls_3
          exact w_ireturn rfl (k (z6) _ _ _ H O (cF6) (cA6) (show inr (z6) from pz6_0))
        · refine Ew_of (pcₚ := 21) (fun _ => x_iconst rfl) ?_
          refine Ew_of (pcₚ := 30) (fun _ => x_goto rfl rfl) ?_
          exact w_ireturn rfl (k ((-1)) _ _ _ H O (SF_refl) (SA_refl) (show inr ((-1)) from q_16))
abbrev V9 : vV := [(0, 0, [(4, 0), (4, 0), (4, 0), (4, 0), (4, 0), (4, 0), (4, 0), (4, 0), (4, 0), (4, 0), (4, 0), (4, 0), (4, 0), (4, 0), (4, 0), (4, 0), (4, 0), (0, 0), (0, 0)]), (1, 1, [])]
theorem len_V9_oz_R5cls : (V9).length = 2 := by decide +kernel
theorem oz_R5cls_9 : vsub V9 V25 [] = true := by decide +kernel
theorem oz_R5cls_10 : vsub V9 V26 [] = true := by decide +kernel
theorem oz_R5cls_11 : (oz_R5clsl_2).all (fun p => !tbz 2 p) = true := by decide +kernel
theorem oz_R5cls_12 : okc oz_R5clsl_1 0 = true := by decide +kernel
/-- PackHouse.set: this, this.settings -/
theorem C9 {σE : rS} {D N : Nat → Nat} {F : hF} {A : hA} {d c s : Nat} {Q : wQ} (H : HW V9 σE D N F A) {a1 a2 : Int} (pf1 : HID (F 0 1 = (D 1 : Int))) (n1 : Int) (en1 : HID ((N 1 : Int) = n1)) (w1 : Int → Int) (ew1 : A 1 = w1) (h0 : inr (a1)) (h1 : inr (a2)) (h2 : SETI ((w1))) (h3 : (n1) = 10) (k : ∀ (z : Int) (σ : rS) (Fₚ : hF) (Aₚ : hA), HW V9 σ D N Fₚ Aₚ → OUT (V9).length D N σE c s D N σ c s → SF [] F Fₚ → SA [1] A Aₚ → ∀ v1 : Int → Int, Aₚ 1 = v1 → ((z) = 0 ∨ (z) = 1) → (SETI ((v1))) → Q (some (I z)) σ c s) : Ew 9 (d + 2) 0 (rargs 0 [.ref (D 0), I a1, I a2]) [] σE c s Q := by
  have O := OUT_refl (n := (V9).length) (D := D) (N := N) (σ := σE) (c := c) (s := s)
  have HE := H
  have r1 : HID ((0 : Int) ≤ n1 ∧ n1 ≤ 1000000) := nrng (H.nle 1 (ltn len_V9_oz_R5cls rfl)) (show (N 1 : Int) = n1 from en1)
  refine Ew_of (pcₚ := 1) (fun _ => x_iload_n rfl rfl) ?_
  refine w_stat24 rfl rfl (by rfl) (C25 (D := puc 0 D) (N := puc 0 N) (HW_subc H oz_R5cls_9 oz_R5cls_12) (show inr (a1) from h0) (fun z2 σ2 F2ₚ A2ₚ Hₚ Oₚ hS2 hA2 pz2_0 pz2_1 => ⟨rretB rfl pz2_0, ?_⟩))
  refine v_backc (c := c) (s := s) H oz_R5cls_9 oz_R5cls_12 Hₚ Oₚ (fun F2 A2 H Oₚ eF2 eA2 => ?_)
  have O := OUT_trans O Oₚ
  -- PackHouse.isSetting
  have cF2 : SF oz_R5clsl_0 F F2 := SF_trans (SF_refl) (SF_gluc (ι := oz_R5clsl_1) oz_R5cls_12 hS2 eF2 (by decide +kernel)) (any_sub (lₚ := []) (by decide +kernel))
  have mF2 := SFm_of cF2 oz_R5cls_2
  have cA2 : SA oz_R5clsl_2 A A2 := SA_trans (SA_refl) (SA_gluc (ι := oz_R5clsl_1) oz_R5cls_12 hA2 eA2 (by decide +kernel)) (any_subA (lₚ := []) (by decide +kernel))
  have mA2 := SAm_of cA2 oz_R5cls_11
  refine w_ifeq (t := 15) rfl rfl (show inr (z2) from q_15 pz2_0) (fun b3 => ?_) (fun b3 => ?_)
  · refine Ew_of (pcₚ := 16) (fun _ => x_iconst rfl) ?_
    exact w_ireturn rfl (k (0) _ _ _ H O (cF2) (cA2) (w1) (((show A2 1 = A 1 from (eA2 1))).trans (ew1)) (show (0) = 0 ∨ (0) = 1 by first | exact q_1 | omega) (show SETI ((w1)) from h2))
  · refine Ew_of (pcₚ := 8) (fun _ => x_iload_n rfl rfl) ?_
    refine Ew_of (pcₚ := 9) (fun _ => x_iload_n rfl rfl) ?_
    refine w_stat24 rfl rfl (by rfl) (C26 (D := puc 0 D) (N := puc 0 N) (HW_subc H oz_R5cls_10 oz_R5cls_12) (show inr (a1) from h0) (show inr (a2) from h1) (fun z4 σ4 F4ₚ A4ₚ Hₚ Oₚ hS4 hA4 pz4_0 pz4_1 => ⟨rretB rfl pz4_0, ?_⟩))
    refine v_backc (c := c) (s := s) H oz_R5cls_10 oz_R5cls_12 Hₚ Oₚ (fun F4 A4 H Oₚ eF4 eA4 => ?_)
    have O := OUT_trans O Oₚ
    -- PackHouse.mayBe
    have cF4 : SF oz_R5clsl_0 F F4 := SF_trans (cF2) (SF_gluc (ι := oz_R5clsl_1) oz_R5cls_12 hS4 eF4 (by decide +kernel)) (any_sub (lₚ := []) (by decide +kernel))
    have mF4 := SFm_of cF4 oz_R5cls_2
    have cA4 : SA oz_R5clsl_2 A A4 := SA_trans (cA2) (SA_gluc (ι := oz_R5clsl_1) oz_R5cls_12 hA4 eA4 (by decide +kernel)) (any_subA (lₚ := []) (by decide +kernel))
    have mA4 := SAm_of cA4 oz_R5cls_11
    refine w_ifne (t := 17) rfl rfl (show inr (z4) from q_15 pz4_0) (fun b5 => ?_) (fun b5 => ?_)
    · refine Ew_of (pcₚ := 18) (fun _ => x_aload_n rfl rfl) ?_
      refine v_g H (o := 0) (v := .ref (D 1)) rfl rfl rfl rfl rfl (vrf ((mF4 0 1 rfl).trans (pf1))) ?_
      refine Ew_of (pcₚ := 22) (fun _ => x_iload_n rfl rfl) ?_
      refine Ew_of (pcₚ := 23) (fun _ => x_iload_n rfl rfl) ?_
      refine v_sI H (o := 1) (z := a2) rfl rfl rfl rfl (n := n1) (en1) (show 0 ≤ a1 ∧ a1 < n1 by have qh0 := HIDe r1; omega) (show inr (a2) from h1) (fun σ H Oₚ => ?_)
      have O := OUT_trans O Oₚ
      have cAu6 : SA oz_R5clsl_2 A (updA A4 1 (a1) (a2)) := SA_upd (cA4) rfl
      have mAu6 := SAm_of cAu6 oz_R5cls_11
      have : SETI ((upd1 (w1) (a1) (a2))) := SETI_upd (by assumption) (by unfold MBQ; omega)
      refine Ew_of (pcₚ := 25) (fun _ => x_iconst rfl) ?_
      exact w_ireturn rfl (k (1) _ _ _ H O (cF4) (cAu6) (upd1 (w1) (a1) (a2)) (congrArg (fun q => upd1 q (a1) (a2)) (((show A4 1 = A2 1 from (eA4 1))).trans (((show A2 1 = A 1 from (eA2 1))).trans (ew1)))) (show (1) = 0 ∨ (1) = 1 by first | exact q_5 | omega) (show SETI ((upd1 (w1) (a1) (a2))) by assumption))
    · refine Ew_of (pcₚ := 16) (fun _ => x_iconst rfl) ?_
      exact w_ireturn rfl (k (0) _ _ _ H O (cF4) (cA4) (w1) (((show A4 1 = A2 1 from (eA4 1))).trans (((show A2 1 = A 1 from (eA2 1))).trans (ew1))) (show (0) = 0 ∨ (0) = 1 by first | exact q_1 | omega) (show SETI ((w1)) from h2))
abbrev V16 : vV := [(0, 0, [(4, 0), (4, 0), (4, 0), (4, 0), (4, 0), (4, 0), (4, 0), (4, 0), (4, 0), (4, 0), (4, 0), (4, 0), (4, 0), (4, 0), (4, 0), (4, 0), (4, 0), (0, 0), (0, 0)]), (0, 4, [(4, 0), (4, 0), (0, 0), (4, 0), (4, 0)]), (0, 9, [(4, 0), (4, 0), (4, 0)]), (1, 5, []), (1, 2, []), (0, 7, [(4, 0), (0, 0), (1, 0), (0, 0), (0, 0)]), (0, 7, [(4, 0), (0, 0), (1, 0), (0, 0), (0, 0)])]
theorem len_V16_oz_R5cls : (V16).length = 7 := by decide +kernel
theorem oz_R5cls_14 : vsub V16 V114 [1, 2, 3, 4, 6] = true := by decide +kernel
theorem oz_R5cls_15 : vsub V16 V156 [5] = true := by decide +kernel
def oz_R5clsl_4 : List (Nat × Nat) := [(1, 2), (2, 0), (5, 1), (5, 2), (5, 3), (5, 4), (6, 1), (6, 2), (6, 3), (6, 4)]
theorem oz_R5cls_16 : (oz_R5clsl_4).all (fun p => !tbz 188313052105445472035000770242340537464577600667689901096960 (Nat.add (Nat.mul 32 p.1) p.2)) = true := by decide +kernel
def oz_R5clsl_5 : List Nat := [3, 4]
theorem oz_R5cls_17 : (oz_R5clsl_5).all (fun p => !tbz 24 p) = true := by decide +kernel
def oz_R5clsl_6 : List Nat := [1, 2, 3, 4, 6]
theorem oz_R5cls_18 : okc oz_R5clsl_6 412854518785 = true := by decide +kernel
def oz_R5clsl_7 : List Nat := [5]
theorem oz_R5cls_19 : okc oz_R5clsl_7 5 = true := by decide +kernel
/-- PackHouse.forget: this, this.dictionary, this.dictionary.stand, this.dictionary.stand.tables, this.dictionary.stand.latest, this.past, this.dictionary.content -/
theorem C16 {σE : rS} {D N : Nat → Nat} {F : hF} {A : hA} {d c s : Nat} {Q : wQ} (H : HW V16 σE D N F A) {a1 : Int} (pf1 : HID (F 0 3 = (D 1 : Int))) (pf2 : HID (F 1 1 = (D 2 : Int))) (pf3 : HID (F 2 1 = (D 3 : Int))) (pf4 : HID (F 2 2 = (D 4 : Int))) (pf5 : HID (F 0 2 = (D 5 : Int))) (pf6 : HID (F 1 0 = (D 6 : Int))) (n3 : Int) (en3 : HID ((N 3 : Int) = n3)) (n4 : Int) (en4 : HID ((N 4 : Int) = n4)) (u2_0 : Int) (eu2_0 : HID (F 2 0 = u2_0)) (u5_1 : Int) (eu5_1 : HID (F 5 1 = u5_1)) (u6_1 : Int) (eu6_1 : HID (F 6 1 = u6_1)) (w3 : Int → Int) (ew3 : A 3 = w3) (h0 : inr (a1)) (h1 : (n3) = 3 ∧ (n4) = 3) (h2 : 0 ≤ (u5_1)) (h3 : 0 ≤ (u6_1)) (k : ∀ (z : Int) (σ : rS) (Fₚ : hF) (Aₚ : hA), HW V16 σ D N Fₚ Aₚ → OUT (V16).length D N σE c s D N σ c s → SF [(1, 2), (2, 0), (5, 1), (5, 2), (5, 3), (5, 4), (6, 1), (6, 2), (6, 3), (6, 4)] F Fₚ → SA [3, 4] A Aₚ → ∀ y2_0 : Int, Fₚ 2 0 = y2_0 → ∀ y5_1 : Int, Fₚ 5 1 = y5_1 → ∀ y6_1 : Int, Fₚ 6 1 = y6_1 → ∀ v3 : Int → Int, Aₚ 3 = v3 → ((z) = 0 ∨ (z) = 1) → ((y5_1) = (u5_1) ∨ (y5_1) = 0) → ((y6_1) = (u6_1) ∨ (y6_1) = 0) → ((y2_0) = (u2_0) ∧ ((v3)) 0 = ((w3)) 0 ∧ ((v3)) 1 = ((w3)) 1 ∧ ((v3)) 2 = ((w3)) 2 ∨ (y2_0) = -1 ∧ ((v3)) 0 = -1 ∧ ((v3)) 1 = -1 ∧ ((v3)) 2 = -1) → Q (some (I z)) σ c s) : Ew 16 (d + 2) 0 (rargs 0 [.ref (D 0), I a1]) [] σE c s Q := by
  have O := OUT_refl (n := (V16).length) (D := D) (N := N) (σ := σE) (c := c) (s := s)
  have HE := H
  refine Ew_of (pcₚ := 1) (fun _ => x_iload_n rfl rfl) ?_
  refine w_ifne (t := 14) rfl rfl (show inr (a1) from h0) (fun b5 => ?_) (fun b5 => ?_)
  · refine Ew_of (pcₚ := 15) (fun _ => x_iload_n rfl rfl) ?_
    refine Ew_of (pcₚ := 16) (fun _ => x_iconst rfl) ?_
    refine w_icmpne (t := 29) rfl rfl (show inr (a1) from h0) (show inr (1) from q_23) (fun b6 => ?_) (fun b6 => ?_)
    · refine Ew_of (pcₚ := 30) (fun _ => x_iconst rfl) ?_
      exact w_ireturn rfl (k (0) _ _ _ H O (SF_refl) (SA_refl) (u2_0) ((eu2_0)) (u5_1) ((eu5_1)) (u6_1) ((eu6_1)) (w3) (ew3) (show (0) = 0 ∨ (0) = 1 by first | exact q_1 | omega) (show (u5_1) = (u5_1) ∨ (u5_1) = 0 from q_4262) (show (u6_1) = (u6_1) ∨ (u6_1) = 0 from q_4262) (show (u2_0) = (u2_0) ∧ ((w3)) 0 = ((w3)) 0 ∧ ((w3)) 1 = ((w3)) 1 ∧ ((w3)) 2 = ((w3)) 2 ∨ (u2_0) = -1 ∧ ((w3)) 0 = -1 ∧ ((w3)) 1 = -1 ∧ ((w3)) 2 = -1 from q_4261))
    · refine Ew_of (pcₚ := 20) (fun _ => x_aload_n rfl rfl) ?_
      refine v_g H (o := 0) (v := .ref (D 1)) rfl rfl rfl rfl rfl (vrf (pf1)) ?_
      refine v_inv H (o := 1) rfl rfl rfl rfl rfl rfl (by rfl) (C114 (D := puc 412854518785 D) (N := puc 412854518785 N) (HW_subc H oz_R5cls_14 oz_R5cls_18) (pf2) (pf3) (pf4) (pf6) (n3) (en3) (n4) (en4) (F 1 2) (rfl) (u2_0) ((eu2_0)) (u6_1) ((eu6_1)) (w3) (ew3) (show (n3) = 3 ∧ (n4) = 3 from h1) (fun σ8 F8ₚ A8ₚ Hₚ Oₚ hS8 hA8 y8_0_2 (ey8_0_2 : HID _) y8_1_0 (ey8_1_0 : HID _) y8_4_1 (ey8_4_1 : HID _) w8_2 ew8_2 pz8_0 pz8_1 pz8_2 pz8_3 => ⟨rfl, ?_⟩))
      refine v_backc (c := c) (s := s) H oz_R5cls_14 oz_R5cls_18 Hₚ Oₚ (fun F8 A8 H Oₚ eF8 eA8 => ?_)
      have O := OUT_trans O Oₚ
      -- Dictionary.clear
      have cF8 : SF oz_R5clsl_4 F F8 := SF_trans (SF_refl) (SF_gluc (ι := oz_R5clsl_6) oz_R5cls_18 hS8 eF8 (by decide +kernel)) (any_sub (lₚ := [(1, 2), (2, 0), (6, 1), (6, 2), (6, 3), (6, 4)]) (by decide +kernel))
      have mF8 := SFm_of cF8 oz_R5cls_16
      have cA8 : SA oz_R5clsl_5 A A8 := SA_trans (SA_refl) (SA_gluc (ι := oz_R5clsl_6) oz_R5cls_18 hA8 eA8 (by decide +kernel)) (any_subA (lₚ := [3, 4]) (by decide +kernel))
      have mA8 := SAm_of cA8 oz_R5cls_17
      refine Ew_of (pcₚ := 31) (fun _ => x_goto rfl rfl) ?_
      refine Ew_of (pcₚ := 32) (fun _ => x_iconst rfl) ?_
      exact w_ireturn rfl (k (1) _ _ _ H O (cF8) (cA8) (y8_1_0) (((eF8 2 0).trans ey8_1_0)) (u5_1) ((((show F8 5 1 = F 5 1 from (eF8 5 1))).trans (eu5_1))) (y8_4_1) (((eF8 6 1).trans ey8_4_1)) (w8_2) ((eA8 3).trans ew8_2) (show (1) = 0 ∨ (1) = 1 by first | exact q_5 | omega) (show (u5_1) = (u5_1) ∨ (u5_1) = 0 from q_4262) (show (y8_4_1) = (u6_1) ∨ (y8_4_1) = 0 from q_4264 pz8_3) (show (y8_1_0) = (u2_0) ∧ ((w8_2)) 0 = ((w3)) 0 ∧ ((w8_2)) 1 = ((w3)) 1 ∧ ((w8_2)) 2 = ((w3)) 2 ∨ (y8_1_0) = -1 ∧ ((w8_2)) 0 = -1 ∧ ((w8_2)) 1 = -1 ∧ ((w8_2)) 2 = -1 from q_4263 pz8_0 pz8_1))
  · refine Ew_of (pcₚ := 5) (fun _ => x_aload_n rfl rfl) ?_
    refine v_g H (o := 0) (v := .ref (D 5)) rfl rfl rfl rfl rfl (vrf (pf5)) ?_
    refine v_inv H (o := 5) rfl rfl rfl rfl rfl rfl (by rfl) (C156h (D := puc 5 D) (N := puc 5 N) (HW_subc H oz_R5cls_15 oz_R5cls_19) (u5_1) ((eu5_1)) (F 5 2) (rfl) (F 5 4) (rfl)  (fun σ13 F13ₚ A13ₚ Hₚ Oₚ hS13 hA13 y13_0_1 (ey13_0_1 : HID _) y13_0_2 (ey13_0_2 : HID _) y13_0_4 (ey13_0_4 : HID _) pz13_0 => ⟨rfl, ?_⟩))
    refine v_backc (c := c) (s := s) H oz_R5cls_15 oz_R5cls_19 Hₚ Oₚ (fun F13 A13 H Oₚ eF13 eA13 => ?_)
    have O := OUT_trans O Oₚ
    -- Row.clear
    have cF13 : SF oz_R5clsl_4 F F13 := SF_trans (SF_refl) (SF_gluc (ι := oz_R5clsl_7) oz_R5cls_19 hS13 eF13 (by decide +kernel)) (any_sub (lₚ := [(5, 1), (5, 2), (5, 3), (5, 4)]) (by decide +kernel))
    have mF13 := SFm_of cF13 oz_R5cls_16
    have cA13 : SA oz_R5clsl_5 A A13 := SA_trans (SA_refl) (SA_gluc (ι := oz_R5clsl_7) oz_R5cls_19 hA13 eA13 (by decide +kernel)) (any_subA (lₚ := []) (by decide +kernel))
    have mA13 := SAm_of cA13 oz_R5cls_17
    refine Ew_of (pcₚ := 31) (fun _ => x_goto rfl rfl) ?_
    refine Ew_of (pcₚ := 32) (fun _ => x_iconst rfl) ?_
    exact w_ireturn rfl (k (1) _ _ _ H O (cF13) (cA13) (u2_0) ((((show F13 2 0 = F 2 0 from (eF13 2 0))).trans (eu2_0))) (y13_0_1) (((eF13 5 1).trans ey13_0_1)) (u6_1) ((((show F13 6 1 = F 6 1 from (eF13 6 1))).trans (eu6_1))) (w3) (((show A13 3 = A 3 from (eA13 3))).trans (ew3)) (show (1) = 0 ∨ (1) = 1 by first | exact q_5 | omega) (show (y13_0_1) = (u5_1) ∨ (y13_0_1) = 0 from q_4265 pz13_0) (show (u6_1) = (u6_1) ∨ (u6_1) = 0 from q_4262) (show (u2_0) = (u2_0) ∧ ((w3)) 0 = ((w3)) 0 ∧ ((w3)) 1 = ((w3)) 1 ∧ ((w3)) 2 = ((w3)) 2 ∨ (u2_0) = -1 ∧ ((w3)) 0 = -1 ∧ ((w3)) 1 = -1 ∧ ((w3)) 2 = -1 from q_4261))
