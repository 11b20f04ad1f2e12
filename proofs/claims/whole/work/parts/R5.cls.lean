abbrev V34 : vV := [(0, 0, [(4, 0), (4, 0), (4, 0), (4, 0), (4, 0), (4, 0), (4, 0), (4, 0), (4, 0), (4, 0), (4, 0), (4, 0), (4, 0), (4, 0), (4, 0), (4, 0), (4, 0), (0, 0), (0, 0)]), (1, 1, [])]
/-- PackHouse.boundOf: this, this.settings -/
theorem C34 {σE : rS} {D N : Nat → Nat} {F : hF} {A : hA} {d c s : Nat} {Q : wQ} (H : HW V34 σE D N F A) {a1 a2 : Int} (pf1 : F 0 1 = (D 1 : Int)) (n1 : Int) (en1 : (N 1 : Int) = n1) (w1 : Int → Int) (ew1 : A 1 = w1) (h0 : inr (a1)) (h1 : inr (a2)) (h2 : 0 ≤ (a2) ∧ (a2) ≤ 16384) (h3 : 1 ≤ ((w1)) 2 ∧ ((w1)) 2 ≤ 65536) (h4 : 0 ≤ ((w1)) 8 ∧ ((w1)) 8 ≤ 11) (h5 : 0 ≤ ((w1)) 6 ∧ ((w1)) 6 ≤ 255) (h6 : (n1) = 10) (k : ∀ (z : Int) (σ : rS) (F' : hF) (A' : hA), HW V34 σ D N F' A' → OUT (V34).length D N σE c s D N σ c s → SF [] F F' → SA [] A A' → (inr (z)) → Q (some (I z)) σ c s) : Ew 34 (d + 2) 0 (rargs 0 [.ref (D 0), I a1, I a2]) [] σE c s Q := by
  have O := OUT_refl (n := (V34).length) (D := D) (N := N) (σ := σE) (c := c) (s := s)
  have HE := H
  replace pf1 := HIDm pf1
  replace en1 := HIDm en1
  have r1 : HID ((0 : Int) ≤ n1 ∧ n1 ≤ 1000000) := nrng (H.nle 1 (by decide)) (show (N 1 : Int) = n1 from en1)
  refine Ew_of (pc' := 1) (fun _ => x_iload_n rfl rfl) ?_
  refine Ew_of (pc' := 2) (fun _ => x_aload_n rfl rfl) ?_
  refine v_g H (o := 0) (v := .ref (D 1)) rfl rfl rfl rfl rfl (vrf (pf1)) ?_
  refine Ew_of (pc' := 6) (fun _ => x_iconst rfl) ?_
  refine v_lI H (o := 1) rfl rfl rfl rfl (n := n1) (en1) (show 0 ≤ 2 ∧ 2 < n1 by have qh0 := HIDe r1; omega) (fun v2 ev2 qv2 => ?_)
  replace qv2 := HIDm qv2
  have ev2 : (w1) (2) = v2 := (congrFun (ew1) (2)).symm.trans ev2
  refine w_iadd rfl ?_
  refine Ew_of (pc' := 9) (fun _ => x_iconst rfl) ?_
  refine w_isub rfl ?_
  refine Ew_of (pc' := 11) (fun _ => x_aload_n rfl rfl) ?_
  refine v_g H (o := 0) (v := .ref (D 1)) rfl rfl rfl rfl rfl (vrf (pf1)) ?_
  refine Ew_of (pc' := 15) (fun _ => x_iconst rfl) ?_
  refine v_lI H (o := 1) rfl rfl rfl rfl (n := n1) (en1) (show 0 ≤ 2 ∧ 2 < n1 by have qh0 := HIDe r1; omega) (fun v3 ev3 qv3 => ?_)
  replace qv3 := HIDm qv3
  have ev3 : (w1) (2) = v3 := (congrFun (ew1) (2)).symm.trans ev3
  refine w_idiv rfl (show inr (((a2 + v2) - 1)) ∧ 0 ≤ ((a2 + v2) - 1) by have qh0 := HIDe qv2; omega) (show inr (v3) ∧ 0 < v3 by have qh0 := HIDe qv3; omega) ?_
  have hq : 0 ≤ (((((a2 + v2) - 1) / v3)) : Int) ∧ (((((a2 + v2) - 1) / v3)) : Int) ≤ (a2) + 65536 := ⟨Int.ediv_nonneg (by (have qg0 := HIDe qv2; have qg1 := HIDe qv3; omega)) (by (have qg0 := HIDe qv2; have qg1 := HIDe qv3; omega)), Int.le_trans (Int.ediv_le_self _ (by (have qg0 := HIDe qv2; have qg1 := HIDe qv3; omega))) (by (have qg0 := HIDe qv2; have qg1 := HIDe qv3; omega))⟩
  refine Ew_of (pc' := 18) (fun _ => x_istore_n rfl) ?_
  refine Ew_of (pc' := 19) (fun _ => x_iload_n rfl (rk_o (rfl) rfl rfl)) ?_
  by_cases b4 : a1 = 0
  · refine w_tsk 0 52 rfl (show inr (a1) by omega) (by omega) (by decide) rfl rfl ?_
    refine Ew_of (pc' := 53) (fun _ => x_iload_n rfl (rk_o (rfl) rfl rfl)) ?_
    refine Ew_of (pc' := 54) (fun _ => x_iload_n rfl (rk_o (rfl) rfl rfl)) ?_
    refine Ew_of (pc' := 57) (fun _ => x_sipush (z := 255) rfl (by decide)) ?_
    refine w_idiv rfl (show inr (a2) ∧ 0 ≤ a2 by omega) (show inr (255) ∧ 0 < 255 by omega) ?_
    refine w_iadd rfl ?_
    refine Ew_of (pc' := 61) (fun _ => x_bipush (z := 16) rfl (by decide)) ?_
    refine w_iadd rfl ?_
    exact w_ireturn rfl (k (((a2 + (a2 / 255)) + 16)) _ _ _ H O (SF_refl) (SA_refl) (show inr (((a2 + (a2 / 255)) + 16)) by omega))
  ·
    by_cases b5 : a1 = 1
    · refine w_tsk 1 63 rfl (show inr (a1) by omega) (by omega) (by decide) rfl rfl ?_
      refine Ew_of (pc' := 65) (fun _ => x_bipush (z := 27) rfl (by decide)) ?_
      refine Ew_of (pc' := 67) (fun _ => x_bipush (z := 8) rfl (by decide)) ?_
      refine Ew_of (pc' := 68) (fun _ => x_iload_n rfl rk_s) ?_
      refine w_imulA rfl (fun z6 gz6 => ?_)
      refine w_iaddA rfl (fun z7 gz7 => ?_)
      refine Ew_of (pc' := 71) (fun _ => x_iload_n rfl (rk_o (rfl) rfl rfl)) ?_
      refine w_iaddA rfl (fun z8 gz8 => ?_)
      exact w_ireturn rfl (k (z8) _ _ _ H O (SF_refl) (SA_refl) (show inr (z8) by omega))
    ·
      by_cases b9 : a1 = 2
      · refine w_tsk 2 73 rfl (show inr (a1) by omega) (by omega) (by decide) rfl rfl ?_
        refine Ew_of (pc' := 75) (fun _ => x_bipush (z := 32) rfl (by decide)) ?_
        refine Ew_of (pc' := 76) (fun _ => x_iload_n rfl (rk_o (rfl) rfl rfl)) ?_
        refine w_iadd rfl ?_
        refine Ew_of (pc' := 78) (fun _ => x_iload_n rfl (rk_o (rfl) rfl rfl)) ?_
        refine Ew_of (pc' := 80) (fun _ => x_bipush (z := 6) rfl (by decide)) ?_
        refine w_idiv rfl (show inr (a2) ∧ 0 ≤ a2 by omega) (show inr (6) ∧ 0 < 6 by omega) ?_
        refine w_iadd rfl ?_
        exact w_ireturn rfl (k (((32 + a2) + (a2 / 6))) _ _ _ H O (SF_refl) (SA_refl) (show inr (((32 + a2) + (a2 / 6))) by omega))
      ·
        by_cases b10 : a1 = 3
        · refine w_tsk 3 83 rfl (show inr (a1) by omega) (by omega) (by decide) rfl rfl ?_
          refine Ew_of (pc' := 85) (fun _ => x_bipush (z := 10) rfl (by decide)) ?_
          refine Ew_of (pc' := 86) (fun _ => x_iload_n rfl (rk_o (rfl) rfl rfl)) ?_
          refine w_iadd rfl ?_
          refine Ew_of (pc' := 89) (fun _ => x_bipush (z := 8) rfl (by decide)) ?_
          refine Ew_of (pc' := 90) (fun _ => x_iload_n rfl rk_s) ?_
          refine w_imulA rfl (fun z11 gz11 => ?_)
          refine w_iaddA rfl (fun z12 gz12 => ?_)
          refine Ew_of (pc' := 93) (fun _ => x_aload_n rfl (rk_o (rfl) rfl rfl)) ?_
          refine v_g H (o := 0) (v := .ref (D 1)) rfl rfl rfl rfl rfl (vrf (pf1)) ?_
          refine Ew_of (pc' := 98) (fun _ => x_bipush (z := 6) rfl (by decide)) ?_
          refine v_lI H (o := 1) rfl rfl rfl rfl (n := n1) (en1) (show 0 ≤ 6 ∧ 6 < n1 by have qh0 := HIDe r1; omega) (fun v13 ev13 qv13 => ?_)
          replace qv13 := HIDm qv13
          have ev13 : (w1) (6) = v13 := (congrFun (ew1) (6)).symm.trans ev13
          refine w_ifle (t := 116) rfl rfl (show inr (v13) by have qh0 := HIDe qv13; omega) (fun b14 => ?_) (fun b14 => ?_)
          · refine Ew_of (pc' := 117) (fun _ => x_iconst rfl) ?_
            refine w_iaddA rfl (fun z15 gz15 => ?_)
            exact w_ireturn rfl (k (z15) _ _ _ H O (SF_refl) (SA_refl) (show inr (z15) by omega))
          · refine Ew_of (pc' := 103) (fun _ => x_iload_n rfl rk_s) ?_
            refine Ew_of (pc' := 104) (fun _ => x_iconst rfl) ?_
            refine Ew_of (pc' := 105) (fun _ => x_aload_n rfl (rk_o (rfl) rfl rfl)) ?_
            refine v_g H (o := 0) (v := .ref (D 1)) rfl rfl rfl rfl rfl (vrf (pf1)) ?_
            refine Ew_of (pc' := 110) (fun _ => x_bipush (z := 6) rfl (by decide)) ?_
            refine v_lI H (o := 1) rfl rfl rfl rfl (n := n1) (en1) (show 0 ≤ 6 ∧ 6 < n1 by have qh0 := HIDe r1; omega) (fun v16 ev16 qv16 => ?_)
            replace qv16 := HIDm qv16
            have ev16 : (w1) (6) = v16 := (congrFun (ew1) (6)).symm.trans ev16
            refine w_iadd rfl ?_
            refine w_imulA rfl (fun z17 gz17 => ?_)
            refine Ew_of (pc' := 117) (fun _ => x_goto rfl rfl) ?_
            refine w_iaddA rfl (fun z18 gz18 => ?_)
            exact w_ireturn rfl (k (z18) _ _ _ H O (SF_refl) (SA_refl) (show inr (z18) by omega))
        ·
          by_cases b19 : a1 = 4
          · refine w_tsk 4 119 rfl (show inr (a1) by omega) (by omega) (by decide) rfl rfl ?_
            refine Ew_of (pc' := 120) (fun _ => x_aload_n rfl (rk_o (rfl) rfl rfl)) ?_
            refine v_g H (o := 0) (v := .ref (D 1)) rfl rfl rfl rfl rfl (vrf (pf1)) ?_
            refine Ew_of (pc' := 124) (fun _ => x_iload_n rfl (rk_o (rfl) rfl rfl)) ?_
            refine w_stat24 rfl rfl (by rfl) (C133_Irf (D := pul [1] D) (N := pul [1] N) (HW_sub H (VS_of (show vsub V34 V133_Ir [1] = true by decide +kernel))) (n1) (en1) (w1) (ew1) (show inr (a2) by omega) (show (n1) = 10 by have qh0 := HIDe r1; omega) (show 0 ≤ ((w1)) 7 ∧ ((w1)) 7 ≤ 15 by omega) (show 0 ≤ ((w1)) 8 ∧ ((w1)) 8 ≤ 11 by omega) (show 1 ≤ ((w1)) 2 ∧ ((w1)) 2 ≤ 65536 by omega) (show 0 ≤ (a2) ∧ (a2) ≤ 16384 by omega) (fun z20 σ20 F20' A20' H' O' hS20 hA20 pz20_0 pz20_1 pz20_2 => ⟨rfl, ?_⟩))
            refine v_back (c := c) (s := s) H (show vsub V34 V133_Ir [1] = true by decide +kernel) H' O' (fun F20 A20 H O' eF20 eA20 => ?_)
            have O := OUT_trans O O'
            -- Packer.rowLength
            refine Ew_of (pc' := 129) (fun _ => x_istore rfl) ?_
            refine Ew_of (pc' := 131) (fun _ => x_bipush (z := 22) rfl (by decide)) ?_
            refine Ew_of (pc' := 132) (fun _ => x_iconst rfl) ?_
            refine Ew_of (pc' := 133) (fun _ => x_iload_n rfl (rk_o (rk_o (rfl) rfl rfl) rfl rfl)) ?_
            refine w_ifne (t := 140) rfl rfl (show inr (a2) by omega) (fun b21 => ?_) (fun b21 => ?_)
            · refine Ew_of (pc' := 141) (fun _ => x_iload_n rfl (rk_o (rk_o (rfl) rfl rfl) rfl rfl)) ?_
              refine Ew_of (pc' := 143) (fun _ => x_iload rfl rk_s) ?_
              refine w_iadd rfl ?_
              refine Ew_of (pc' := 145) (fun _ => x_iconst rfl) ?_
              refine w_isub rfl ?_
              refine Ew_of (pc' := 148) (fun _ => x_iload rfl rk_s) ?_
              refine w_idiv rfl (show inr (((a2 + z20) - 1)) ∧ 0 ≤ ((a2 + z20) - 1) by omega) (show inr (z20) ∧ 0 < z20 by omega) ?_
              refine w_imulA rfl (fun z22 gz22 => ?_)
              refine w_iaddA rfl (fun z23 gz23 => ?_)
              refine Ew_of (pc' := 152) (fun _ => x_iload_n rfl (rk_o (rk_o (rfl) rfl rfl) rfl rfl)) ?_
              refine w_iaddA rfl (fun z24 gz24 => ?_)
              exact w_ireturn rfl (k (z24) _ _ _ H O (SF_trans (SF_refl) (SF_glu (ι := [1]) hS20 eF20 (by decide +kernel)) (any_sub (l' := []) rfl)) (SA_trans (SA_refl) (SA_glu (ι := [1]) hA20 eA20 (by decide +kernel)) (any_subA (l' := []) rfl)) (show inr (z24) by omega))
            · refine Ew_of (pc' := 137) (fun _ => x_iconst rfl) ?_
              refine Ew_of (pc' := 149) (fun _ => x_goto rfl rfl) ?_
              refine w_imulA rfl (fun z25 gz25 => ?_)
              refine w_iaddA rfl (fun z26 gz26 => ?_)
              refine Ew_of (pc' := 152) (fun _ => x_iload_n rfl (rk_o (rk_o (rfl) rfl rfl) rfl rfl)) ?_
              refine w_iaddA rfl (fun z27 gz27 => ?_)
              exact w_ireturn rfl (k (z27) _ _ _ H O (SF_trans (SF_refl) (SF_glu (ι := [1]) hS20 eF20 (by decide +kernel)) (any_sub (l' := []) rfl)) (SA_trans (SA_refl) (SA_glu (ι := [1]) hA20 eA20 (by decide +kernel)) (any_subA (l' := []) rfl)) (show inr (z27) by omega))
          ·
            refine w_tsd 154 rfl (show inr (a1) by omega) (by omega) rfl ?_
            refine Ew_of (pc' := 157) (fun _ => x_sipush (z := 700) rfl (by decide)) ?_
            refine Ew_of (pc' := 158) (fun _ => x_iload_n rfl (rk_o (rfl) rfl rfl)) ?_
            refine w_iadd rfl ?_
            exact w_ireturn rfl (k ((700 + a2)) _ _ _ H O (SF_refl) (SA_refl) (show inr ((700 + a2)) by omega))
abbrev V21 : vV := [(0, 0, [(4, 0), (4, 0), (4, 0), (4, 0), (4, 0), (4, 0), (4, 0), (4, 0), (4, 0), (4, 0), (4, 0), (4, 0), (4, 0), (4, 0), (4, 0), (4, 0), (4, 0), (0, 0), (0, 0)]), (1, 1, [])]
/-- PackHouse.bound: this, this.settings -/
theorem C21 {σE : rS} {D N : Nat → Nat} {F : hF} {A : hA} {d c s : Nat} {Q : wQ} (H : HW V21 σE D N F A) {a1 a2 : Int} (pf1 : F 0 1 = (D 1 : Int)) (n1 : Int) (en1 : (N 1 : Int) = n1) (w1 : Int → Int) (ew1 : A 1 = w1) (h0 : inr (a1)) (h1 : inr (a2)) (h2 : 1 ≤ ((w1)) 2 ∧ ((w1)) 2 ≤ 65536) (h3 : 0 ≤ ((w1)) 8 ∧ ((w1)) 8 ≤ 11) (h4 : 0 ≤ ((w1)) 6 ∧ ((w1)) 6 ≤ 255) (h5 : (n1) = 10) (k : ∀ (z : Int) (σ : rS) (F' : hF) (A' : hA), HW V21 σ D N F' A' → OUT (V21).length D N σE c s D N σ c s → SF [] F F' → SA [] A A' → (inr (z)) → Q (some (I z)) σ c s) : Ew 21 (d + 3) 0 (rargs 0 [.ref (D 0), I a1, I a2]) [] σE c s Q := by
  have O := OUT_refl (n := (V21).length) (D := D) (N := N) (σ := σE) (c := c) (s := s)
  have HE := H
  replace pf1 := HIDm pf1
  replace en1 := HIDm en1
  have r1 : HID ((0 : Int) ≤ n1 ∧ n1 ≤ 1000000) := nrng (H.nle 1 (by decide)) (show (N 1 : Int) = n1 from en1)
  refine Ew_of (pc' := 1) (fun _ => x_iload_n rfl rfl) ?_
  refine w_iflt (t := 20) rfl rfl (show inr (a1) by omega) (fun b2 => ?_) (fun b2 => ?_)
  · refine Ew_of (pc' := 21) (fun _ => x_iconst rfl) ?_
    refine Ew_of (pc' := 30) (fun _ => x_goto rfl rfl) ?_
    exact w_ireturn rfl (k ((-1)) _ _ _ H O (SF_refl) (SA_refl) (show inr ((-1)) by omega))
  · refine Ew_of (pc' := 5) (fun _ => x_iload_n rfl rfl) ?_
    refine Ew_of (pc' := 6) (fun _ => x_iconst rfl) ?_
    refine w_icmpgt (t := 20) rfl rfl (show inr (a1) by omega) (show inr (5) by omega) (fun b3 => ?_) (fun b3 => ?_)
    · refine Ew_of (pc' := 21) (fun _ => x_iconst rfl) ?_
      refine Ew_of (pc' := 30) (fun _ => x_goto rfl rfl) ?_
      exact w_ireturn rfl (k ((-1)) _ _ _ H O (SF_refl) (SA_refl) (show inr ((-1)) by omega))
    · refine Ew_of (pc' := 10) (fun _ => x_iload_n rfl rfl) ?_
      refine w_iflt (t := 20) rfl rfl (show inr (a2) by omega) (fun b4 => ?_) (fun b4 => ?_)
      · refine Ew_of (pc' := 21) (fun _ => x_iconst rfl) ?_
        refine Ew_of (pc' := 30) (fun _ => x_goto rfl rfl) ?_
        exact w_ireturn rfl (k ((-1)) _ _ _ H O (SF_refl) (SA_refl) (show inr ((-1)) by omega))
      · refine Ew_of (pc' := 14) (fun _ => x_iload_n rfl rfl) ?_
        refine Ew_of (pc' := 17) (fun _ => x_sipush (z := 16384) rfl (by decide)) ?_
        refine w_icmple (t := 24) rfl rfl (show inr (a2) by omega) (show inr (16384) by omega) (fun b5 => ?_) (fun b5 => ?_)
        · refine Ew_of (pc' := 25) (fun _ => x_aload_n rfl rfl) ?_
          refine Ew_of (pc' := 26) (fun _ => x_iload_n rfl rfl) ?_
          refine Ew_of (pc' := 27) (fun _ => x_iload_n rfl rfl) ?_
          refine v_inv H (o := 0) rfl rfl rfl rfl rfl rfl (by rfl) (C34 (D := pul [0, 1] D) (N := pul [0, 1] N) (HW_sub H (VS_of (show vsub V21 V34 [0, 1] = true by decide +kernel))) (pf1) (n1) (en1) (w1) (ew1) (show inr (a1) by omega) (show inr (a2) by omega) (show 0 ≤ (a2) ∧ (a2) ≤ 16384 by omega) (show 1 ≤ ((w1)) 2 ∧ ((w1)) 2 ≤ 65536 by omega) (show 0 ≤ ((w1)) 8 ∧ ((w1)) 8 ≤ 11 by omega) (show 0 ≤ ((w1)) 6 ∧ ((w1)) 6 ≤ 255 by omega) (show (n1) = 10 by have qh0 := HIDe r1; omega) (fun z6 σ6 F6' A6' H' O' hS6 hA6 pz6_0 => ⟨rfl, ?_⟩))
          refine v_back (c := c) (s := s) H (show vsub V21 V34 [0, 1] = true by decide +kernel) H' O' (fun F6 A6 H O' eF6 eA6 => ?_)
          have O := OUT_trans O O'
          -- PackHouse.boundOf
          exact w_ireturn rfl (k (z6) _ _ _ H O (SF_trans (SF_refl) (SF_glu (ι := [0, 1]) hS6 eF6 (by decide +kernel)) (any_sub (l' := []) rfl)) (SA_trans (SA_refl) (SA_glu (ι := [0, 1]) hA6 eA6 (by decide +kernel)) (any_subA (l' := []) rfl)) (show inr (z6) by omega))
        · refine Ew_of (pc' := 21) (fun _ => x_iconst rfl) ?_
          refine Ew_of (pc' := 30) (fun _ => x_goto rfl rfl) ?_
          exact w_ireturn rfl (k ((-1)) _ _ _ H O (SF_refl) (SA_refl) (show inr ((-1)) by omega))
abbrev V9 : vV := [(0, 0, [(4, 0), (4, 0), (4, 0), (4, 0), (4, 0), (4, 0), (4, 0), (4, 0), (4, 0), (4, 0), (4, 0), (4, 0), (4, 0), (4, 0), (4, 0), (4, 0), (4, 0), (0, 0), (0, 0)]), (1, 1, [])]
/-- PackHouse.set: this, this.settings -/
theorem C9 {σE : rS} {D N : Nat → Nat} {F : hF} {A : hA} {d c s : Nat} {Q : wQ} (H : HW V9 σE D N F A) {a1 a2 : Int} (pf1 : F 0 1 = (D 1 : Int)) (n1 : Int) (en1 : (N 1 : Int) = n1) (w1 : Int → Int) (ew1 : A 1 = w1) (h0 : inr (a1)) (h1 : inr (a2)) (h2 : SETI ((w1))) (h3 : (n1) = 10) (k : ∀ (z : Int) (σ : rS) (F' : hF) (A' : hA), HW V9 σ D N F' A' → OUT (V9).length D N σE c s D N σ c s → SF [] F F' → SA [1] A A' → ∀ v1 : Int → Int, A' 1 = v1 → ((z) = 0 ∨ (z) = 1) → (SETI ((v1))) → Q (some (I z)) σ c s) : Ew 9 (d + 2) 0 (rargs 0 [.ref (D 0), I a1, I a2]) [] σE c s Q := by
  have O := OUT_refl (n := (V9).length) (D := D) (N := N) (σ := σE) (c := c) (s := s)
  have HE := H
  replace pf1 := HIDm pf1
  replace en1 := HIDm en1
  have r1 : HID ((0 : Int) ≤ n1 ∧ n1 ≤ 1000000) := nrng (H.nle 1 (by decide)) (show (N 1 : Int) = n1 from en1)
  refine Ew_of (pc' := 1) (fun _ => x_iload_n rfl rfl) ?_
  refine w_stat24 rfl rfl (by rfl) (C25 (D := pul [] D) (N := pul [] N) (HW_sub H (VS_of (show vsub V9 V25 [] = true by decide +kernel))) (show inr (a1) by omega) (fun z2 σ2 F2' A2' H' O' hS2 hA2 pz2_0 pz2_1 => ⟨rretB rfl pz2_0, ?_⟩))
  refine v_back (c := c) (s := s) H (show vsub V9 V25 [] = true by decide +kernel) H' O' (fun F2 A2 H O' eF2 eA2 => ?_)
  have O := OUT_trans O O'
  -- PackHouse.isSetting
  refine w_ifeq (t := 15) rfl rfl (show inr (z2) by omega) (fun b3 => ?_) (fun b3 => ?_)
  · refine Ew_of (pc' := 16) (fun _ => x_iconst rfl) ?_
    exact w_ireturn rfl (k (0) _ _ _ H O (SF_trans (SF_refl) (SF_glu (ι := []) hS2 eF2 (by decide +kernel)) (any_sub (l' := []) rfl)) (SA_trans (SA_refl) (SA_glu (ι := []) hA2 eA2 (by decide +kernel)) (any_subA (l' := []) rfl)) (w1) (((show A2 1 = A 1 from (eA2 1))).trans (ew1)) (show (0) = 0 ∨ (0) = 1 by omega) (show SETI ((w1)) by assumption))
  · refine Ew_of (pc' := 8) (fun _ => x_iload_n rfl rfl) ?_
    refine Ew_of (pc' := 9) (fun _ => x_iload_n rfl rfl) ?_
    refine w_stat24 rfl rfl (by rfl) (C26 (D := pul [] D) (N := pul [] N) (HW_sub H (VS_of (show vsub V9 V26 [] = true by decide +kernel))) (show inr (a1) by omega) (show inr (a2) by omega) (fun z4 σ4 F4' A4' H' O' hS4 hA4 pz4_0 pz4_1 => ⟨rretB rfl pz4_0, ?_⟩))
    refine v_back (c := c) (s := s) H (show vsub V9 V26 [] = true by decide +kernel) H' O' (fun F4 A4 H O' eF4 eA4 => ?_)
    have O := OUT_trans O O'
    -- PackHouse.mayBe
    refine w_ifne (t := 17) rfl rfl (show inr (z4) by omega) (fun b5 => ?_) (fun b5 => ?_)
    · refine Ew_of (pc' := 18) (fun _ => x_aload_n rfl rfl) ?_
      refine v_g H (o := 0) (v := .ref (D 1)) rfl rfl rfl rfl rfl (vrf (((((show F4 0 1 = F2 0 1 from (eF4 0 1))).trans ((show F2 0 1 = F 0 1 from (eF2 0 1))))).trans (pf1))) ?_
      refine Ew_of (pc' := 22) (fun _ => x_iload_n rfl rfl) ?_
      refine Ew_of (pc' := 23) (fun _ => x_iload_n rfl rfl) ?_
      refine v_sI H (o := 1) (z := a2) rfl rfl rfl rfl (n := n1) (en1) (show 0 ≤ a1 ∧ a1 < n1 by have qh0 := HIDe r1; omega) (show inr (a2) by omega) (fun σ H O' => ?_)
      have O := OUT_trans O O'
      have : SETI ((upd1 (w1) (a1) (a2))) := SETI_upd (by assumption) (by unfold MBQ; omega)
      refine Ew_of (pc' := 25) (fun _ => x_iconst rfl) ?_
      exact w_ireturn rfl (k (1) _ _ _ H O (SF_trans (SF_trans (SF_refl) (SF_glu (ι := []) hS2 eF2 (by decide +kernel)) (any_sub (l' := []) rfl)) (SF_glu (ι := []) hS4 eF4 (by decide +kernel)) (any_sub (l' := []) rfl)) (SA_upd (SA_trans (SA_trans (SA_refl) (SA_glu (ι := []) hA2 eA2 (by decide +kernel)) (any_subA (l' := []) rfl)) (SA_glu (ι := []) hA4 eA4 (by decide +kernel)) (any_subA (l' := []) rfl)) rfl) (upd1 (w1) (a1) (a2)) (congrArg (fun q => upd1 q (a1) (a2)) (((show A4 1 = A2 1 from (eA4 1))).trans (((show A2 1 = A 1 from (eA2 1))).trans (ew1)))) (show (1) = 0 ∨ (1) = 1 by omega) (show SETI ((upd1 (w1) (a1) (a2))) by assumption))
    · refine Ew_of (pc' := 16) (fun _ => x_iconst rfl) ?_
      exact w_ireturn rfl (k (0) _ _ _ H O (SF_trans (SF_trans (SF_refl) (SF_glu (ι := []) hS2 eF2 (by decide +kernel)) (any_sub (l' := []) rfl)) (SF_glu (ι := []) hS4 eF4 (by decide +kernel)) (any_sub (l' := []) rfl)) (SA_trans (SA_trans (SA_refl) (SA_glu (ι := []) hA2 eA2 (by decide +kernel)) (any_subA (l' := []) rfl)) (SA_glu (ι := []) hA4 eA4 (by decide +kernel)) (any_subA (l' := []) rfl)) (w1) (((show A4 1 = A2 1 from (eA4 1))).trans (((show A2 1 = A 1 from (eA2 1))).trans (ew1))) (show (0) = 0 ∨ (0) = 1 by omega) (show SETI ((w1)) by assumption))
abbrev V16 : vV := [(0, 0, [(4, 0), (4, 0), (4, 0), (4, 0), (4, 0), (4, 0), (4, 0), (4, 0), (4, 0), (4, 0), (4, 0), (4, 0), (4, 0), (4, 0), (4, 0), (4, 0), (4, 0), (0, 0), (0, 0)]), (0, 4, [(4, 0), (4, 0), (0, 0), (4, 0), (4, 0)]), (0, 9, [(4, 0), (4, 0), (4, 0)]), (1, 5, []), (1, 2, []), (0, 7, [(4, 0), (0, 0), (1, 0), (0, 0), (0, 0)]), (0, 7, [(4, 0), (0, 0), (1, 0), (0, 0), (0, 0)])]
/-- PackHouse.forget: this, this.dictionary, this.dictionary.stand, this.dictionary.stand.tables, this.dictionary.stand.latest, this.past, this.dictionary.content -/
theorem C16 {σE : rS} {D N : Nat → Nat} {F : hF} {A : hA} {d c s : Nat} {Q : wQ} (H : HW V16 σE D N F A) {a1 : Int} (pf1 : F 0 3 = (D 1 : Int)) (pf2 : F 1 1 = (D 2 : Int)) (pf3 : F 2 1 = (D 3 : Int)) (pf4 : F 2 2 = (D 4 : Int)) (pf5 : F 0 2 = (D 5 : Int)) (pf6 : F 1 0 = (D 6 : Int)) (n3 : Int) (en3 : (N 3 : Int) = n3) (n4 : Int) (en4 : (N 4 : Int) = n4) (u2_0 : Int) (eu2_0 : F 2 0 = u2_0) (u5_1 : Int) (eu5_1 : F 5 1 = u5_1) (u6_1 : Int) (eu6_1 : F 6 1 = u6_1) (w3 : Int → Int) (ew3 : A 3 = w3) (h0 : inr (a1)) (h1 : (n3) = 3 ∧ (n4) = 3) (h2 : 0 ≤ (u5_1)) (h3 : 0 ≤ (u6_1)) (k : ∀ (z : Int) (σ : rS) (F' : hF) (A' : hA), HW V16 σ D N F' A' → OUT (V16).length D N σE c s D N σ c s → SF [(1, 2), (2, 0), (5, 1), (5, 2), (5, 3), (5, 4), (6, 1), (6, 2), (6, 3), (6, 4)] F F' → SA [3, 4] A A' → ∀ y2_0 : Int, F' 2 0 = y2_0 → ∀ y5_1 : Int, F' 5 1 = y5_1 → ∀ y6_1 : Int, F' 6 1 = y6_1 → ∀ v3 : Int → Int, A' 3 = v3 → ((z) = 0 ∨ (z) = 1) → ((y5_1) = (u5_1) ∨ (y5_1) = 0) → ((y6_1) = (u6_1) ∨ (y6_1) = 0) → ((y2_0) = (u2_0) ∧ ((v3)) 0 = ((w3)) 0 ∧ ((v3)) 1 = ((w3)) 1 ∧ ((v3)) 2 = ((w3)) 2 ∨ (y2_0) = -1 ∧ ((v3)) 0 = -1 ∧ ((v3)) 1 = -1 ∧ ((v3)) 2 = -1) → Q (some (I z)) σ c s) : Ew 16 (d + 2) 0 (rargs 0 [.ref (D 0), I a1]) [] σE c s Q := by
  have O := OUT_refl (n := (V16).length) (D := D) (N := N) (σ := σE) (c := c) (s := s)
  have HE := H
  have r1 : HID ((-2147483648 : Int) ≤ u5_1 ∧ u5_1 ≤ 2147483647) := krg_e (show (-2147483648 : Int) ≤ F 5 1 ∧ F 5 1 ≤ 2147483647 from H.krg 5 1 (by decide)) (show F 5 1 = u5_1 from (eu5_1))
  have r2 : HID ((-2147483648 : Int) ≤ u6_1 ∧ u6_1 ≤ 2147483647) := krg_e (show (-2147483648 : Int) ≤ F 6 1 ∧ F 6 1 ≤ 2147483647 from H.krg 6 1 (by decide)) (show F 6 1 = u6_1 from (eu6_1))
  replace pf1 := HIDm pf1
  replace pf2 := HIDm pf2
  replace pf3 := HIDm pf3
  replace pf4 := HIDm pf4
  replace pf5 := HIDm pf5
  replace pf6 := HIDm pf6
  replace en3 := HIDm en3
  replace en4 := HIDm en4
  replace eu2_0 := HIDm eu2_0
  replace eu5_1 := HIDm eu5_1
  replace eu6_1 := HIDm eu6_1
  have r3 : HID ((0 : Int) ≤ n3 ∧ n3 ≤ 1000000) := nrng (H.nle 3 (by decide)) (show (N 3 : Int) = n3 from en3)
  have r4 : HID ((0 : Int) ≤ n4 ∧ n4 ≤ 1000000) := nrng (H.nle 4 (by decide)) (show (N 4 : Int) = n4 from en4)
  refine Ew_of (pc' := 1) (fun _ => x_iload_n rfl rfl) ?_
  refine w_ifne (t := 14) rfl rfl (show inr (a1) by omega) (fun b5 => ?_) (fun b5 => ?_)
  · refine Ew_of (pc' := 15) (fun _ => x_iload_n rfl rfl) ?_
    refine Ew_of (pc' := 16) (fun _ => x_iconst rfl) ?_
    refine w_icmpne (t := 29) rfl rfl (show inr (a1) by omega) (show inr (1) by omega) (fun b6 => ?_) (fun b6 => ?_)
    · refine Ew_of (pc' := 30) (fun _ => x_iconst rfl) ?_
      exact w_ireturn rfl (k (0) _ _ _ H O (SF_refl) (SA_refl) (u2_0) ((eu2_0)) (u5_1) ((eu5_1)) (u6_1) ((eu6_1)) (w3) (ew3) (show (0) = 0 ∨ (0) = 1 by omega) (show (u5_1) = (u5_1) ∨ (u5_1) = 0 by have qh0 := HIDe r1; omega) (show (u6_1) = (u6_1) ∨ (u6_1) = 0 by have qh0 := HIDe r2; omega) (show (u2_0) = (u2_0) ∧ ((w3)) 0 = ((w3)) 0 ∧ ((w3)) 1 = ((w3)) 1 ∧ ((w3)) 2 = ((w3)) 2 ∨ (u2_0) = -1 ∧ ((w3)) 0 = -1 ∧ ((w3)) 1 = -1 ∧ ((w3)) 2 = -1 by omega))
    · refine Ew_of (pc' := 20) (fun _ => x_aload_n rfl rfl) ?_
      refine v_g H (o := 0) (v := .ref (D 1)) rfl rfl rfl rfl rfl (vrf (pf1)) ?_
      have r7 : HID ((-2147483648 : Int) ≤ F 1 2 ∧ F 1 2 ≤ 2147483647) := krg_e (show (-2147483648 : Int) ≤ F 1 2 ∧ F 1 2 ≤ 2147483647 from H.krg 1 2 (by decide)) (show F 1 2 = F 1 2 from rfl)
      have r8 : HID ((0 : Int) ≤ F 6 2 ∧ F 6 2 ≤ 1) := krg_e (show (0 : Int) ≤ F 6 2 ∧ F 6 2 ≤ 1 from H.krg 6 2 (by decide)) (show F 6 2 = F 6 2 from rfl)
      refine v_inv H (o := 1) rfl rfl rfl rfl rfl rfl (by rfl) (C114 (D := pul [1, 2, 3, 4, 6] D) (N := pul [1, 2, 3, 4, 6] N) (HW_sub H (VS_of (show vsub V16 V114 [1, 2, 3, 4, 6] = true by decide +kernel))) (pf2) (pf3) (pf4) (pf6) (n3) (en3) (n4) (en4) (F 1 2) (rfl) (u2_0) ((eu2_0)) (u6_1) ((eu6_1)) (F 6 2) (rfl) (w3) (ew3) (A 4) (rfl) (show (n3) = 3 ∧ (n4) = 3 by have qh0 := HIDe r3; have qh1 := HIDe r4; omega) (fun σ9 F9' A9' H' O' hS9 hA9 y9_0_2 ey9_0_2 y9_1_0 ey9_1_0 y9_4_1 ey9_4_1 y9_4_2 ey9_4_2 w9_2 ew9_2 w9_3 ew9_3 pz9_0 pz9_1 pz9_2 pz9_3 pz9_4 pz9_5 => ⟨rfl, ?_⟩))
      replace ey9_0_2 := HIDm ey9_0_2
      replace ey9_1_0 := HIDm ey9_1_0
      replace ey9_4_1 := HIDm ey9_4_1
      replace ey9_4_2 := HIDm ey9_4_2
      refine v_back (c := c) (s := s) H (show vsub V16 V114 [1, 2, 3, 4, 6] = true by decide +kernel) H' O' (fun F9 A9 H O' eF9 eA9 => ?_)
      have O := OUT_trans O O'
      -- Dictionary.clear
      have r10 : HID ((-2147483648 : Int) ≤ y9_0_2 ∧ y9_0_2 ≤ 2147483647) := krg_e (show (-2147483648 : Int) ≤ F9 1 2 ∧ F9 1 2 ≤ 2147483647 from H.krg 1 2 (by decide)) (show F9 1 2 = y9_0_2 from ((eF9 1 2).trans ey9_0_2))
      have r11 : HID ((-2147483648 : Int) ≤ y9_4_1 ∧ y9_4_1 ≤ 2147483647) := krg_e (show (-2147483648 : Int) ≤ F9 6 1 ∧ F9 6 1 ≤ 2147483647 from H.krg 6 1 (by decide)) (show F9 6 1 = y9_4_1 from ((eF9 6 1).trans ey9_4_1))
      have r12 : HID ((0 : Int) ≤ y9_4_2 ∧ y9_4_2 ≤ 1) := krg_e (show (0 : Int) ≤ F9 6 2 ∧ F9 6 2 ≤ 1 from H.krg 6 2 (by decide)) (show F9 6 2 = y9_4_2 from ((eF9 6 2).trans ey9_4_2))
      refine Ew_of (pc' := 31) (fun _ => x_goto rfl rfl) ?_
      refine Ew_of (pc' := 32) (fun _ => x_iconst rfl) ?_
      exact w_ireturn rfl (k (1) _ _ _ H O (SF_trans (SF_refl) (SF_glu (ι := [1, 2, 3, 4, 6]) hS9 eF9 (by decide +kernel)) (any_sub (l' := [(1, 2), (2, 0), (6, 1), (6, 2), (6, 3), (6, 4)]) rfl)) (SA_trans (SA_refl) (SA_glu (ι := [1, 2, 3, 4, 6]) hA9 eA9 (by decide +kernel)) (any_subA (l' := [3, 4]) rfl)) (y9_1_0) (((eF9 2 0).trans ey9_1_0)) (u5_1) ((((show F9 5 1 = F 5 1 from (eF9 5 1))).trans (eu5_1))) (y9_4_1) (((eF9 6 1).trans ey9_4_1)) (w9_2) ((eA9 3).trans ew9_2) (show (1) = 0 ∨ (1) = 1 by omega) (show (u5_1) = (u5_1) ∨ (u5_1) = 0 by have qh0 := HIDe r1; omega) (show (y9_4_1) = (u6_1) ∨ (y9_4_1) = 0 by have qh0 := HIDe r11; have qh1 := HIDe r2; omega) (show (y9_1_0) = (u2_0) ∧ ((w9_2)) 0 = ((w3)) 0 ∧ ((w9_2)) 1 = ((w3)) 1 ∧ ((w9_2)) 2 = ((w3)) 2 ∨ (y9_1_0) = -1 ∧ ((w9_2)) 0 = -1 ∧ ((w9_2)) 1 = -1 ∧ ((w9_2)) 2 = -1 by omega))
  · refine Ew_of (pc' := 5) (fun _ => x_aload_n rfl rfl) ?_
    refine v_g H (o := 0) (v := .ref (D 5)) rfl rfl rfl rfl rfl (vrf (pf5)) ?_
    have r13 : HID ((0 : Int) ≤ F 5 2 ∧ F 5 2 ≤ 1) := krg_e (show (0 : Int) ≤ F 5 2 ∧ F 5 2 ≤ 1 from H.krg 5 2 (by decide)) (show F 5 2 = F 5 2 from rfl)
    have r14 : HID ((-2147483648 : Int) ≤ F 5 3 ∧ F 5 3 ≤ 2147483647) := krg_e (show (-2147483648 : Int) ≤ F 5 3 ∧ F 5 3 ≤ 2147483647 from H.krg 5 3 (by decide)) (show F 5 3 = F 5 3 from rfl)
    have r15 : HID ((-2147483648 : Int) ≤ F 5 4 ∧ F 5 4 ≤ 2147483647) := krg_e (show (-2147483648 : Int) ≤ F 5 4 ∧ F 5 4 ≤ 2147483647 from H.krg 5 4 (by decide)) (show F 5 4 = F 5 4 from rfl)
    refine v_inv H (o := 5) rfl rfl rfl rfl rfl rfl (by rfl) (C156h (D := pul [5] D) (N := pul [5] N) (HW_sub H (VS_of (show vsub V16 V156 [5] = true by decide +kernel))) (u5_1) ((eu5_1)) (F 5 2) (rfl) (F 5 3) (rfl) (F 5 4) (rfl)  (fun σ16 F16' A16' H' O' hS16 hA16 y16_0_1 ey16_0_1 y16_0_2 ey16_0_2 y16_0_3 ey16_0_3 y16_0_4 ey16_0_4 pz16_0 pz16_1 => ⟨rfl, ?_⟩))
    replace ey16_0_1 := HIDm ey16_0_1
    replace ey16_0_2 := HIDm ey16_0_2
    replace ey16_0_3 := HIDm ey16_0_3
    replace ey16_0_4 := HIDm ey16_0_4
    refine v_back (c := c) (s := s) H (show vsub V16 V156 [5] = true by decide +kernel) H' O' (fun F16 A16 H O' eF16 eA16 => ?_)
    have O := OUT_trans O O'
    -- Row.clear
    have r17 : HID ((-2147483648 : Int) ≤ y16_0_1 ∧ y16_0_1 ≤ 2147483647) := krg_e (show (-2147483648 : Int) ≤ F16 5 1 ∧ F16 5 1 ≤ 2147483647 from H.krg 5 1 (by decide)) (show F16 5 1 = y16_0_1 from ((eF16 5 1).trans ey16_0_1))
    have r18 : HID ((0 : Int) ≤ y16_0_2 ∧ y16_0_2 ≤ 1) := krg_e (show (0 : Int) ≤ F16 5 2 ∧ F16 5 2 ≤ 1 from H.krg 5 2 (by decide)) (show F16 5 2 = y16_0_2 from ((eF16 5 2).trans ey16_0_2))
    have r19 : HID ((-2147483648 : Int) ≤ y16_0_3 ∧ y16_0_3 ≤ 2147483647) := krg_e (show (-2147483648 : Int) ≤ F16 5 3 ∧ F16 5 3 ≤ 2147483647 from H.krg 5 3 (by decide)) (show F16 5 3 = y16_0_3 from ((eF16 5 3).trans ey16_0_3))
    have r20 : HID ((-2147483648 : Int) ≤ y16_0_4 ∧ y16_0_4 ≤ 2147483647) := krg_e (show (-2147483648 : Int) ≤ F16 5 4 ∧ F16 5 4 ≤ 2147483647 from H.krg 5 4 (by decide)) (show F16 5 4 = y16_0_4 from ((eF16 5 4).trans ey16_0_4))
    refine Ew_of (pc' := 31) (fun _ => x_goto rfl rfl) ?_
    refine Ew_of (pc' := 32) (fun _ => x_iconst rfl) ?_
    exact w_ireturn rfl (k (1) _ _ _ H O (SF_trans (SF_refl) (SF_glu (ι := [5]) hS16 eF16 (by decide +kernel)) (any_sub (l' := [(5, 1), (5, 2), (5, 3), (5, 4)]) rfl)) (SA_trans (SA_refl) (SA_glu (ι := [5]) hA16 eA16 (by decide +kernel)) (any_subA (l' := []) rfl)) (u2_0) ((((show F16 2 0 = F 2 0 from (eF16 2 0))).trans (eu2_0))) (y16_0_1) (((eF16 5 1).trans ey16_0_1)) (u6_1) ((((show F16 6 1 = F 6 1 from (eF16 6 1))).trans (eu6_1))) (w3) (((show A16 3 = A 3 from (eA16 3))).trans (ew3)) (show (1) = 0 ∨ (1) = 1 by omega) (show (y16_0_1) = (u5_1) ∨ (y16_0_1) = 0 by have qh0 := HIDe r1; have qh1 := HIDe r17; omega) (show (u6_1) = (u6_1) ∨ (u6_1) = 0 by have qh0 := HIDe r2; omega) (show (u2_0) = (u2_0) ∧ ((w3)) 0 = ((w3)) 0 ∧ ((w3)) 1 = ((w3)) 1 ∧ ((w3)) 2 = ((w3)) 2 ∨ (u2_0) = -1 ∧ ((w3)) 0 = -1 ∧ ((w3)) 1 = -1 ∧ ((w3)) 2 = -1 by omega))
