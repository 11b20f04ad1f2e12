theorem M372 {σ0 σ : rS} {D N : Nat → Nat} {F : hF} {A : hA} {d c s : Nat} {Q : wQ} (H : HS σ0 σ D N F A) {a1 a2 a3 : Int} (u3_12 : Int) (eu3_12 : F 3 12 = u3_12) (w14 : Int → Int) (ew14 : A 14 = w14) (w21 : Int → Int) (ew21 : A 21 = w21) (h0 : inr (a1)) (h1 : inr (a2)) (h2 : inr (a3)) (h3 : 0 ≤ (a1) ∧ (a1) ≤ (a2) ∧ (a2) ≤ 65536 ∧ 0 ≤ (a3) ∧ (a3) ≤ 65536) (h4 : 0 ≤ (u3_12) ∧ (u3_12) + (a3) ≤ 131072) (k : ∀ (z : Int) σ Fₚ Aₚ, HS σ0 σ D N Fₚ Aₚ → SF [(1, 4), (3, 12), (3, 15), (3, 16)] F Fₚ → SA [21] A Aₚ → ∀ y1_4 : Int, Fₚ 1 4 = y1_4 → ∀ y3_12 : Int, Fₚ 3 12 = y3_12 → ∀ v21 : Int → Int, Aₚ 21 = v21 → (inr (z)) → (0 ≤ (z) ∧ (z) ≤ 3) → ((u3_12) ≤ (y3_12) ∧ (y3_12) ≤ (u3_12) + (a3)) → (TBQ ((w14)) ((a2)) ((a1)) (sc ((w21)) 0 ((u3_12))) ((a3)) ((z)) ((y1_4)) (sc ((v21)) 0 ((y3_12)))) → Q (some (I z)) σ c s) : Ew 372 (d + 1) 0 (rargs 0 [.ref (D 3), I a1, I a2, I a3]) [] σ c s Q := by
  have r1 : (-2147483648 : Int) ≤ u3_12 ∧ u3_12 ≤ 2147483647 := rngE (show (-2147483648 : Int) ≤ F 3 12 ∧ F 3 12 ≤ 2147483647 from H.frng 3 12) (show F 3 12 = u3_12 from (eu3_12))
  refine Ew_of (pcₚ := 1) (fun _ => x_aload_n rfl rfl) ?_
  refine Ew_of (pcₚ := 2) (fun _ => x_iload_n rfl rfl) ?_
  refine w_pI H (o := 3) rfl rfl (H.perm 3 rfl) rfl rfl rfl (fun _ => rfl) rfl (show (-2147483648 : Int) ≤ a1 ∧ a1 ≤ 2147483647 from q_508 h3) (fun σ H => ?_)
  refine Ew_of (pcₚ := 6) (fun _ => x_aload_n rfl rfl) ?_
  refine w_gI H (o := 3) (w := u3_12) rfl (H.perm 3 rfl) rfl rfl rfl (fun _ => rfl) (eu3_12) ?_
  refine Ew_of (pcₚ := 11) (fun _ => x_istore rfl) ?_
  have : TBO ((w14)) ((a2)) ((a1)) (sc ((w21)) 0 ((u3_12))) ((a3)) ((a1)) (sc ((w21)) 0 ((u3_12))) ((a3) - ((u3_12) - (u3_12))) := by rw [show ((a3) : Int) - ((u3_12) - (u3_12)) = (a3) by omega]; exact TBO_0
  suffices hl11 : ∀ (m : Nat), ∀ (ls : rO) (σ : rS) (F_11 : hF) (A_11 : hA) , rlook ls 0 = some (.ref (D 3)) → rlook ls 2 = some (I (a2)) → rlook ls 3 = some (I (a3)) → rlook ls 4 = some (I (u3_12)) → HS σ0 σ D N F_11 A_11 → SF [(1, 4), (3, 12), (3, 15), (3, 16)] (updF F 3 15 (a1)) F_11 → SA [21] A A_11 → ∀ y11_3_12 : Int, F_11 3 12 = y11_3_12 → ∀ y11_3_15 : Int, F_11 3 15 = y11_3_15 → ∀ w11_21 : Int → Int, A_11 21 = w11_21 → (0 ≤ (y11_3_15) ∧ (y11_3_15) ≤ (a2)) → ((u3_12) ≤ (y11_3_12) ∧ (y11_3_12) ≤ (u3_12) + (a3)) → (TBO ((w14)) ((a2)) ((a1)) (sc ((w21)) 0 ((u3_12))) ((a3)) ((y11_3_15)) (sc ((w11_21)) 0 ((y11_3_12))) ((a3) - ((y11_3_12) - (u3_12)))) → ((a2) - (y11_3_15)).toNat = m → Ew 372 (d + 1) 11 ls [] σ c s Q from
    hl11 _ _ σ _ _  (rk_o (rfl) rfl rfl) (rk_o (rfl) rfl rfl) (rk_o (rfl) rfl rfl) (rk_s) H (SF_refl) (SA_refl) (u3_12) ((eu3_12)) (a1) (rfl) (w21) (ew21) (show 0 ≤ (a1) ∧ (a1) ≤ (a2) from q_510 h3) (show (u3_12) ≤ (u3_12) ∧ (u3_12) ≤ (u3_12) + (a3) from q_509 h3) (show TBO ((w14)) ((a2)) ((a1)) (sc ((w21)) 0 ((u3_12))) ((a3)) ((a1)) (sc ((w21)) 0 ((u3_12))) ((a3) - ((u3_12) - (u3_12))) by assumption) rfl
  as_aux_lemma =>
  intro m
  induction m using Nat.strongRecOn with
  | _ m ih11 =>
    intro ls σ F_11 A_11  l11_0 l11_2 l11_3 l11_4 H hS_11 hA_11 y11_3_12 ey11_3_12 y11_3_15 ey11_3_15 w11_21 ew11_21 j11_0 j11_1 j11_2 hm11
    have r2 : (-2147483648 : Int) ≤ y11_3_12 ∧ y11_3_12 ≤ 2147483647 := rngE (show (-2147483648 : Int) ≤ F_11 3 12 ∧ F_11 3 12 ≤ 2147483647 from H.frng 3 12) (show F_11 3 12 = y11_3_12 from (ey11_3_12))
    have r3 : (-2147483648 : Int) ≤ y11_3_15 ∧ y11_3_15 ≤ 2147483647 := rngE (show (-2147483648 : Int) ≤ F_11 3 15 ∧ F_11 3 15 ≤ 2147483647 from H.frng 3 15) (show F_11 3 15 = y11_3_15 from (ey11_3_15))
    have j11_t : TBO ((w14)) ((a2)) ((a1)) (sc ((w21)) 0 ((u3_12))) ((a3)) ((y11_3_15)) (sc ((w11_21)) 0 ((y11_3_12))) ((a3) - ((y11_3_12) - (u3_12))) := j11_2
    refine Ew_of (pcₚ := 12) (fun _ => x_aload_n rfl l11_0) ?_
    refine w_gT H (o := 3) (t := 1) rfl (H.perm 3 rfl) rfl rfl rfl rfl rfl rfl ?_
    refine Ew_of (pcₚ := 16) (fun _ => x_iload_n rfl l11_2) ?_
    refine w_pI H (o := 1) rfl rfl (H.perm 1 rfl) rfl rfl rfl (fun _ => rfl) rfl (show (-2147483648 : Int) ≤ a2 ∧ a2 ≤ 2147483647 from q_511 h3 j11_0) (fun σ H => ?_)
    refine Ew_of (pcₚ := 20) (fun _ => x_aload_n rfl l11_0) ?_
    refine w_gI H (o := 3) (w := y11_3_15) rfl (H.perm 3 rfl) rfl rfl rfl (fun _ => rfl) (ey11_3_15) ?_
    refine Ew_of (pcₚ := 24) (fun _ => x_iload_n rfl l11_2) ?_
    refine w_icmpne (t := 29) rfl rfl (show inr (y11_3_15) from q_512 j11_0 r3) (show inr (a2) from h1) (fun b4 => ?_) (fun b4 => ?_)
    · refine Ew_of (pcₚ := 30) (fun _ => x_aload_n rfl l11_0) ?_
      refine w_gT H (o := 3) (t := 1) rfl (H.perm 3 rfl) rfl rfl rfl rfl rfl rfl ?_
      refine w_gT H (o := 1) (t := 14) rfl (H.perm 1 rfl) rfl rfl rfl rfl rfl rfl ?_
      refine Ew_of (pcₚ := 37) (fun _ => x_aload_n rfl l11_0) ?_
      refine w_gI H (o := 3) (w := y11_3_15) rfl (H.perm 3 rfl) rfl rfl rfl (fun _ => rfl) (ey11_3_15) ?_
      refine w_lI H (o := 14) (n := 65536) rfl (H.perm 14 rfl) rfl rfl (H.fix 14 rfl rfl) (show 0 ≤ y11_3_15 ∧ y11_3_15 < ((65536 : Nat) : Int) by omega) (by decide) (fun v5 ev5 qv5 => ?_)
      have qv5 : (0 : Int) ≤ v5 ∧ v5 ≤ 255 := qv5
      have ev5 : (w14) (y11_3_15) = v5 := (congrFun ((funext (hA_11 14 rfl)).trans (ew14)) (y11_3_15)).symm.trans ev5
      have htk := ev5
      refine Ew_of (pcₚ := 43) (fun _ => x_istore rfl) ?_
      refine Ew_of (pcₚ := 44) (fun _ => x_aload_n rfl (rk_o (l11_0) rfl rfl)) ?_
      refine Ew_of (pcₚ := 45) (fun _ => x_dup rfl rfl) ?_
      refine w_gI H (o := 3) (w := y11_3_15) rfl (H.perm 3 rfl) rfl rfl rfl (fun _ => rfl) (ey11_3_15) ?_
      refine Ew_of (pcₚ := 49) (fun _ => x_iconst rfl) ?_
      refine w_iadd rfl ?_
      refine w_pI H (o := 3) rfl rfl (H.perm 3 rfl) rfl rfl rfl (fun _ => rfl) rfl (show (-2147483648 : Int) ≤ (y11_3_15 + 1) ∧ (y11_3_15 + 1) ≤ 2147483647 from q_513 h3 j11_0) (fun σ H => ?_)
      refine Ew_of (pcₚ := 54) (fun _ => x_aload_n rfl (rk_o (l11_0) rfl rfl)) ?_
      refine Ew_of (pcₚ := 56) (fun _ => x_iload rfl rk_s) ?_
      refine Ew_of (pcₚ := 58) (fun _ => x_bipush (z := 16) rfl (by decide)) ?_
      refine w_idiv rfl (show inr (v5) ∧ 0 ≤ v5 from q_515 qv5) (show inr (16) ∧ 0 < 16 from q_514) ?_
      refine Ew_of (pcₚ := 60) (fun _ => x_iload_n rfl (rk_o (l11_2) rfl rfl)) ?_
      refine w_inv H (o := 3) rfl rfl rfl (H.perm 3 rfl) rfl rfl (by rfl) (M371 H ((y11_3_15 + 1)) (rfl) (w14) ((funext (hA_11 14 rfl)).trans (ew14)) (show inr ((v5 / 16)) from q_517 qv5) (show inr (a2) from h1) (show 0 ≤ ((v5 / 16)) ∧ ((v5 / 16)) ≤ 15 from q_516 qv5) (show 0 ≤ ((y11_3_15 + 1)) ∧ ((y11_3_15 + 1)) ≤ (a2) ∧ (a2) ≤ 65536 by omega) (fun z10 σ F6 A7 H hS8 hA9 y11 ey12 y13 ey14 pz10_0 pz10_1 pz10_2 pz10_3 pz10_4 => ⟨rretB rfl pz10_0, ?_⟩))
      have r15 : (-2147483648 : Int) ≤ y11 ∧ y11 ≤ 2147483647 := rngE (show (-2147483648 : Int) ≤ F6 3 15 ∧ F6 3 15 ≤ 2147483647 from H.frng 3 15) (show F6 3 15 = y11 from (ey12))
      have r16 : (-2147483648 : Int) ≤ y13 ∧ y13 ≤ 2147483647 := rngE (show (-2147483648 : Int) ≤ F6 3 16 ∧ F6 3 16 ≤ 2147483647 from H.frng 3 16) (show F6 3 16 = y13 from (ey14))
      refine w_ifne (t := 68) rfl rfl (show inr (z10) from q_138 pz10_0) (fun b17 => ?_) (fun b17 => ?_)
      · have hb1 := TB1_of j11_t (by omega) (pz10_3 (by omega)) (by omega) (by omega)
        refine Ew_of (pcₚ := 69) (fun _ => x_aload_n rfl (rk_o (l11_0) rfl rfl)) ?_
        refine w_gI H (o := 3) (w := y13) rfl (H.perm 3 rfl) rfl rfl rfl (fun _ => rfl) (ey14) ?_
        refine Ew_of (pcₚ := 74) (fun _ => x_istore rfl) ?_
        have : sc ((w11_21)) 0 ((y11_3_12)) = sc ((w11_21)) 0 ((y11_3_12)) ++ sc ((w14)) ((y11)) ((y11)) := by rw [sc_nil (Int.le_refl _), List.append_nil]
        suffices hl74 : ∀ (m : Nat), ∀ (ls : rO) (σ : rS) (F_74 : hF) (A_74 : hA) (x74_6 : Int), rlook ls 0 = some (.ref (D 3)) → rlook ls 2 = some (I (a2)) → rlook ls 3 = some (I (a3)) → rlook ls 4 = some (I (u3_12)) → rlook ls 5 = some (I (v5)) → rlook ls 6 = some (I (x74_6)) → HS σ0 σ D N F_74 A_74 → SF [(3, 12), (3, 15)] F6 F_74 → SA [21] A7 A_74 → ∀ y74_3_12 : Int, F_74 3 12 = y74_3_12 → ∀ y74_3_15 : Int, F_74 3 15 = y74_3_15 → ∀ w74_21 : Int → Int, A_74 21 = w74_21 → (inr (x74_6)) → ((x74_6) ≤ (y13)) → ((y13) ≤ (x74_6) ∨ (0) ≤ (x74_6)) → ((y11) ≤ (y74_3_15) ∧ (y74_3_15) ≤ (a2)) → ((u3_12) ≤ (y74_3_12) ∧ (y74_3_12) ≤ (u3_12) + (a3)) → ((y74_3_12) = (y11_3_12) + ((y74_3_15) - (y11))) → ((x74_6) = (y13) - ((y74_3_15) - (y11)) ∧ 0 ≤ (x74_6)) → (sc ((w74_21)) 0 ((y74_3_12)) = sc ((w11_21)) 0 ((y11_3_12)) ++ sc ((w14)) ((y11)) ((y74_3_15))) → ((x74_6) - (0)).toNat = m → Ew 372 (d + 1) 74 ls [] σ c s Q from
          hl74 _ _ σ _ _ (y13) (rk_o (rk_o (l11_0) rfl rfl) rfl rfl) (rk_o (rk_o (l11_2) rfl rfl) rfl rfl) (rk_o (rk_o (l11_3) rfl rfl) rfl rfl) (rk_o (rk_o (l11_4) rfl rfl) rfl rfl) (rk_o (rk_s) rfl rfl) (rk_s) H (SF_refl) (SA_refl) (y11_3_12) (((hS8 3 12 rfl).trans (ey11_3_12))) (y11) ((ey12)) (w11_21) ((funext (hA9 21 rfl)).trans (ew11_21)) (show inr (y13) from q_521 pz10_2 r16) (show (y13) ≤ (y13) from q_43) (show (y13) ≤ (y13) ∨ (0) ≤ (y13) from q_520) (show (y11) ≤ (y11) ∧ (y11) ≤ (a2) from q_519 pz10_1) (show (u3_12) ≤ (y11_3_12) ∧ (y11_3_12) ≤ (u3_12) + (a3) from j11_1) (show (y11_3_12) = (y11_3_12) + ((y11) - (y11)) from q_446) (show (y13) = (y13) - ((y11) - (y11)) ∧ 0 ≤ (y13) from q_518 pz10_2) (show sc ((w11_21)) 0 ((y11_3_12)) = sc ((w11_21)) 0 ((y11_3_12)) ++ sc ((w14)) ((y11)) ((y11)) by assumption) rfl
        as_aux_lemma =>
        intro m
        induction m using Nat.strongRecOn with
        | _ m ih74 =>
          intro ls σ F_74 A_74 x74_6 l74_0 l74_2 l74_3 l74_4 l74_5 l74_6 H hS_74 hA_74 y74_3_12 ey74_3_12 y74_3_15 ey74_3_15 w74_21 ew74_21 j74_0 j74_1 j74_2 j74_3 j74_4 j74_5 j74_6 j74_7 hm74
          have r18 : (-2147483648 : Int) ≤ y74_3_12 ∧ y74_3_12 ≤ 2147483647 := rngE (show (-2147483648 : Int) ≤ F_74 3 12 ∧ F_74 3 12 ≤ 2147483647 from H.frng 3 12) (show F_74 3 12 = y74_3_12 from (ey74_3_12))
          have r19 : (-2147483648 : Int) ≤ y74_3_15 ∧ y74_3_15 ≤ 2147483647 := rngE (show (-2147483648 : Int) ≤ F_74 3 15 ∧ F_74 3 15 ≤ 2147483647 from H.frng 3 15) (show F_74 3 15 = y74_3_15 from (ey74_3_15))
          refine Ew_of (pcₚ := 76) (fun _ => x_iload rfl l74_6) ?_
          refine w_ifle (t := 160) rfl rfl (show inr (x74_6) from j74_0) (fun b20 => ?_) (fun b20 => ?_)
          · have hb2 := TB2_of hb1 (p2 := (y74_3_15)) (by omega) (by omega) (by omega) j74_7 (by omega)
            refine Ew_of (pcₚ := 161) (fun _ => x_aload_n rfl l74_0) ?_
            refine w_gI H (o := 3) (w := y74_3_15) rfl (H.perm 3 rfl) rfl rfl rfl (fun _ => rfl) (ey74_3_15) ?_
            refine Ew_of (pcₚ := 165) (fun _ => x_iload_n rfl l74_2) ?_
            refine w_icmpne (t := 170) rfl rfl (show inr (y74_3_15) from q_18 r19) (show inr (a2) from h1) (fun b21 => ?_) (fun b21 => ?_)
            · refine Ew_of (pcₚ := 171) (fun _ => x_aload_n rfl l74_0) ?_
              refine w_gI H (o := 3) (w := y74_3_15) rfl (H.perm 3 rfl) rfl rfl rfl (fun _ => rfl) (ey74_3_15) ?_
              refine Ew_of (pcₚ := 176) (fun _ => x_istore rfl) ?_
              refine Ew_of (pcₚ := 177) (fun _ => x_aload_n rfl (rk_o (l74_0) rfl rfl)) ?_
              refine w_gI H (o := 3) (w := y74_3_15) rfl (H.perm 3 rfl) rfl rfl rfl (fun _ => rfl) (ey74_3_15) ?_
              refine Ew_of (pcₚ := 181) (fun _ => x_iconst rfl) ?_
              refine w_iadd rfl ?_
              refine Ew_of (pcₚ := 183) (fun _ => x_iload_n rfl (rk_o (l74_2) rfl rfl)) ?_
              refine w_icmple (t := 188) rfl rfl (show inr ((y74_3_15 + 2)) from q_522 h3 j74_3 r19) (show inr (a2) from h1) (fun b22 => ?_) (fun b22 => ?_)
              · have hln : ((sc ((w74_21)) 0 ((y74_3_12))).length : Int) = (y74_3_12) := by rw [sc_lenI (by omega)]; omega
                refine Ew_of (pcₚ := 189) (fun _ => x_aload_n rfl (rk_o (l74_0) rfl rfl)) ?_
                refine w_gT H (o := 3) (t := 1) rfl (H.perm 3 rfl) rfl rfl rfl rfl rfl rfl ?_
                refine w_gT H (o := 1) (t := 14) rfl (H.perm 1 rfl) rfl rfl rfl rfl rfl rfl ?_
                refine Ew_of (pcₚ := 196) (fun _ => x_aload_n rfl (rk_o (l74_0) rfl rfl)) ?_
                refine w_gI H (o := 3) (w := y74_3_15) rfl (H.perm 3 rfl) rfl rfl rfl (fun _ => rfl) (ey74_3_15) ?_
                refine w_lI H (o := 14) (n := 65536) rfl (H.perm 14 rfl) rfl rfl (H.fix 14 rfl rfl) (show 0 ≤ y74_3_15 ∧ y74_3_15 < ((65536 : Nat) : Int) from q_523 b22 h3 j11_0 j74_3 pz10_1) (by decide) (fun v23 ev23 qv23 => ?_)
                have qv23 : (0 : Int) ≤ v23 ∧ v23 ≤ 255 := qv23
                have ev23 : (w14) (y74_3_15) = v23 := (congrFun ((funext (hA_74 14 rfl)).trans ((funext (hA9 14 rfl)).trans ((funext (hA_11 14 rfl)).trans (ew14)))) (y74_3_15)).symm.trans ev23
                have hd1 := ev23
                refine Ew_of (pcₚ := 203) (fun _ => x_sipush (z := 256) rfl (by decide)) ?_
                refine Ew_of (pcₚ := 204) (fun _ => x_aload_n rfl (rk_o (l74_0) rfl rfl)) ?_
                refine w_gT H (o := 3) (t := 1) rfl (H.perm 3 rfl) rfl rfl rfl rfl rfl rfl ?_
                refine w_gT H (o := 1) (t := 14) rfl (H.perm 1 rfl) rfl rfl rfl rfl rfl rfl ?_
                refine Ew_of (pcₚ := 211) (fun _ => x_aload_n rfl (rk_o (l74_0) rfl rfl)) ?_
                refine w_gI H (o := 3) (w := y74_3_15) rfl (H.perm 3 rfl) rfl rfl rfl (fun _ => rfl) (ey74_3_15) ?_
                refine Ew_of (pcₚ := 215) (fun _ => x_iconst rfl) ?_
                refine w_iadd rfl ?_
                have hix : ((y74_3_15 + 1)) = (y74_3_15) + 1 := q_308
                refine w_lI H (o := 14) (n := 65536) rfl (H.perm 14 rfl) rfl rfl (H.fix 14 rfl rfl) (show 0 ≤ (y74_3_15 + 1) ∧ (y74_3_15 + 1) < ((65536 : Nat) : Int) from q_524 b22 h3 j11_0 j74_3 pz10_1) (by decide) (fun v24 ev24 qv24 => ?_)
                have qv24 : (0 : Int) ≤ v24 ∧ v24 ≤ 255 := qv24
                have ev24 : (w14) ((y74_3_15 + 1)) = v24 := (congrFun ((funext (hA_74 14 rfl)).trans ((funext (hA9 14 rfl)).trans ((funext (hA_11 14 rfl)).trans (ew14)))) ((y74_3_15 + 1))).symm.trans ev24
                have hd2 : ((w14)) ((y74_3_15) + 1) = (v24) := by first | exact ev24 | (rw [← hix]; exact ev24)
                refine w_imul rfl ?_
                refine w_iadd rfl ?_
                refine Ew_of (pcₚ := 221) (fun _ => x_istore rfl) ?_
                have hdd : ((v23 + (256 * v24))) = ((w14)) ((y74_3_15)) + 256 * ((w14)) ((y74_3_15) + 1) := q_525 ev23 hd2
                refine Ew_of (pcₚ := 222) (fun _ => x_aload_n rfl (rk_o (rk_o (l74_0) rfl rfl) rfl rfl)) ?_
                refine Ew_of (pcₚ := 223) (fun _ => x_dup rfl rfl) ?_
                refine w_gI H (o := 3) (w := y74_3_15) rfl (H.perm 3 rfl) rfl rfl rfl (fun _ => rfl) (ey74_3_15) ?_
                refine Ew_of (pcₚ := 227) (fun _ => x_iconst rfl) ?_
                refine w_iadd rfl ?_
                refine w_pI H (o := 3) rfl rfl (H.perm 3 rfl) rfl rfl rfl (fun _ => rfl) rfl (show (-2147483648 : Int) ≤ (y74_3_15 + 2) ∧ (y74_3_15 + 2) ≤ 2147483647 from q_526 b22 h3 r19) (fun σ H => ?_)
                refine Ew_of (pcₚ := 233) (fun _ => x_iload rfl rk_s) ?_
                refine w_ifeq (t := 245) rfl rfl (show inr ((v23 + (256 * v24))) from q_527 qv23 qv24) (fun b25 => ?_) (fun b25 => ?_)
                · refine Ew_of (pcₚ := 246) (fun _ => x_aload_n rfl (rk_o (rk_o (l74_0) rfl rfl) rfl rfl)) ?_
                  refine w_gT H (o := 3) (t := 1) rfl (H.perm 3 rfl) rfl rfl rfl rfl rfl rfl ?_
                  refine Ew_of (pcₚ := 251) (fun _ => x_iload rfl (rk_o (rk_s) rfl rfl)) ?_
                  refine w_pI H (o := 1) rfl rfl (H.perm 1 rfl) rfl rfl rfl (fun _ => rfl) rfl (show (-2147483648 : Int) ≤ y74_3_15 ∧ y74_3_15 ≤ 2147483647 from r19) (fun σ H => ?_)
                  refine Ew_of (pcₚ := 255) (fun _ => x_iconst rfl) ?_
                  have : TBQ ((w14)) ((a2)) ((a1)) (sc ((w21)) 0 ((u3_12))) ((a3)) (2) ((y74_3_15)) (sc ((w74_21)) 0 ((y74_3_12))) := TB2_d hb2 (by omega) hdd (by omega) rfl (by omega)
                  exact w_ireturn rfl (k (2) σ _ _ H (SF_upd (SF_upd (SF_trans (SF_trans (SF_upd (SF_upd (SF_trans (SF_upd (SF_refl) rfl) hS_11 (any_sub rfl)) rfl) rfl) hS8 (any_sub rfl)) hS_74 (any_sub rfl)) rfl) rfl) (SA_trans (SA_trans (SA_trans (SA_refl) hA_11 (any_subA rfl)) hA9 (any_subA rfl)) hA_74 (any_subA rfl)) (y74_3_15) (rfl) (y74_3_12) ((ey74_3_12)) (w74_21) (ew74_21) (show inr (2) from q_122) (show 0 ≤ (2) ∧ (2) ≤ 3 by first | exact q_528 | omega) (show (u3_12) ≤ (y74_3_12) ∧ (y74_3_12) ≤ (u3_12) + a3 from j74_4) (show TBQ ((w14)) (a2) (a1) (sc ((w21)) 0 ((u3_12))) (a3) ((2)) ((y74_3_15)) (sc ((w74_21)) 0 ((y74_3_12))) by assumption))
                · refine Ew_of (pcₚ := 238) (fun _ => x_iload rfl rk_s) ?_
                  refine Ew_of (pcₚ := 239) (fun _ => x_aload_n rfl (rk_o (rk_o (l74_0) rfl rfl) rfl rfl)) ?_
                  refine w_gI H (o := 3) (w := y74_3_12) rfl (H.perm 3 rfl) rfl rfl rfl (fun _ => rfl) (ey74_3_12) ?_
                  refine w_icmple (t := 256) rfl rfl (show inr ((v23 + (256 * v24))) from q_527 qv23 qv24) (show inr (y74_3_12) from q_18 r18) (fun b26 => ?_) (fun b26 => ?_)
                  · refine Ew_of (pcₚ := 257) (fun _ => x_aload_n rfl (rk_o (rk_o (l74_0) rfl rfl) rfl rfl)) ?_
                    refine Ew_of (pcₚ := 259) (fun _ => x_iload rfl (rk_o (rk_o (l74_5) rfl rfl) rfl rfl)) ?_
                    refine Ew_of (pcₚ := 261) (fun _ => x_bipush (z := 16) rfl (by decide)) ?_
                    refine w_irem rfl (show inr (v5) ∧ 0 ≤ v5 from q_515 qv5) (show inr (16) ∧ 0 < 16 from q_514) ?_
                    refine Ew_of (pcₚ := 263) (fun _ => x_iload_n rfl (rk_o (rk_o (l74_2) rfl rfl) rfl rfl)) ?_
                    refine w_inv H (o := 3) rfl rfl rfl (H.perm 3 rfl) rfl rfl (by rfl) (M371 H ((y74_3_15 + 2)) (rfl) (w14) ((funext (hA_74 14 rfl)).trans ((funext (hA9 14 rfl)).trans ((funext (hA_11 14 rfl)).trans (ew14)))) (show inr ((v5 % 16)) from q_531) (show inr (a2) from h1) (show 0 ≤ ((v5 % 16)) ∧ ((v5 % 16)) ≤ 15 from q_530) (show 0 ≤ ((y74_3_15 + 2)) ∧ ((y74_3_15 + 2)) ≤ (a2) ∧ (a2) ≤ 65536 from q_529 b22 h3 j11_0 j74_3 pz10_1) (fun z31 σ F27 A28 H hS29 hA30 y32 ey33 y34 ey35 pz31_0 pz31_1 pz31_2 pz31_3 pz31_4 => ⟨rretB rfl pz31_0, ?_⟩))
                    have r36 : (-2147483648 : Int) ≤ y32 ∧ y32 ≤ 2147483647 := rngE (show (-2147483648 : Int) ≤ F27 3 15 ∧ F27 3 15 ≤ 2147483647 from H.frng 3 15) (show F27 3 15 = y32 from (ey33))
                    have r37 : (-2147483648 : Int) ≤ y34 ∧ y34 ≤ 2147483647 := rngE (show (-2147483648 : Int) ≤ F27 3 16 ∧ F27 3 16 ≤ 2147483647 from H.frng 3 16) (show F27 3 16 = y34 from (ey35))
                    refine w_ifne (t := 271) rfl rfl (show inr (z31) from q_138 pz31_0) (fun b38 => ?_) (fun b38 => ?_)
                    · refine Ew_of (pcₚ := 272) (fun _ => x_aload_n rfl (rk_o (rk_o (l74_0) rfl rfl) rfl rfl)) ?_
                      refine w_gI H (o := 3) (w := y34) rfl (H.perm 3 rfl) rfl rfl rfl (fun _ => rfl) (ey35) ?_
                      refine Ew_of (pcₚ := 276) (fun _ => x_iconst rfl) ?_
                      refine w_iadd rfl ?_
                      refine Ew_of (pcₚ := 278) (fun _ => x_iload_n rfl (rk_o (rk_o (l74_3) rfl rfl) rfl rfl)) ?_
                      refine Ew_of (pcₚ := 279) (fun _ => x_aload_n rfl (rk_o (rk_o (l74_0) rfl rfl) rfl rfl)) ?_
                      refine w_gI H (o := 3) (w := y74_3_12) rfl (H.perm 3 rfl) rfl rfl rfl (fun _ => rfl) ((hS29 3 12 rfl).trans (ey74_3_12)) ?_
                      refine Ew_of (pcₚ := 284) (fun _ => x_iload rfl (rk_o (rk_o (l74_4) rfl rfl) rfl rfl)) ?_
                      refine w_isub rfl ?_
                      refine w_isub rfl ?_
                      refine w_icmple (t := 300) rfl rfl (show inr ((y34 + 4)) by omega) (show inr ((a3 - (y74_3_12 - u3_12))) from q_532 h3 j74_4) (fun b39 => ?_) (fun b39 => ?_)
                      · refine Ew_of (pcₚ := 301) (fun _ => x_iconst rfl) ?_
                        refine Ew_of (pcₚ := 303) (fun _ => x_istore rfl) ?_
                        have : sc ((w74_21)) 0 ((y74_3_12)) = cpb (sc ((w74_21)) 0 ((y74_3_12))) (((v23 + (256 * v24)))) (0 : Int).toNat := rfl
                        suffices hl303 : ∀ (m : Nat), ∀ (ls : rO) (σ : rS) (F_303 : hF) (A_303 : hA) (x303_8 : Int), rlook ls 0 = some (.ref (D 3)) → rlook ls 2 = some (I (a2)) → rlook ls 3 = some (I (a3)) → rlook ls 4 = some (I (u3_12)) → rlook ls 7 = some (I ((v23 + (256 * v24)))) → rlook ls 8 = some (I (x303_8)) → HS σ0 σ D N F_303 A_303 → SF [(3, 12)] F27 F_303 → SA [21] A28 A_303 → ∀ y303_3_12 : Int, F_303 3 12 = y303_3_12 → ∀ w303_21 : Int → Int, A_303 21 = w303_21 → (inr (x303_8)) → ((0) ≤ (x303_8)) → ((x303_8) ≤ (0) ∨ (x303_8) ≤ (((y34) + 4))) → ((y303_3_12) = (y74_3_12) + (x303_8)) → (sc ((w303_21)) 0 ((y303_3_12)) = cpb (sc ((w74_21)) 0 ((y74_3_12))) (((v23 + (256 * v24)))) ((x303_8) : Int).toNat) → ((((y34) + 4)) - (x303_8)).toNat = m → Ew 372 (d + 1) 303 ls [] σ c s Q from
                          hl303 _ _ σ _ _ (0) (rk_o (rk_o (rk_o (l74_0) rfl rfl) rfl rfl) rfl rfl) (rk_o (rk_o (rk_o (l74_2) rfl rfl) rfl rfl) rfl rfl) (rk_o (rk_o (rk_o (l74_3) rfl rfl) rfl rfl) rfl rfl) (rk_o (rk_o (rk_o (l74_4) rfl rfl) rfl rfl) rfl rfl) (rk_o (rk_s) rfl rfl) (rk_s) H (SF_refl) (SA_refl) (y74_3_12) (((hS29 3 12 rfl).trans (ey74_3_12))) (w74_21) ((funext (hA30 21 rfl)).trans (ew74_21)) (show inr (0) from q_2) (show (0) ≤ (0) from q_1) (show (0) ≤ (0) ∨ (0) ≤ (((y34) + 4)) from q_533) (show (y74_3_12) = (y74_3_12) + (0) from q_365) (show sc ((w74_21)) 0 ((y74_3_12)) = cpb (sc ((w74_21)) 0 ((y74_3_12))) (((v23 + (256 * v24)))) ((0) : Int).toNat by assumption) rfl
                        as_aux_lemma =>
                        intro m
                        induction m using Nat.strongRecOn with
                        | _ m ih303 =>
                          intro ls σ F_303 A_303 x303_8 l303_0 l303_2 l303_3 l303_4 l303_7 l303_8 H hS_303 hA_303 y303_3_12 ey303_3_12 w303_21 ew303_21 j303_0 j303_1 j303_2 j303_3 j303_4 hm303
                          have r40 : (-2147483648 : Int) ≤ y303_3_12 ∧ y303_3_12 ≤ 2147483647 := rngE (show (-2147483648 : Int) ≤ F_303 3 12 ∧ F_303 3 12 ≤ 2147483647 from H.frng 3 12) (show F_303 3 12 = y303_3_12 from (ey303_3_12))
                          refine Ew_of (pcₚ := 305) (fun _ => x_iload rfl l303_8) ?_
                          refine Ew_of (pcₚ := 306) (fun _ => x_aload_n rfl l303_0) ?_
                          refine w_gI H (o := 3) (w := y34) rfl (H.perm 3 rfl) rfl rfl rfl (fun _ => rfl) ((hS_303 3 16 rfl).trans (ey35)) ?_
                          refine Ew_of (pcₚ := 310) (fun _ => x_iconst rfl) ?_
                          refine w_iadd rfl ?_
                          refine w_icmpge (t := 351) rfl rfl (show inr (x303_8) from j303_0) (show inr ((y34 + 4)) from q_534 b39 h3 j74_4 pz31_2) (fun b41 => ?_) (fun b41 => ?_)
                          · refine Ew_of (pcₚ := 11) (fun _ => x_goto rfl rfl) ?_
                            have : TBO ((w14)) ((a2)) ((a1)) (sc ((w21)) 0 ((u3_12))) ((a3)) ((y32)) (sc ((w303_21)) 0 ((y303_3_12))) ((a3) - ((y303_3_12) - (u3_12))) := TB2_s hb2 (by omega) hdd (by omega) (pz31_3 (by omega)) (by omega) (by omega) (by omega) (by omega) j303_4 (by omega)
                            exact ih11 _ (msE hm11 (q_536 j74_3 pz10_1 pz31_1) (q_537 b22 j11_0 j74_3 pz10_1)) _ σ _ _  (l303_0) (l303_2) (l303_3) (l303_4) H (SF_trans (SF_trans (SF_upd (SF_trans (SF_trans (SF_upd (SF_upd (hS_11) rfl) rfl) hS8 (any_sub rfl)) hS_74 (any_sub rfl)) rfl) hS29 (any_sub rfl)) hS_303 (any_sub rfl)) (SA_trans (SA_trans (SA_trans (SA_trans (hA_11) hA9 (any_subA rfl)) hA_74 (any_subA rfl)) hA30 (any_subA rfl)) hA_303 (any_subA rfl)) (y303_3_12) ((ey303_3_12)) (y32) (((hS_303 3 15 rfl).trans (ey33))) (w303_21) (ew303_21) (show 0 ≤ (y32) ∧ (y32) ≤ (a2) from q_535 j11_0 j74_3 pz10_1 pz31_1) (show (u3_12) ≤ (y303_3_12) ∧ (y303_3_12) ≤ (u3_12) + (a3) by omega) (show TBO ((w14)) ((a2)) ((a1)) (sc ((w21)) 0 ((u3_12))) ((a3)) ((y32)) (sc ((w303_21)) 0 ((y303_3_12))) ((a3) - ((y303_3_12) - (u3_12))) by assumption) rfl
                          · refine Ew_of (pcₚ := 315) (fun _ => x_aload_n rfl l303_0) ?_
                            refine w_gT H (o := 3) (t := 21) rfl (H.perm 3 rfl) rfl rfl rfl rfl rfl rfl ?_
                            refine Ew_of (pcₚ := 319) (fun _ => x_aload_n rfl l303_0) ?_
                            refine w_gI H (o := 3) (w := y303_3_12) rfl (H.perm 3 rfl) rfl rfl rfl (fun _ => rfl) (ey303_3_12) ?_
                            refine Ew_of (pcₚ := 323) (fun _ => x_aload_n rfl l303_0) ?_
                            refine w_gT H (o := 3) (t := 21) rfl (H.perm 3 rfl) rfl rfl rfl rfl rfl rfl ?_
                            refine Ew_of (pcₚ := 327) (fun _ => x_aload_n rfl l303_0) ?_
                            refine w_gI H (o := 3) (w := y303_3_12) rfl (H.perm 3 rfl) rfl rfl rfl (fun _ => rfl) (ey303_3_12) ?_
                            refine Ew_of (pcₚ := 332) (fun _ => x_iload rfl l303_7) ?_
                            refine w_isub rfl ?_
                            refine w_lI H (o := 21) (n := 131072) rfl (H.perm 21 rfl) rfl rfl (H.fix 21 rfl rfl) (show 0 ≤ (y303_3_12 - (v23 + (256 * v24))) ∧ (y303_3_12 - (v23 + (256 * v24))) < ((131072 : Nat) : Int) from q_538 b26 b39 b41 h4 j303_1 j303_3 qv23 qv24) (by decide) (fun v42 ev42 qv42 => ?_)
                            have qv42 : (0 : Int) ≤ v42 ∧ v42 ≤ 255 := qv42
                            have ev42 : (w303_21) ((y303_3_12 - (v23 + (256 * v24)))) = v42 := (congrFun (ew303_21) ((y303_3_12 - (v23 + (256 * v24))))).symm.trans ev42
                            have hv := ev42
                            refine w_sI H (o := 21) (n := 131072) rfl (H.perm 21 rfl) rfl rfl (H.fix 21 rfl rfl) (show 0 ≤ y303_3_12 ∧ y303_3_12 < ((131072 : Nat) : Int) from q_539 b39 b41 h4 j303_1 j303_3 j74_4) (by decide) (show (0 : Int) ≤ v42 ∧ v42 ≤ 255 from qv42) (fun σ H => ?_)
                            refine Ew_of (pcₚ := 336) (fun _ => x_aload_n rfl l303_0) ?_
                            refine Ew_of (pcₚ := 337) (fun _ => x_dup rfl rfl) ?_
                            refine w_gI H (o := 3) (w := y303_3_12) rfl (H.perm 3 rfl) rfl rfl rfl (fun _ => rfl) (ey303_3_12) ?_
                            refine Ew_of (pcₚ := 341) (fun _ => x_iconst rfl) ?_
                            refine w_iadd rfl ?_
                            refine w_pI H (o := 3) rfl rfl (H.perm 3 rfl) rfl rfl rfl (fun _ => rfl) rfl (show (-2147483648 : Int) ≤ (y303_3_12 + 1) ∧ (y303_3_12 + 1) ≤ 2147483647 from q_540 b39 b41 h4 j303_3 r40) (fun σ H => ?_)
                            refine Ew_of (pcₚ := 348) (fun _ => x_iinc (len := 3) rfl (l303_8)) ?_
                            refine Ew_of (pcₚ := 303) (fun _ => x_goto rfl rfl) ?_
                            have hln303 := CPS j303_4 (n2 := ((y303_3_12 + 1))) (k2 := ((x303_8 + 1))) (by omega) (by omega) hv (by omega) (by omega) (by omega) (by omega) (by omega)
                            exact ih303 _ (msE hm303 q_544 (q_545 b41)) _ σ _ _ ((x303_8 + 1)) (rk_o (l303_0) rfl rfl) (rk_o (l303_2) rfl rfl) (rk_o (l303_3) rfl rfl) (rk_o (l303_4) rfl rfl) (rk_o (l303_7) rfl rfl) (rk_s) H (SF_upd (hS_303) rfl) (SA_upd (hA_303) rfl) ((y303_3_12 + 1)) (rfl) (upd1 (w303_21) (y303_3_12) (v42)) (congrArg (fun q => upd1 q (y303_3_12) (v42)) (ew303_21)) (show inr ((x303_8 + 1)) from q_543 b39 b41 h3 j303_1 j74_4) (show (0) ≤ ((x303_8 + 1)) from q_14 j303_1) (show ((x303_8 + 1)) ≤ (0) ∨ ((x303_8 + 1)) ≤ (((y34) + 4)) from q_542 b41) (show ((y303_3_12 + 1)) = (y74_3_12) + ((x303_8 + 1)) from q_541 j303_3) (show sc ((upd1 (w303_21) (y303_3_12) (v42))) 0 (((y303_3_12 + 1))) = cpb (sc ((w74_21)) 0 ((y74_3_12))) (((v23 + (256 * v24)))) (((x303_8 + 1)) : Int).toNat by assumption) rfl
                      · refine Ew_of (pcₚ := 290) (fun _ => x_aload_n rfl (rk_o (rk_o (l74_0) rfl rfl) rfl rfl)) ?_
                        refine w_gT H (o := 3) (t := 1) rfl (H.perm 3 rfl) rfl rfl rfl rfl rfl rfl ?_
                        refine Ew_of (pcₚ := 295) (fun _ => x_iload rfl (rk_o (rk_s) rfl rfl)) ?_
                        refine w_pI H (o := 1) rfl rfl (H.perm 1 rfl) rfl rfl rfl (fun _ => rfl) rfl (show (-2147483648 : Int) ≤ y74_3_15 ∧ y74_3_15 ≤ 2147483647 from r19) (fun σ H => ?_)
                        refine Ew_of (pcₚ := 299) (fun _ => x_iconst rfl) ?_
                        have : TBQ ((w14)) ((a2)) ((a1)) (sc ((w21)) 0 ((u3_12))) ((a3)) (3) ((y74_3_15)) (sc ((w74_21)) 0 ((y74_3_12))) := TB2_r hb2 (by omega) hdd (by omega) (pz31_3 (by omega)) (by omega) (by omega) (by omega) rfl (by omega)
                        exact w_ireturn rfl (k (3) σ _ _ H (SF_upd (SF_trans (SF_upd (SF_trans (SF_trans (SF_upd (SF_upd (SF_trans (SF_upd (SF_refl) rfl) hS_11 (any_sub rfl)) rfl) rfl) hS8 (any_sub rfl)) hS_74 (any_sub rfl)) rfl) hS29 (any_sub rfl)) rfl) (SA_trans (SA_trans (SA_trans (SA_trans (SA_refl) hA_11 (any_subA rfl)) hA9 (any_subA rfl)) hA_74 (any_subA rfl)) hA30 (any_subA rfl)) (y74_3_15) (rfl) (y74_3_12) (((hS29 3 12 rfl).trans (ey74_3_12))) (w74_21) ((funext (hA30 21 rfl)).trans (ew74_21)) (show inr (3) from q_246) (show 0 ≤ (3) ∧ (3) ≤ 3 by first | exact q_546 | omega) (show (u3_12) ≤ (y74_3_12) ∧ (y74_3_12) ≤ (u3_12) + a3 from j74_4) (show TBQ ((w14)) (a2) (a1) (sc ((w21)) 0 ((u3_12))) (a3) ((3)) ((y74_3_15)) (sc ((w74_21)) 0 ((y74_3_12))) by assumption))
                    · refine Ew_of (pcₚ := 270) (fun _ => x_iconst rfl) ?_
                      have : TBQ ((w14)) ((a2)) ((a1)) (sc ((w21)) 0 ((u3_12))) ((a3)) (1) ((a2)) (sc ((w74_21)) 0 ((y74_3_12))) := TB2_n hb2 (by omega) hdd (by omega) (pz31_4 (by omega)) (by omega) (by omega) rfl (by omega)
                      exact w_ireturn rfl (k (1) σ _ _ H (SF_trans (SF_upd (SF_trans (SF_trans (SF_upd (SF_upd (SF_trans (SF_upd (SF_refl) rfl) hS_11 (any_sub rfl)) rfl) rfl) hS8 (any_sub rfl)) hS_74 (any_sub rfl)) rfl) hS29 (any_sub rfl)) (SA_trans (SA_trans (SA_trans (SA_trans (SA_refl) hA_11 (any_subA rfl)) hA9 (any_subA rfl)) hA_74 (any_subA rfl)) hA30 (any_subA rfl)) (a2) ((((hS29 1 4 rfl).trans (hS_74 1 4 rfl)).trans (hS8 1 4 rfl))) (y74_3_12) (((hS29 3 12 rfl).trans (ey74_3_12))) (w74_21) ((funext (hA30 21 rfl)).trans (ew74_21)) (show inr (1) from q_135) (show 0 ≤ (1) ∧ (1) ≤ 3 by first | exact q_547 | omega) (show (u3_12) ≤ (y74_3_12) ∧ (y74_3_12) ≤ (u3_12) + a3 from j74_4) (show TBQ ((w14)) (a2) (a1) (sc ((w21)) 0 ((u3_12))) (a3) ((1)) ((a2)) (sc ((w74_21)) 0 ((y74_3_12))) by assumption))
                  · refine Ew_of (pcₚ := 246) (fun _ => x_aload_n rfl (rk_o (rk_o (l74_0) rfl rfl) rfl rfl)) ?_
                    refine w_gT H (o := 3) (t := 1) rfl (H.perm 3 rfl) rfl rfl rfl rfl rfl rfl ?_
                    refine Ew_of (pcₚ := 251) (fun _ => x_iload rfl (rk_o (rk_s) rfl rfl)) ?_
                    refine w_pI H (o := 1) rfl rfl (H.perm 1 rfl) rfl rfl rfl (fun _ => rfl) rfl (show (-2147483648 : Int) ≤ y74_3_15 ∧ y74_3_15 ≤ 2147483647 from r19) (fun σ H => ?_)
                    refine Ew_of (pcₚ := 255) (fun _ => x_iconst rfl) ?_
                    have : TBQ ((w14)) ((a2)) ((a1)) (sc ((w21)) 0 ((u3_12))) ((a3)) (2) ((y74_3_15)) (sc ((w74_21)) 0 ((y74_3_12))) := TB2_d hb2 (by omega) hdd (by omega) rfl (by omega)
                    exact w_ireturn rfl (k (2) σ _ _ H (SF_upd (SF_upd (SF_trans (SF_trans (SF_upd (SF_upd (SF_trans (SF_upd (SF_refl) rfl) hS_11 (any_sub rfl)) rfl) rfl) hS8 (any_sub rfl)) hS_74 (any_sub rfl)) rfl) rfl) (SA_trans (SA_trans (SA_trans (SA_refl) hA_11 (any_subA rfl)) hA9 (any_subA rfl)) hA_74 (any_subA rfl)) (y74_3_15) (rfl) (y74_3_12) ((ey74_3_12)) (w74_21) (ew74_21) (show inr (2) from q_122) (show 0 ≤ (2) ∧ (2) ≤ 3 by first | exact q_528 | omega) (show (u3_12) ≤ (y74_3_12) ∧ (y74_3_12) ≤ (u3_12) + a3 from j74_4) (show TBQ ((w14)) (a2) (a1) (sc ((w21)) 0 ((u3_12))) (a3) ((2)) ((y74_3_15)) (sc ((w74_21)) 0 ((y74_3_12))) by assumption))
              · refine Ew_of (pcₚ := 187) (fun _ => x_iconst rfl) ?_
                have : TBQ ((w14)) ((a2)) ((a1)) (sc ((w21)) 0 ((u3_12))) ((a3)) (1) ((a2)) (sc ((w74_21)) 0 ((y74_3_12))) := TB2_e hb2 (by omega) rfl (by omega)
                exact w_ireturn rfl (k (1) σ _ _ H (SF_trans (SF_trans (SF_upd (SF_upd (SF_trans (SF_upd (SF_refl) rfl) hS_11 (any_sub rfl)) rfl) rfl) hS8 (any_sub rfl)) hS_74 (any_sub rfl)) (SA_trans (SA_trans (SA_trans (SA_refl) hA_11 (any_subA rfl)) hA9 (any_subA rfl)) hA_74 (any_subA rfl)) (a2) (((hS_74 1 4 rfl).trans (hS8 1 4 rfl))) (y74_3_12) ((ey74_3_12)) (w74_21) (ew74_21) (show inr (1) from q_135) (show 0 ≤ (1) ∧ (1) ≤ 3 by first | exact q_547 | omega) (show (u3_12) ≤ (y74_3_12) ∧ (y74_3_12) ≤ (u3_12) + a3 from j74_4) (show TBQ ((w14)) (a2) (a1) (sc ((w21)) 0 ((u3_12))) (a3) ((1)) ((a2)) (sc ((w74_21)) 0 ((y74_3_12))) by assumption))
            · refine Ew_of (pcₚ := 169) (fun _ => x_iconst rfl) ?_
              have : TBQ ((w14)) ((a2)) ((a1)) (sc ((w21)) 0 ((u3_12))) ((a3)) (0) ((a2)) (sc ((w74_21)) 0 ((y74_3_12))) := TB2_y hb2 (by omega) rfl (by omega)
              exact w_ireturn rfl (k (0) σ _ _ H (SF_trans (SF_trans (SF_upd (SF_upd (SF_trans (SF_upd (SF_refl) rfl) hS_11 (any_sub rfl)) rfl) rfl) hS8 (any_sub rfl)) hS_74 (any_sub rfl)) (SA_trans (SA_trans (SA_trans (SA_refl) hA_11 (any_subA rfl)) hA9 (any_subA rfl)) hA_74 (any_subA rfl)) (a2) (((hS_74 1 4 rfl).trans (hS8 1 4 rfl))) (y74_3_12) ((ey74_3_12)) (w74_21) (ew74_21) (show inr (0) from q_2) (show 0 ≤ (0) ∧ (0) ≤ 3 by first | exact q_548 | omega) (show (u3_12) ≤ (y74_3_12) ∧ (y74_3_12) ≤ (u3_12) + a3 from j74_4) (show TBQ ((w14)) (a2) (a1) (sc ((w21)) 0 ((u3_12))) (a3) ((0)) ((a2)) (sc ((w74_21)) 0 ((y74_3_12))) by assumption))
          · refine Ew_of (pcₚ := 80) (fun _ => x_aload_n rfl l74_0) ?_
            refine w_gI H (o := 3) (w := y74_3_15) rfl (H.perm 3 rfl) rfl rfl rfl (fun _ => rfl) (ey74_3_15) ?_
            refine Ew_of (pcₚ := 84) (fun _ => x_iload_n rfl l74_2) ?_
            refine w_icmpne (t := 89) rfl rfl (show inr (y74_3_15) from q_18 r19) (show inr (a2) from h1) (fun b43 => ?_) (fun b43 => ?_)
            · refine Ew_of (pcₚ := 90) (fun _ => x_aload_n rfl l74_0) ?_
              refine w_gI H (o := 3) (w := y74_3_12) rfl (H.perm 3 rfl) rfl rfl rfl (fun _ => rfl) (ey74_3_12) ?_
              refine Ew_of (pcₚ := 95) (fun _ => x_iload rfl l74_4) ?_
              refine w_isub rfl ?_
              refine Ew_of (pcₚ := 97) (fun _ => x_iload_n rfl l74_3) ?_
              refine w_icmpne (t := 113) rfl rfl (show inr ((y74_3_12 - u3_12)) from q_549 h4 j74_4) (show inr (a3) from h2) (fun b44 => ?_) (fun b44 => ?_)
              · refine Ew_of (pcₚ := 114) (fun _ => x_aload_n rfl l74_0) ?_
                refine w_gT H (o := 3) (t := 21) rfl (H.perm 3 rfl) rfl rfl rfl rfl rfl rfl ?_
                refine Ew_of (pcₚ := 118) (fun _ => x_aload_n rfl l74_0) ?_
                refine w_gI H (o := 3) (w := y74_3_12) rfl (H.perm 3 rfl) rfl rfl rfl (fun _ => rfl) (ey74_3_12) ?_
                refine Ew_of (pcₚ := 122) (fun _ => x_aload_n rfl l74_0) ?_
                refine w_gT H (o := 3) (t := 1) rfl (H.perm 3 rfl) rfl rfl rfl rfl rfl rfl ?_
                refine w_gT H (o := 1) (t := 14) rfl (H.perm 1 rfl) rfl rfl rfl rfl rfl rfl ?_
                refine Ew_of (pcₚ := 129) (fun _ => x_aload_n rfl l74_0) ?_
                refine w_gI H (o := 3) (w := y74_3_15) rfl (H.perm 3 rfl) rfl rfl rfl (fun _ => rfl) (ey74_3_15) ?_
                refine w_lI H (o := 14) (n := 65536) rfl (H.perm 14 rfl) rfl rfl (H.fix 14 rfl rfl) (show 0 ≤ y74_3_15 ∧ y74_3_15 < ((65536 : Nat) : Int) by omega) (by decide) (fun v45 ev45 qv45 => ?_)
                have qv45 : (0 : Int) ≤ v45 ∧ v45 ≤ 255 := qv45
                have ev45 : (w14) (y74_3_15) = v45 := (congrFun ((funext (hA_74 14 rfl)).trans ((funext (hA9 14 rfl)).trans ((funext (hA_11 14 rfl)).trans (ew14)))) (y74_3_15)).symm.trans ev45
                have hv := ev45
                refine w_sI H (o := 21) (n := 131072) rfl (H.perm 21 rfl) rfl rfl (H.fix 21 rfl rfl) (show 0 ≤ y74_3_12 ∧ y74_3_12 < ((131072 : Nat) : Int) by omega) (by decide) (show (0 : Int) ≤ v45 ∧ v45 ≤ 255 from qv45) (fun σ H => ?_)
                refine Ew_of (pcₚ := 135) (fun _ => x_aload_n rfl l74_0) ?_
                refine Ew_of (pcₚ := 136) (fun _ => x_dup rfl rfl) ?_
                refine w_gI H (o := 3) (w := y74_3_12) rfl (H.perm 3 rfl) rfl rfl rfl (fun _ => rfl) (ey74_3_12) ?_
                refine Ew_of (pcₚ := 140) (fun _ => x_iconst rfl) ?_
                refine w_iadd rfl ?_
                refine w_pI H (o := 3) rfl rfl (H.perm 3 rfl) rfl rfl rfl (fun _ => rfl) rfl (show (-2147483648 : Int) ≤ (y74_3_12 + 1) ∧ (y74_3_12 + 1) ≤ 2147483647 from q_550 h4 j74_4 r18) (fun σ H => ?_)
                refine Ew_of (pcₚ := 145) (fun _ => x_aload_n rfl l74_0) ?_
                refine Ew_of (pcₚ := 146) (fun _ => x_dup rfl rfl) ?_
                refine w_gI H (o := 3) (w := y74_3_15) rfl (H.perm 3 rfl) rfl rfl rfl (fun _ => rfl) (ey74_3_15) ?_
                refine Ew_of (pcₚ := 150) (fun _ => x_iconst rfl) ?_
                refine w_iadd rfl ?_
                refine w_pI H (o := 3) rfl rfl (H.perm 3 rfl) rfl rfl rfl (fun _ => rfl) rfl (show (-2147483648 : Int) ≤ (y74_3_15 + 1) ∧ (y74_3_15 + 1) ≤ 2147483647 from q_551 h3 j74_3 r19) (fun σ H => ?_)
                refine Ew_of (pcₚ := 157) (fun _ => x_iinc (len := 3) rfl (l74_6)) ?_
                refine Ew_of (pcₚ := 74) (fun _ => x_goto rfl rfl) ?_
                have hln74 := SCA j74_7 (n2 := ((y74_3_12 + 1))) (p2 := ((y74_3_15 + 1))) (by omega) (by omega) hv (by omega) (by omega)
                exact ih74 _ (msE hm74 q_556 (q_557 b20)) _ σ _ _ ((x74_6 + (-1))) (rk_o (l74_0) rfl rfl) (rk_o (l74_2) rfl rfl) (rk_o (l74_3) rfl rfl) (rk_o (l74_4) rfl rfl) (rk_o (l74_5) rfl rfl) (rk_s) H (SF_upd (SF_upd (hS_74) rfl) rfl) (SA_upd (hA_74) rfl) ((y74_3_12 + 1)) (rfl) ((y74_3_15 + 1)) (rfl) (upd1 (w74_21) (y74_3_12) (v45)) (congrArg (fun q => upd1 q (y74_3_12) (v45)) (ew74_21)) (show inr ((x74_6 + (-1))) from q_555 b20 j74_0) (show ((x74_6 + (-1))) ≤ (y13) from q_554 j74_1) (show (y13) ≤ ((x74_6 + (-1))) ∨ (0) ≤ ((x74_6 + (-1))) from q_553 b20) (show (y11) ≤ ((y74_3_15 + 1)) ∧ ((y74_3_15 + 1)) ≤ (a2) by omega) (show (u3_12) ≤ ((y74_3_12 + 1)) ∧ ((y74_3_12 + 1)) ≤ (u3_12) + (a3) by omega) (show ((y74_3_12 + 1)) = (y11_3_12) + (((y74_3_15 + 1)) - (y11)) from q_451 j74_5) (show ((x74_6 + (-1))) = (y13) - (((y74_3_15 + 1)) - (y11)) ∧ 0 ≤ ((x74_6 + (-1))) from q_552 b20 j74_6) (show sc ((upd1 (w74_21) (y74_3_12) (v45))) 0 (((y74_3_12 + 1))) = sc ((w11_21)) 0 ((y11_3_12)) ++ sc ((w14)) ((y11)) (((y74_3_15 + 1))) by assumption) rfl
              · refine Ew_of (pcₚ := 101) (fun _ => x_aload_n rfl l74_0) ?_
                refine w_gT H (o := 3) (t := 1) rfl (H.perm 3 rfl) rfl rfl rfl rfl rfl rfl ?_
                refine Ew_of (pcₚ := 105) (fun _ => x_aload_n rfl l74_0) ?_
                refine w_gI H (o := 3) (w := y74_3_15) rfl (H.perm 3 rfl) rfl rfl rfl (fun _ => rfl) (ey74_3_15) ?_
                refine w_pI H (o := 1) rfl rfl (H.perm 1 rfl) rfl rfl rfl (fun _ => rfl) rfl (show (-2147483648 : Int) ≤ y74_3_15 ∧ y74_3_15 ≤ 2147483647 from r19) (fun σ H => ?_)
                refine Ew_of (pcₚ := 112) (fun _ => x_iconst rfl) ?_
                have : TBQ ((w14)) ((a2)) ((a1)) (sc ((w21)) 0 ((u3_12))) ((a3)) (3) ((y74_3_15)) (sc ((w74_21)) 0 ((y74_3_12))) := TB1_r hb1 (by omega) (by omega) rfl (by omega)
                exact w_ireturn rfl (k (3) σ _ _ H (SF_upd (SF_trans (SF_trans (SF_upd (SF_upd (SF_trans (SF_upd (SF_refl) rfl) hS_11 (any_sub rfl)) rfl) rfl) hS8 (any_sub rfl)) hS_74 (any_sub rfl)) rfl) (SA_trans (SA_trans (SA_trans (SA_refl) hA_11 (any_subA rfl)) hA9 (any_subA rfl)) hA_74 (any_subA rfl)) (y74_3_15) (rfl) (y74_3_12) ((ey74_3_12)) (w74_21) (ew74_21) (show inr (3) from q_246) (show 0 ≤ (3) ∧ (3) ≤ 3 by first | exact q_546 | omega) (show (u3_12) ≤ (y74_3_12) ∧ (y74_3_12) ≤ (u3_12) + a3 from j74_4) (show TBQ ((w14)) (a2) (a1) (sc ((w21)) 0 ((u3_12))) (a3) ((3)) ((y74_3_15)) (sc ((w74_21)) 0 ((y74_3_12))) by assumption))
            · refine Ew_of (pcₚ := 88) (fun _ => x_iconst rfl) ?_
              have : TBQ ((w14)) ((a2)) ((a1)) (sc ((w21)) 0 ((u3_12))) ((a3)) (1) ((a2)) (sc ((w74_21)) 0 ((y74_3_12))) := TB1_e hb1 (by omega) (by omega) rfl (by omega)
              exact w_ireturn rfl (k (1) σ _ _ H (SF_trans (SF_trans (SF_upd (SF_upd (SF_trans (SF_upd (SF_refl) rfl) hS_11 (any_sub rfl)) rfl) rfl) hS8 (any_sub rfl)) hS_74 (any_sub rfl)) (SA_trans (SA_trans (SA_trans (SA_refl) hA_11 (any_subA rfl)) hA9 (any_subA rfl)) hA_74 (any_subA rfl)) (a2) (((hS_74 1 4 rfl).trans (hS8 1 4 rfl))) (y74_3_12) ((ey74_3_12)) (w74_21) (ew74_21) (show inr (1) from q_135) (show 0 ≤ (1) ∧ (1) ≤ 3 by first | exact q_547 | omega) (show (u3_12) ≤ (y74_3_12) ∧ (y74_3_12) ≤ (u3_12) + a3 from j74_4) (show TBQ ((w14)) (a2) (a1) (sc ((w21)) 0 ((u3_12))) (a3) ((1)) ((a2)) (sc ((w74_21)) 0 ((y74_3_12))) by assumption))
      · refine Ew_of (pcₚ := 67) (fun _ => x_iconst rfl) ?_
        have : TBQ ((w14)) ((a2)) ((a1)) (sc ((w21)) 0 ((u3_12))) ((a3)) (1) ((a2)) (sc ((w11_21)) 0 ((y11_3_12))) := TBO_2 j11_t (by omega) (pz10_4 (by omega)) (by omega) (by omega) rfl (by omega)
        exact w_ireturn rfl (k (1) σ _ _ H (SF_trans (SF_upd (SF_upd (SF_trans (SF_upd (SF_refl) rfl) hS_11 (any_sub rfl)) rfl) rfl) hS8 (any_sub rfl)) (SA_trans (SA_trans (SA_refl) hA_11 (any_subA rfl)) hA9 (any_subA rfl)) (a2) ((hS8 1 4 rfl)) (y11_3_12) (((hS8 3 12 rfl).trans (ey11_3_12))) (w11_21) ((funext (hA9 21 rfl)).trans (ew11_21)) (show inr (1) from q_135) (show 0 ≤ (1) ∧ (1) ≤ 3 by first | exact q_547 | omega) (show (u3_12) ≤ (y11_3_12) ∧ (y11_3_12) ≤ (u3_12) + a3 from j11_1) (show TBQ ((w14)) (a2) (a1) (sc ((w21)) 0 ((u3_12))) (a3) ((1)) ((a2)) (sc ((w11_21)) 0 ((y11_3_12))) by assumption))
    · refine Ew_of (pcₚ := 28) (fun _ => x_iconst rfl) ?_
      have : TBQ ((w14)) ((a2)) ((a1)) (sc ((w21)) 0 ((u3_12))) ((a3)) (1) ((a2)) (sc ((w11_21)) 0 ((y11_3_12))) := TBO_1 j11_t (by omega) rfl (by omega)
      exact w_ireturn rfl (k (1) σ _ _ H (SF_upd (SF_trans (SF_upd (SF_refl) rfl) hS_11 (any_sub rfl)) rfl) (SA_trans (SA_refl) hA_11 (any_subA rfl)) (a2) (rfl) (y11_3_12) ((ey11_3_12)) (w11_21) (ew11_21) (show inr (1) from q_135) (show 0 ≤ (1) ∧ (1) ≤ 3 by first | exact q_547 | omega) (show (u3_12) ≤ (y11_3_12) ∧ (y11_3_12) ≤ (u3_12) + a3 from j11_1) (show TBQ ((w14)) (a2) (a1) (sc ((w21)) 0 ((u3_12))) (a3) ((1)) ((a2)) (sc ((w11_21)) 0 ((y11_3_12))) by assumption))

theorem M374 {σ0 σ : rS} {D N : Nat → Nat} {F : hF} {A : hA} {d c s : Nat} {Q : wQ} (H : HS σ0 σ D N F A) {a1 : Int} (u1_1 : Int) (eu1_1 : F 1 1 = u1_1) (u3_2 : Int) (eu3_2 : F 3 2 = u3_2) (w14 : Int → Int) (ew14 : A 14 = w14) (w16 : Int → Int) (ew16 : A 16 = w16) (h0 : inr (a1)) (k : ∀ (z : Int) σ Fₚ Aₚ, HS σ0 σ D N Fₚ Aₚ → SF [(1, 3), (1, 4), (3, 12), (3, 15), (3, 16)] F Fₚ → SA [15, 21] A Aₚ → ∀ y1_3 : Int, Fₚ 1 3 = y1_3 → ∀ y1_4 : Int, Fₚ 1 4 = y1_4 → ∀ v15 : Int → Int, Aₚ 15 = v15 → (inr (z)) → (IMP ((0 : Int) ≤ (a1) ∧ (a1) ≤ 65536) (RDT ((w14)) ((u1_1)) (sc ((w16)) 0 ((u3_2))) ((a1)) ((z)) ((y1_4)) ((y1_3)) ((v15)))) → Q (some (I z)) σ c s) : Ew 374 (d + 2) 0 (rargs 0 [.ref (D 3), I a1]) [] σ c s Q := by
  have r1 : (0 : Int) ≤ u1_1 ∧ u1_1 ≤ 65536 := rngE (show (0 : Int) ≤ F 1 1 ∧ F 1 1 ≤ 65536 from H.frng 1 1) (show F 1 1 = u1_1 from (eu1_1))
  have r2 : (0 : Int) ≤ u3_2 ∧ u3_2 ≤ 65536 := rngE (show (0 : Int) ≤ F 3 2 ∧ F 3 2 ≤ 65536 from H.frng 3 2) (show F 3 2 = u3_2 from (eu3_2))
  refine Ew_of (pcₚ := 1) (fun _ => x_iload_n rfl rfl) ?_
  refine w_iflt (t := 10) rfl rfl (show inr (a1) from h0) (fun b3 => ?_) (fun b3 => ?_)
  · refine Ew_of (pcₚ := 12) (fun _ => x_bipush (z := -4) rfl (by decide)) ?_
    have r4 : (0 : Int) ≤ F 1 3 ∧ F 1 3 ≤ 65536 := H.frng 1 3
    have r5 : (-2147483648 : Int) ≤ F 1 4 ∧ F 1 4 ≤ 2147483647 := H.frng 1 4
    have : IMP ((0 : Int) ≤ (a1) ∧ (a1) ≤ 65536) (RDT ((w14)) ((u1_1)) (sc ((w16)) 0 ((u3_2))) ((a1)) (-4) ((F 1 4)) ((F 1 3)) ((A 15))) := fun z => absurd z (by omega)
    exact w_ireturn rfl (k ((-4)) σ _ _ H (SF_refl) (SA_refl) (F 1 3) (rfl) (F 1 4) (rfl) (A 15) (rfl) (show inr ((-4)) from q_558) (show IMP ((0 : Int) ≤ a1 ∧ a1 ≤ 65536) (RDT ((w14)) ((u1_1)) (sc ((w16)) 0 ((u3_2))) (a1) (((-4))) ((F 1 4)) ((F 1 3)) ((A 15))) by assumption))
  · refine Ew_of (pcₚ := 5) (fun _ => x_iload_n rfl rfl) ?_
    refine Ew_of (pcₚ := 7) (fun _ => x_ldc (z := 65536) rfl (by decide)) ?_
    refine w_icmple (t := 13) rfl rfl (show inr (a1) from h0) (show inr (65536) from q_52) (fun b6 => ?_) (fun b6 => ?_)
    · refine Ew_of (pcₚ := 14) (fun _ => x_aload_n rfl rfl) ?_
      refine w_inv H (o := 3) rfl rfl rfl (H.perm 3 rfl) rfl rfl (by rfl) (M373 H (u3_2) ((eu3_2)) (w16) (ew16)  (fun σ F7 A8 H hS9 hA10 y12 ey13 wv14 ewv15 pz11_0 pz11_1 => ⟨rfl, ?_⟩))
      have r16 : (-2147483648 : Int) ≤ y12 ∧ y12 ≤ 2147483647 := rngE (show (-2147483648 : Int) ≤ F7 3 12 ∧ F7 3 12 ≤ 2147483647 from H.frng 3 12) (show F7 3 12 = y12 from (ey13))
      have hbs : sc ((wv14)) 0 ((y12)) = sc ((w16)) 0 ((u3_2)) := CPY_sc pz11_1 (by omega) (by omega)
      refine Ew_of (pcₚ := 18) (fun _ => x_aload_n rfl rfl) ?_
      refine Ew_of (pcₚ := 19) (fun _ => x_iconst rfl) ?_
      refine Ew_of (pcₚ := 20) (fun _ => x_aload_n rfl rfl) ?_
      refine w_gT H (o := 3) (t := 1) rfl (H.perm 3 rfl) rfl rfl rfl rfl rfl rfl ?_
      refine w_gI H (o := 1) (w := u1_1) rfl (H.perm 1 rfl) rfl rfl rfl (fun _ => rfl) ((hS9 1 1 rfl).trans (eu1_1)) ?_
      refine Ew_of (pcₚ := 27) (fun _ => x_iload_n rfl rfl) ?_
      refine w_inv H (o := 3) rfl rfl rfl (H.perm 3 rfl) rfl rfl (by rfl) (M372 H (y12) ((ey13)) (w14) ((funext (hA10 14 rfl)).trans (ew14)) (wv14) (ewv15) (show inr (0) from q_2) (show inr (u1_1) from q_286 r1) (show inr (a1) from h0) (show 0 ≤ (0) ∧ (0) ≤ (u1_1) ∧ (u1_1) ≤ 65536 ∧ 0 ≤ (a1) ∧ (a1) ≤ 65536 from q_560 b3 b6 r1) (show 0 ≤ (y12) ∧ (y12) + (a1) ≤ 131072 from q_559 b6 pz11_0 r2) (fun z21 σ F17 A18 H hS19 hA20 y22 ey23 y24 ey25 wv26 ewv27 pz21_0 pz21_1 pz21_2 pz21_3 => ⟨rfl, ?_⟩))
      have r28 : (-2147483648 : Int) ≤ y22 ∧ y22 ≤ 2147483647 := rngE (show (-2147483648 : Int) ≤ F17 1 4 ∧ F17 1 4 ≤ 2147483647 from H.frng 1 4) (show F17 1 4 = y22 from (ey23))
      have r29 : (-2147483648 : Int) ≤ y24 ∧ y24 ≤ 2147483647 := rngE (show (-2147483648 : Int) ≤ F17 3 12 ∧ F17 3 12 ≤ 2147483647 from H.frng 3 12) (show F17 3 12 = y24 from (ey25))
      have htb := pz21_3
      rw [hbs] at htb
      refine Ew_of (pcₚ := 31) (fun _ => x_istore_n rfl) ?_
      refine Ew_of (pcₚ := 32) (fun _ => x_iload_n rfl rk_s) ?_
      refine w_ifle (t := 38) rfl rfl (show inr (z21) from pz21_0) (fun b30 => ?_) (fun b30 => ?_)
      · refine Ew_of (pcₚ := 39) (fun _ => x_aload_n rfl (rk_o (rfl) rfl rfl)) ?_
        refine w_gT H (o := 3) (t := 1) rfl (H.perm 3 rfl) rfl rfl rfl rfl rfl rfl ?_
        refine Ew_of (pcₚ := 43) (fun _ => x_aload_n rfl (rk_o (rfl) rfl rfl)) ?_
        refine w_gI H (o := 3) (w := y24) rfl (H.perm 3 rfl) rfl rfl rfl (fun _ => rfl) (ey25) ?_
        refine Ew_of (pcₚ := 47) (fun _ => x_aload_n rfl (rk_o (rfl) rfl rfl)) ?_
        refine w_gI H (o := 3) (w := u3_2) rfl (H.perm 3 rfl) rfl rfl rfl (fun _ => rfl) (((hS19 3 2 rfl).trans (hS9 3 2 rfl)).trans (eu3_2)) ?_
        refine w_isub rfl ?_
        refine w_pI H (o := 1) rfl rfl (H.perm 1 rfl) rfl rfl rfl (fun _ => rfl) rfl (show (0 : Int) ≤ (y24 - u3_2) ∧ (y24 - u3_2) ≤ 65536 from q_561 b6 pz11_0 pz21_2) (fun σ H => ?_)
        refine Ew_of (pcₚ := 55) (fun _ => x_iconst rfl) ?_
        refine Ew_of (pcₚ := 56) (fun _ => x_istore_n rfl) ?_
        have : CPY ((wv26)) ((A 15)) ((u3_2)) (0) (0) := CPY_0
        suffices hl56 : ∀ (m : Nat), ∀ (ls : rO) (σ : rS) (F_56 : hF) (A_56 : hA) (x56_3 : Int), rlook ls 0 = some (.ref (D 3)) → rlook ls 3 = some (I (x56_3)) → HS σ0 σ D N F_56 A_56 → SF [] (updF F17 1 3 ((y24 - u3_2))) F_56 → SA [15] A18 A_56 → ∀ w56_15 : Int → Int, A_56 15 = w56_15 → (inr (x56_3)) → ((0) ≤ (x56_3)) → ((x56_3) ≤ (0) ∨ (x56_3) ≤ (((y24 - u3_2)))) → (CPY ((wv26)) ((w56_15)) ((u3_2)) (0) ((x56_3))) → ((((y24 - u3_2))) - (x56_3)).toNat = m → Ew 374 (d + 2) 56 ls [] σ c s Q from
          hl56 _ _ σ _ _ (0) (rk_o (rk_o (rfl) rfl rfl) rfl rfl) (rk_s) H (SF_refl) (SA_refl)  (A 15) ((funext (hA20 15 rfl)).trans (funext (hA10 15 rfl))) (show inr (0) from q_2) (show (0) ≤ (0) from q_1) (show (0) ≤ (0) ∨ (0) ≤ (((y24 - u3_2))) from q_562) (show CPY ((wv26)) ((A 15)) ((u3_2)) (0) ((0)) by assumption) rfl
        as_aux_lemma =>
        intro m
        induction m using Nat.strongRecOn with
        | _ m ih56 =>
          intro ls σ F_56 A_56 x56_3 l56_0 l56_3 H hS_56 hA_56  w56_15 ew56_15 j56_0 j56_1 j56_2 j56_3 hm56
          have j56_c : CPY ((wv26)) ((w56_15)) ((u3_2)) (0) ((x56_3)) := j56_3
          refine Ew_of (pcₚ := 57) (fun _ => x_iload_n rfl l56_3) ?_
          refine Ew_of (pcₚ := 58) (fun _ => x_aload_n rfl l56_0) ?_
          refine w_gT H (o := 3) (t := 1) rfl (H.perm 3 rfl) rfl rfl rfl rfl rfl rfl ?_
          refine w_gI H (o := 1) (w := (y24 - u3_2)) rfl (H.perm 1 rfl) rfl rfl rfl (fun _ => rfl) (hS_56 1 3 rfl) ?_
          refine w_icmpge (t := 93) rfl rfl (show inr (x56_3) from j56_0) (show inr ((y24 - u3_2)) from q_563 pz11_0 pz21_2 r2 r29) (fun b31 => ?_) (fun b31 => ?_)
          · refine Ew_of (pcₚ := 94) (fun _ => x_aload_n rfl l56_0) ?_
            refine w_gT H (o := 3) (t := 1) rfl (H.perm 3 rfl) rfl rfl rfl rfl rfl rfl ?_
            refine w_gI H (o := 1) (w := (y24 - u3_2)) rfl (H.perm 1 rfl) rfl rfl rfl (fun _ => rfl) (hS_56 1 3 rfl) ?_
            have hcy : CPY ((wv26)) ((w56_15)) ((u3_2)) (0) (((y24 - u3_2))) := by rw [show ((y24 - u3_2)) = (x56_3) by omega]; exact j56_c
            have : IMP ((0 : Int) ≤ (a1) ∧ (a1) ≤ 65536) (RDT ((w14)) ((u1_1)) (sc ((w16)) 0 ((u3_2))) ((a1)) (((y24 - u3_2))) ((y22)) (((y24 - u3_2))) ((w56_15))) := fun _ => RDT_y htb (by omega) (by omega) (by omega) (by rw [TBQ_pre htb (a := (u3_2)) (by omega) (by rw [sc_lenI (by omega)]; omega) (by omega), CPY_sc (c := (y24)) (d := ((y24 - u3_2))) hcy (by omega) (by omega)])
            exact w_ireturn rfl (k ((y24 - u3_2)) σ _ _ H (SF_trans (SF_upd (SF_trans (SF_trans (SF_refl) hS9 (any_sub rfl)) hS19 (any_sub rfl)) rfl) hS_56 (any_sub rfl)) (SA_trans (SA_trans (SA_trans (SA_refl) hA10 (any_subA rfl)) hA20 (any_subA rfl)) hA_56 (any_subA rfl)) ((y24 - u3_2)) ((hS_56 1 3 rfl)) (y22) (((hS_56 1 4 rfl).trans (ey23))) (w56_15) (ew56_15) (show inr ((y24 - u3_2)) from q_563 pz11_0 pz21_2 r2 r29) (show IMP ((0 : Int) ≤ a1 ∧ a1 ≤ 65536) (RDT ((w14)) ((u1_1)) (sc ((w16)) 0 ((u3_2))) (a1) (((y24 - u3_2))) ((y22)) (((y24 - u3_2))) ((w56_15))) by assumption))
          · refine Ew_of (pcₚ := 68) (fun _ => x_aload_n rfl l56_0) ?_
            refine w_gT H (o := 3) (t := 1) rfl (H.perm 3 rfl) rfl rfl rfl rfl rfl rfl ?_
            refine w_gT H (o := 1) (t := 15) rfl (H.perm 1 rfl) rfl rfl rfl rfl rfl rfl ?_
            refine Ew_of (pcₚ := 75) (fun _ => x_iload_n rfl l56_3) ?_
            refine Ew_of (pcₚ := 76) (fun _ => x_aload_n rfl l56_0) ?_
            refine w_gT H (o := 3) (t := 21) rfl (H.perm 3 rfl) rfl rfl rfl rfl rfl rfl ?_
            refine Ew_of (pcₚ := 80) (fun _ => x_aload_n rfl l56_0) ?_
            refine w_gI H (o := 3) (w := u3_2) rfl (H.perm 3 rfl) rfl rfl rfl (fun _ => rfl) ((((hS_56 3 2 rfl).trans (hS19 3 2 rfl)).trans (hS9 3 2 rfl)).trans (eu3_2)) ?_
            refine Ew_of (pcₚ := 84) (fun _ => x_iload_n rfl l56_3) ?_
            refine w_iadd rfl ?_
            refine w_lI H (o := 21) (n := 131072) rfl (H.perm 21 rfl) rfl rfl (H.fix 21 rfl rfl) (show 0 ≤ (u3_2 + x56_3) ∧ (u3_2 + x56_3) < ((131072 : Nat) : Int) from q_564 b31 b6 j56_1 pz11_0 pz21_2 r2) (by decide) (fun v32 ev32 qv32 => ?_)
            have qv32 : (0 : Int) ≤ v32 ∧ v32 ≤ 255 := qv32
            have ev32 : (wv26) ((u3_2 + x56_3)) = v32 := (congrFun ((funext (hA_56 21 rfl)).trans (ewv27)) ((u3_2 + x56_3))).symm.trans ev32
            have hv := ev32
            refine w_sI H (o := 15) (n := 65536) rfl (H.perm 15 rfl) rfl rfl (H.fix 15 rfl rfl) (show 0 ≤ x56_3 ∧ x56_3 < ((65536 : Nat) : Int) from q_565 b31 b6 j56_1 pz11_0 pz21_2) (by decide) (show (0 : Int) ≤ v32 ∧ v32 ≤ 255 from qv32) (fun σ H => ?_)
            refine Ew_of (pcₚ := 90) (fun _ => x_iinc (len := 3) rfl (l56_3)) ?_
            refine Ew_of (pcₚ := 56) (fun _ => x_goto rfl rfl) ?_
            have : CPY ((wv26)) ((upd1 (w56_15) (x56_3) (v32))) ((u3_2)) (0) (((x56_3 + 1))) := CPY_s j56_c hv (by omega) (by omega) rfl
            exact ih56 _ (msE hm56 q_101 (q_568 b31)) _ σ _ _ ((x56_3 + 1)) (rk_o (l56_0) rfl rfl) (rk_s) H (hS_56) (SA_upd (hA_56) rfl)  (upd1 (w56_15) (x56_3) (v32)) (congrArg (fun q => upd1 q (x56_3) (v32)) (ew56_15)) (show inr ((x56_3 + 1)) from q_567 b31 b6 j56_1 pz11_0 pz21_2) (show (0) ≤ ((x56_3 + 1)) from q_14 j56_1) (show ((x56_3 + 1)) ≤ (0) ∨ ((x56_3 + 1)) ≤ (((y24 - u3_2))) from q_566 b31) (show CPY ((wv26)) ((upd1 (w56_15) (x56_3) (v32))) ((u3_2)) (0) (((x56_3 + 1))) by assumption) rfl
      · refine Ew_of (pcₚ := 36) (fun _ => x_iload_n rfl rk_s) ?_
        refine w_ineg rfl ?_
        have r33 : (0 : Int) ≤ F 1 3 ∧ F 1 3 ≤ 65536 := rngE (show (0 : Int) ≤ F17 1 3 ∧ F17 1 3 ≤ 65536 from H.frng 1 3) (show F17 1 3 = F 1 3 from ((hS19 1 3 rfl).trans (hS9 1 3 rfl)))
        have : IMP ((0 : Int) ≤ (a1) ∧ (a1) ≤ 65536) (RDT ((w14)) ((u1_1)) (sc ((w16)) 0 ((u3_2))) ((a1)) (((-z21))) ((y22)) ((F 1 3)) ((A 15))) := fun _ => RDT_f htb (by omega) (by omega)
        exact w_ireturn rfl (k ((-z21)) σ _ _ H (SF_trans (SF_trans (SF_refl) hS9 (any_sub rfl)) hS19 (any_sub rfl)) (SA_trans (SA_trans (SA_refl) hA10 (any_subA rfl)) hA20 (any_subA rfl)) (F 1 3) (((hS19 1 3 rfl).trans (hS9 1 3 rfl))) (y22) ((ey23)) (A 15) ((funext (hA20 15 rfl)).trans (funext (hA10 15 rfl))) (show inr ((-z21)) from q_569 b30 pz21_1) (show IMP ((0 : Int) ≤ a1 ∧ a1 ≤ 65536) (RDT ((w14)) ((u1_1)) (sc ((w16)) 0 ((u3_2))) (a1) (((-z21))) ((y22)) ((F 1 3)) ((A 15))) by assumption))
    · refine Ew_of (pcₚ := 12) (fun _ => x_bipush (z := -4) rfl (by decide)) ?_
      have r34 : (0 : Int) ≤ F 1 3 ∧ F 1 3 ≤ 65536 := H.frng 1 3
      have r35 : (-2147483648 : Int) ≤ F 1 4 ∧ F 1 4 ≤ 2147483647 := H.frng 1 4
      have : IMP ((0 : Int) ≤ (a1) ∧ (a1) ≤ 65536) (RDT ((w14)) ((u1_1)) (sc ((w16)) 0 ((u3_2))) ((a1)) (-4) ((F 1 4)) ((F 1 3)) ((A 15))) := fun z => absurd z (by omega)
      exact w_ireturn rfl (k ((-4)) σ _ _ H (SF_refl) (SA_refl) (F 1 3) (rfl) (F 1 4) (rfl) (A 15) (rfl) (show inr ((-4)) from q_558) (show IMP ((0 : Int) ≤ a1 ∧ a1 ≤ 65536) (RDT ((w14)) ((u1_1)) (sc ((w16)) 0 ((u3_2))) (a1) (((-4))) ((F 1 4)) ((F 1 3)) ((A 15))) by assumption))

theorem M359_19 {σ0 σ : rS} {D N : Nat → Nat} {F : hF} {A : hA} {d c s : Nat} {Q : wQ} (H : HS σ0 σ D N F A) {a2 a3 : Int} (w19 : Int → Int) (ew19 : A 19 = w19) (h0 : inr (a2)) (h1 : inr (a3)) (h2 : 0 ≤ (a2) ∧ (a2) ≤ (a3) ∧ (a3) ≤ 70000) (k : ∀ (z : Int) σ Fₚ Aₚ, HS σ0 σ D N Fₚ Aₚ → SF [] F Fₚ → SA [17] A Aₚ → (inrJ (z)) → (0 ≤ (z) ∧ (z) < 4294967296) → ((z) = NSM ((w19)) ((a2)) ((a3) - (a2)) 0 % 4294967296) → Q (some (J z)) σ c s) : Ew 359 (d + 1) 0 (rargs 0 [.ref (D 3), .ref (D 19), I a2, I a3]) [] σ c s Q := by
  refine Ew_of (pcₚ := 3) (fun _ => x_ldc2 (z := 2654435761) rfl (by decide)) ?_
  refine Ew_of (pcₚ := 5) (fun _ => x_lstore rfl) ?_
  refine Ew_of (pcₚ := 8) (fun _ => x_ldc2 (z := 2246822519) rfl (by decide)) ?_
  refine Ew_of (pcₚ := 10) (fun _ => x_lstore rfl) ?_
  refine Ew_of (pcₚ := 13) (fun _ => x_ldc2 (z := 3266489917) rfl (by decide)) ?_
  refine Ew_of (pcₚ := 15) (fun _ => x_lstore rfl) ?_
  refine Ew_of (pcₚ := 18) (fun _ => x_ldc2 (z := 668265263) rfl (by decide)) ?_
  refine Ew_of (pcₚ := 20) (fun _ => x_lstore rfl) ?_
  refine Ew_of (pcₚ := 23) (fun _ => x_ldc2 (z := 374761393) rfl (by decide)) ?_
  refine Ew_of (pcₚ := 25) (fun _ => x_lstore rfl) ?_
  refine Ew_of (pcₚ := 26) (fun _ => x_iload_n rfl (rk2_o (rk2_o (rk2_o (rk2_o (rk2_o (rfl) rfl rfl) rfl rfl) rfl rfl) rfl rfl) rfl rfl)) ?_
  refine Ew_of (pcₚ := 27) (fun _ => x_iload_n rfl (rk2_o (rk2_o (rk2_o (rk2_o (rk2_o (rfl) rfl rfl) rfl rfl) rfl rfl) rfl rfl) rfl rfl)) ?_
  refine w_isub rfl ?_
  refine Ew_of (pcₚ := 30) (fun _ => x_istore rfl) ?_
  refine Ew_of (pcₚ := 31) (fun _ => x_iload_n rfl (rk_o (rk2_o (rk2_o (rk2_o (rk2_o (rk2_o (rfl) rfl rfl) rfl rfl) rfl rfl) rfl rfl) rfl rfl) rfl rfl)) ?_
  refine Ew_of (pcₚ := 33) (fun _ => x_istore rfl) ?_
  refine Ew_of (pcₚ := 35) (fun _ => x_lload rfl (rk_o (rk_o (rk2_s) rfl rfl) rfl rfl)) ?_
  refine Ew_of (pcₚ := 37) (fun _ => x_lstore rfl) ?_
  have hc210 : ∀ (ls : rO) (σ : rS) (F_c210 : hF) (A_c210 : hA) (xc210_15 : Int) (xc210_16 : Int), rlook ls 1 = some (.ref (D 19)) → rlook ls 3 = some (I (a3)) → rlook ls 4 = some (J (2654435761)) → rlook ls 6 = some (J (2246822519)) → rlook ls 8 = some (J (3266489917)) → rlook ls 10 = some (J (668265263)) → rlook ls 12 = some (J (374761393)) → rlook ls 14 = some (I ((a3 - a2))) → rlook ls 15 = some (I (xc210_15)) → rlook ls 16 = some (J (xc210_16)) → HS σ0 σ D N F_c210 A_c210 → SF [] F F_c210 → SA [17] A A_c210 → (inr (xc210_15)) → (inrJ (xc210_16)) → ((a2) ≤ (xc210_15) ∧ (xc210_15) ≤ (a3)) → (NSm ((w19)) ((a2)) ((a3) - (a2)) 0 ((xc210_15)) ((xc210_16))) → Ew 359 (d + 1) 210 ls [] σ c s Q := by
   as_aux_lemma =>
    intro  ls σ F_c210 A_c210 xc210_15 xc210_16 lc210_1 lc210_3 lc210_4 lc210_6 lc210_8 lc210_10 lc210_12 lc210_14 lc210_15 lc210_16 H hS_c210 hA_c210   jc210_0 jc210_1 jc210_2 jc210_3
    have hcN : NSm ((w19)) ((a2)) ((a3) - (a2)) 0 ((xc210_15)) ((xc210_16)) := jc210_3
    refine Ew_of (pcₚ := 212) (fun _ => x_lload rfl lc210_16) ?_
    refine Ew_of (pcₚ := 214) (fun _ => x_iload rfl lc210_14) ?_
    refine w_i2l rfl (show inr ((a3 - a2)) from q_570 h2) ?_
    refine w_ladd rfl ?_
    refine Ew_of (pcₚ := 219) (fun _ => x_ldc2 (z := 4294967295) rfl (by decide)) ?_
    refine w_landE rfl ?_
    have g1 : inrJ (anJ ((xc210_16 + (a3 - a2))) (4294967295)) := toJ_inr _
    refine Ew_of (pcₚ := 222) (fun _ => x_lstore rfl) ?_
    obtain ⟨xh0, hc1, hc2⟩ := hcN
    have hc1p := hc1.1
    have : ∃ xp xh x, NS1 ((w19)) ((a2)) ((a3) - (a2)) 0 xp xh ∧ ((anJ ((xc210_16 + (a3 - a2))) (4294967295))) = x % 4294967296 ∧ nS4n ((w19)) xp (((a3) - (a2)) % 16 / 4).toNat (adI xh ((a3) - (a2))) = nS4n ((w19)) ((xc210_15)) (((a3) - (xc210_15)) / 4).toNat x := ⟨(xc210_15), xh0, adI xh0 ((a3) - (a2)), hc1, by rw [anM, hc2, adI_m]; omega, by rw [show ((a3) - (a2)) % 16 / 4 = ((a3) - (xc210_15)) / 4 by omega]⟩
    suffices hl222 : ∀ (m : Nat), ∀ (ls : rO) (σ : rS) (F_222 : hF) (A_222 : hA) (x222_15 : Int) (x222_16 : Int), rlook ls 1 = some (.ref (D 19)) → rlook ls 3 = some (I (a3)) → rlook ls 4 = some (J (2654435761)) → rlook ls 6 = some (J (2246822519)) → rlook ls 8 = some (J (3266489917)) → rlook ls 10 = some (J (668265263)) → rlook ls 12 = some (J (374761393)) → rlook ls 15 = some (I (x222_15)) → rlook ls 16 = some (J (x222_16)) → HS σ0 σ D N F_222 A_222 → SF [] F_c210 F_222 → SA [] A_c210 A_222 → (inr (x222_15)) → (inrJ (x222_16)) → ((a2) ≤ (x222_15) ∧ (x222_15) ≤ (a3)) → (((a3) - (x222_15)) % 4 = ((a3) - (a2)) % 4) → (∃ xp xh x, NS1 ((w19)) ((a2)) ((a3) - (a2)) 0 xp xh ∧ (x222_16) = x % 4294967296 ∧ nS4n ((w19)) xp (((a3) - (a2)) % 16 / 4).toNat (adI xh ((a3) - (a2))) = nS4n ((w19)) ((x222_15)) (((a3) - (x222_15)) / 4).toNat x) → ((a3) - (x222_15)).toNat = m → Ew 359 (d + 1) 222 ls [] σ c s Q from
      hl222 _ _ σ _ _ (xc210_15) ((anJ ((xc210_16 + (a3 - a2))) (4294967295))) (rk2_o (lc210_1) rfl rfl) (rk2_o (lc210_3) rfl rfl) (rk2_o (lc210_4) rfl rfl) (rk2_o (lc210_6) rfl rfl) (rk2_o (lc210_8) rfl rfl) (rk2_o (lc210_10) rfl rfl) (rk2_o (lc210_12) rfl rfl) (rk2_o (lc210_15) rfl rfl) (rk2_s) H (SF_refl) (SA_refl)   (show inr (xc210_15) from jc210_0) (show inrJ ((anJ ((xc210_16 + (a3 - a2))) (4294967295))) from g1) (show (a2) ≤ (xc210_15) ∧ (xc210_15) ≤ (a3) from jc210_2) (show ((a3) - (xc210_15)) % 4 = ((a3) - (a2)) % 4 by omega) (show ∃ xp xh x, NS1 ((w19)) ((a2)) ((a3) - (a2)) 0 xp xh ∧ ((anJ ((xc210_16 + (a3 - a2))) (4294967295))) = x % 4294967296 ∧ nS4n ((w19)) xp (((a3) - (a2)) % 16 / 4).toNat (adI xh ((a3) - (a2))) = nS4n ((w19)) ((xc210_15)) (((a3) - (xc210_15)) / 4).toNat x by assumption) rfl
    as_aux_lemma =>
    intro m
    induction m using Nat.strongRecOn with
    | _ m ih222 =>
      intro ls σ F_222 A_222 x222_15 x222_16 l222_1 l222_3 l222_4 l222_6 l222_8 l222_10 l222_12 l222_15 l222_16 H hS_222 hA_222   j222_0 j222_1 j222_2 j222_3 j222_4 hm222
      have j222_q : ∃ xp xh x, NS1 ((w19)) ((a2)) ((a3) - (a2)) 0 xp xh ∧ (x222_16) = x % 4294967296 ∧ nS4n ((w19)) xp (((a3) - (a2)) % 16 / 4).toNat (adI xh ((a3) - (a2))) = nS4n ((w19)) ((x222_15)) (((a3) - (x222_15)) / 4).toNat x := by assumption
      refine Ew_of (pcₚ := 223) (fun _ => x_iload_n rfl l222_3) ?_
      refine Ew_of (pcₚ := 225) (fun _ => x_iload rfl l222_15) ?_
      refine w_isub rfl ?_
      refine Ew_of (pcₚ := 227) (fun _ => x_iconst rfl) ?_
      refine w_icmplt (t := 266) rfl rfl (show inr ((a3 - x222_15)) from q_571 h2 j222_2) (show inr (4) from q_216) (fun b2 => ?_) (fun b2 => ?_)
      · have : ∃ xp xh x, NS1 ((w19)) ((a2)) ((a3) - (a2)) 0 xp xh ∧ (x222_16) = x % 4294967296 ∧ nS1n ((w19)) ((a3) - ((a3) - (a2)) % 4) (((a3) - (a2)) % 4).toNat (nS4n ((w19)) xp (((a3) - (a2)) % 16 / 4).toNat (adI xh ((a3) - (a2)))) = nS1n ((w19)) ((x222_15)) ((a3) - (x222_15)).toNat x := by obtain ⟨xp, xh, x, q1, q2, q3⟩ := j222_q; refine ⟨xp, xh, x, q1, q2, ?_⟩; rw [q3, nS4n_0 (by omega), show (a3) - ((a3) - (a2)) % 4 = (x222_15) by omega, show ((a3) - (a2)) % 4 = (a3) - (x222_15) by omega]
        suffices hl266 : ∀ (m : Nat), ∀ (ls : rO) (σ : rS) (F_266 : hF) (A_266 : hA) (x266_15 : Int) (x266_16 : Int), rlook ls 1 = some (.ref (D 19)) → rlook ls 3 = some (I (a3)) → rlook ls 4 = some (J (2654435761)) → rlook ls 6 = some (J (2246822519)) → rlook ls 8 = some (J (3266489917)) → rlook ls 12 = some (J (374761393)) → rlook ls 15 = some (I (x266_15)) → rlook ls 16 = some (J (x266_16)) → HS σ0 σ D N F_266 A_266 → SF [] F_222 F_266 → SA [] A_222 A_266 → (inr (x266_15)) → (inrJ (x266_16)) → ((x222_15) ≤ (x266_15)) → ((x266_15) ≤ (x222_15) ∨ (x266_15) ≤ ((a3))) → (∃ xp xh x, NS1 ((w19)) ((a2)) ((a3) - (a2)) 0 xp xh ∧ (x266_16) = x % 4294967296 ∧ nS1n ((w19)) ((a3) - ((a3) - (a2)) % 4) (((a3) - (a2)) % 4).toNat (nS4n ((w19)) xp (((a3) - (a2)) % 16 / 4).toNat (adI xh ((a3) - (a2)))) = nS1n ((w19)) ((x266_15)) ((a3) - (x266_15)).toNat x) → (((a3)) - (x266_15)).toNat = m → Ew 359 (d + 1) 266 ls [] σ c s Q from
          hl266 _ _ σ _ _ (x222_15) (x222_16) (l222_1) (l222_3) (l222_4) (l222_6) (l222_8) (l222_12) (l222_15) (l222_16) H (SF_refl) (SA_refl)   (show inr (x222_15) from j222_0) (show inrJ (x222_16) from j222_1) (show (x222_15) ≤ (x222_15) from q_43) (show (x222_15) ≤ (x222_15) ∨ (x222_15) ≤ ((a3)) from q_156) (show ∃ xp xh x, NS1 ((w19)) ((a2)) ((a3) - (a2)) 0 xp xh ∧ (x222_16) = x % 4294967296 ∧ nS1n ((w19)) ((a3) - ((a3) - (a2)) % 4) (((a3) - (a2)) % 4).toNat (nS4n ((w19)) xp (((a3) - (a2)) % 16 / 4).toNat (adI xh ((a3) - (a2)))) = nS1n ((w19)) ((x222_15)) ((a3) - (x222_15)).toNat x by assumption) rfl
        as_aux_lemma =>
        intro m
        induction m using Nat.strongRecOn with
        | _ m ih266 =>
          intro ls σ F_266 A_266 x266_15 x266_16 l266_1 l266_3 l266_4 l266_6 l266_8 l266_12 l266_15 l266_16 H hS_266 hA_266   j266_0 j266_1 j266_2 j266_3 j266_4 hm266
          have j266_q : ∃ xp xh x, NS1 ((w19)) ((a2)) ((a3) - (a2)) 0 xp xh ∧ (x266_16) = x % 4294967296 ∧ nS1n ((w19)) ((a3) - ((a3) - (a2)) % 4) (((a3) - (a2)) % 4).toNat (nS4n ((w19)) xp (((a3) - (a2)) % 16 / 4).toNat (adI xh ((a3) - (a2)))) = nS1n ((w19)) ((x266_15)) ((a3) - (x266_15)).toNat x := by assumption
          refine Ew_of (pcₚ := 268) (fun _ => x_iload rfl l266_15) ?_
          refine Ew_of (pcₚ := 269) (fun _ => x_iload_n rfl l266_3) ?_
          refine w_icmpge (t := 307) rfl rfl (show inr (x266_15) from j266_0) (show inr (a3) from h1) (fun b3 => ?_) (fun b3 => ?_)
          · obtain ⟨xp_, xh_, x_, q1_, q2_, q3_⟩ := j266_q
            rw [nS1n_0 (k := ((a3) - (x266_15)).toNat) (by omega), show (a3) - ((a3) - (a2)) % 4 = (a2) + ((a3) - (a2)) - ((a3) - (a2)) % 4 by omega] at q3_
            refine Ew_of (pcₚ := 309) (fun _ => x_lload rfl l266_16) ?_
            refine Ew_of (pcₚ := 311) (fun _ => x_lload rfl l266_16) ?_
            refine Ew_of (pcₚ := 313) (fun _ => x_bipush (z := 15) rfl (by decide)) ?_
            refine w_lshrE rfl ?_
            have g4 : inrJ (srJ (x266_16) (15)) := toJ_inr _
            refine w_lxorE rfl ?_
            have g5 : inrJ (xoJ (x266_16) ((srJ (x266_16) (15)))) := toJ_inr _
            have hx1 : ((xoJ (x266_16) ((srJ (x266_16) (15))))) = xoI x_ (usI x_ 15) % 4294967296 := xo_i q2_ (by omega)
            refine Ew_of (pcₚ := 317) (fun _ => x_lload rfl l266_6) ?_
            refine w_stat24 rfl rfl (by rfl) (M357 H (show inrJ ((xoJ (x266_16) ((srJ (x266_16) (15))))) from g5) (show inrJ (2246822519) from q_572) (fun z10 σ F6 A7 H hS8 hA9 pz10_0 pz10_1 pz10_2 => ⟨rfl, ?_⟩))
            have hm1 := pz10_2 (xoI x_ (usI x_ 15)) (-2048144777) hx1 (by decide)
            refine Ew_of (pcₚ := 322) (fun _ => x_lstore rfl) ?_
            refine Ew_of (pcₚ := 324) (fun _ => x_lload rfl rk2_s) ?_
            refine Ew_of (pcₚ := 326) (fun _ => x_lload rfl rk2_s) ?_
            refine Ew_of (pcₚ := 328) (fun _ => x_bipush (z := 13) rfl (by decide)) ?_
            refine w_lshrE rfl ?_
            have g11 : inrJ (srJ (z10) (13)) := toJ_inr _
            refine w_lxorE rfl ?_
            have g12 : inrJ (xoJ (z10) ((srJ (z10) (13)))) := toJ_inr _
            have hx2 := xo_i hm1 (k := 13) (by omega)
            refine Ew_of (pcₚ := 332) (fun _ => x_lload rfl (rk2_o (l266_8) rfl rfl)) ?_
            refine w_stat24 rfl rfl (by rfl) (M357 H (show inrJ ((xoJ (z10) ((srJ (z10) (13))))) from g12) (show inrJ (3266489917) from q_573) (fun z17 σ F13 A14 H hS15 hA16 pz17_0 pz17_1 pz17_2 => ⟨rfl, ?_⟩))
            have hm2 := pz17_2 _ (-1028477379) hx2 (by decide)
            refine Ew_of (pcₚ := 337) (fun _ => x_lstore rfl) ?_
            refine Ew_of (pcₚ := 339) (fun _ => x_lload rfl rk2_s) ?_
            refine Ew_of (pcₚ := 341) (fun _ => x_lload rfl rk2_s) ?_
            refine Ew_of (pcₚ := 343) (fun _ => x_bipush (z := 16) rfl (by decide)) ?_
            refine w_lshrE rfl ?_
            have g18 : inrJ (srJ (z17) (16)) := toJ_inr _
            refine w_lxorE rfl ?_
            have g19 : inrJ (xoJ (z17) ((srJ (z17) (16)))) := toJ_inr _
            have hx3 := xo_i hm2 (k := 16) (by omega)
            have : ((xoJ (z17) ((srJ (z17) (16))))) = NSM ((w19)) ((a2)) ((a3) - (a2)) 0 % 4294967296 := by rw [← NSM_of q1_ rfl rfl q3_]; exact hx3
            have : 0 ≤ ((xoJ (z17) ((srJ (z17) (16))))) ∧ ((xoJ (z17) ((srJ (z17) (16))))) < 4294967296 := rng_m hx3
            exact w_lreturn rfl (k ((xoJ (z17) ((srJ (z17) (16))))) σ _ _ H (SF_trans (SF_trans (SF_trans (SF_trans (SF_trans (SF_refl) hS_c210 (any_sub rfl)) hS_222 (any_sub rfl)) hS_266 (any_sub rfl)) hS8 (any_sub rfl)) hS15 (any_sub rfl)) (SA_trans (SA_trans (SA_trans (SA_trans (SA_trans (SA_refl) hA_c210 (any_subA rfl)) hA_222 (any_subA rfl)) hA_266 (any_subA rfl)) hA9 (any_subA rfl)) hA16 (any_subA rfl)) (show inrJ ((xoJ (z17) ((srJ (z17) (16))))) from g19) (show 0 ≤ ((xoJ (z17) ((srJ (z17) (16))))) ∧ ((xoJ (z17) ((srJ (z17) (16))))) < 4294967296 by omega) (show ((xoJ (z17) ((srJ (z17) (16))))) = NSM ((w19)) (a2) (a3 - a2) 0 % 4294967296 by assumption))
          · refine Ew_of (pcₚ := 274) (fun _ => x_lload rfl l266_16) ?_
            refine Ew_of (pcₚ := 275) (fun _ => x_aload_n rfl l266_1) ?_
            refine Ew_of (pcₚ := 277) (fun _ => x_iload rfl l266_15) ?_
            refine w_lI H (o := 19) (n := 70000) rfl (H.perm 19 rfl) rfl rfl (H.fix 19 rfl rfl) (show 0 ≤ x266_15 ∧ x266_15 < ((70000 : Nat) : Int) from q_574 b3 h2 j222_2 j266_2) (by decide) (fun v20 ev20 qv20 => ?_)
            have qv20 : (0 : Int) ≤ v20 ∧ v20 ≤ 255 := qv20
            have ev20 : (w19) (x266_15) = v20 := (congrFun ((funext (hA_266 19 rfl)).trans ((funext (hA_222 19 rfl)).trans ((funext (hA_c210 19 rfl)).trans (ew19)))) (x266_15)).symm.trans ev20
            have hvb := ev20
            refine w_i2l rfl (show inr (v20) from q_299 qv20) ?_
            refine Ew_of (pcₚ := 281) (fun _ => x_lload rfl l266_12) ?_
            refine w_stat24 rfl rfl (by rfl) (M357 H (show inrJ (v20) from q_576 qv20) (show inrJ (374761393) from q_575) (fun z25 σ F21 A22 H hS23 hA24 pz25_0 pz25_1 pz25_2 => ⟨rfl, ?_⟩))
            have hs1 := pz25_2 (u8 (((w19)) ((x266_15)))) 374761393 (by rw [hvb, u8_id (by omega)]; omega) (by decide)
            refine w_ladd rfl ?_
            refine Ew_of (pcₚ := 288) (fun _ => x_ldc2 (z := 4294967295) rfl (by decide)) ?_
            refine w_landE rfl ?_
            have g26 : inrJ (anJ ((x266_16 + z25)) (4294967295)) := toJ_inr _
            refine Ew_of (pcₚ := 291) (fun _ => x_bipush (z := 11) rfl (by decide)) ?_
            refine w_stat24 rfl rfl (by rfl) (M356 H (show inrJ ((anJ ((x266_16 + z25)) (4294967295))) from g26) (show inr (11) from q_326) (show 1 ≤ (11) ∧ (11) ≤ 31 from q_577) (fun z31 σ F27 A28 H hS29 hA30 pz31_0 pz31_1 pz31_2 => ⟨rfl, ?_⟩))
            have hs3 := pz31_2
            refine Ew_of (pcₚ := 296) (fun _ => x_lload rfl l266_4) ?_
            refine w_stat24 rfl rfl (by rfl) (M357 H (show inrJ (z31) from pz31_0) (show inrJ (2654435761) from q_578) (fun z36 σ F32 A33 H hS34 hA35 pz36_0 pz36_1 pz36_2 => ⟨rfl, ?_⟩))
            have hs4 := pz36_2
            refine Ew_of (pcₚ := 301) (fun _ => x_lstore rfl) ?_
            refine Ew_of (pcₚ := 304) (fun _ => x_iinc (len := 3) rfl (rk2_o (l266_15) rfl rfl)) ?_
            refine Ew_of (pcₚ := 266) (fun _ => x_goto rfl rfl) ?_
            have : ∃ xp xh x, NS1 ((w19)) ((a2)) ((a3) - (a2)) 0 xp xh ∧ (z36) = x % 4294967296 ∧ nS1n ((w19)) ((a3) - ((a3) - (a2)) % 4) (((a3) - (a2)) % 4).toNat (nS4n ((w19)) xp (((a3) - (a2)) % 16 / 4).toNat (adI xh ((a3) - (a2)))) = nS1n ((w19)) (((x266_15 + 1))) ((a3) - ((x266_15 + 1))).toNat x := by obtain ⟨xp, xh, x, q1, q2, q3⟩ := j266_q; exact ⟨xp, xh, _, q1, stp_i q2 hs1 hs3 hs4 (y2 := -1640531535) (by decide), q3.trans (nS1n_s (by omega) rfl (by omega))⟩
            exact ih266 _ (msE hm266 q_16 (q_17 b3)) _ σ _ _ ((x266_15 + 1)) (z36) (rk_o (rk2_o (l266_1) rfl rfl) rfl rfl) (rk_o (rk2_o (l266_3) rfl rfl) rfl rfl) (rk_o (rk2_o (l266_4) rfl rfl) rfl rfl) (rk_o (rk2_o (l266_6) rfl rfl) rfl rfl) (rk_o (rk2_o (l266_8) rfl rfl) rfl rfl) (rk_o (rk2_o (l266_12) rfl rfl) rfl rfl) (rk_s) (rk_o (rk2_s) rfl rfl) H (SF_trans (SF_trans (SF_trans (hS_266) hS23 (any_sub rfl)) hS29 (any_sub rfl)) hS34 (any_sub rfl)) (SA_trans (SA_trans (SA_trans (hA_266) hA24 (any_subA rfl)) hA30 (any_subA rfl)) hA35 (any_subA rfl))   (show inr ((x266_15 + 1)) from q_579 b3 h2 j266_0) (show inrJ (z36) from pz36_0) (show (x222_15) ≤ ((x266_15 + 1)) from q_161 j266_2) (show ((x266_15 + 1)) ≤ (x222_15) ∨ ((x266_15 + 1)) ≤ ((a3)) from q_160 b3) (show ∃ xp xh x, NS1 ((w19)) ((a2)) ((a3) - (a2)) 0 xp xh ∧ (z36) = x % 4294967296 ∧ nS1n ((w19)) ((a3) - ((a3) - (a2)) % 4) (((a3) - (a2)) % 4).toNat (nS4n ((w19)) xp (((a3) - (a2)) % 16 / 4).toNat (adI xh ((a3) - (a2)))) = nS1n ((w19)) (((x266_15 + 1))) ((a3) - ((x266_15 + 1))).toNat x by assumption) rfl
      · refine Ew_of (pcₚ := 232) (fun _ => x_lload rfl l222_16) ?_
        refine Ew_of (pcₚ := 233) (fun _ => x_aload_n rfl l222_1) ?_
        refine Ew_of (pcₚ := 235) (fun _ => x_iload rfl l222_15) ?_
        refine w_stat24 rfl rfl (by rfl) (M358_19 H (w19) ((funext (hA_222 19 rfl)).trans ((funext (hA_c210 19 rfl)).trans (ew19))) (show inr (x222_15) from j222_0) (show 0 ≤ (x222_15) ∧ (x222_15) + 3 < 70000 from q_580 b2 h2 j222_2) (fun z41 σ F37 A38 H hS39 hA40 pz41_0 pz41_1 => ⟨rfl, ?_⟩))
        have hwd2 := pz41_1
        refine Ew_of (pcₚ := 240) (fun _ => x_lload rfl l222_8) ?_
        refine w_stat24 rfl rfl (by rfl) (M357 H (show inrJ (z41) from pz41_0) (show inrJ (3266489917) from q_573) (fun z46 σ F42 A43 H hS44 hA45 pz46_0 pz46_1 pz46_2 => ⟨rfl, ?_⟩))
        have hu1 := pz46_2 (wdI ((w19)) ((x222_15))) (-1028477379) (by rw [hwd2]; exact wdI_m) (by decide)
        refine w_ladd rfl ?_
        refine Ew_of (pcₚ := 247) (fun _ => x_ldc2 (z := 4294967295) rfl (by decide)) ?_
        refine w_landE rfl ?_
        have g47 : inrJ (anJ ((x222_16 + z46)) (4294967295)) := toJ_inr _
        refine Ew_of (pcₚ := 250) (fun _ => x_bipush (z := 17) rfl (by decide)) ?_
        refine w_stat24 rfl rfl (by rfl) (M356 H (show inrJ ((anJ ((x222_16 + z46)) (4294967295))) from g47) (show inr (17) from q_582) (show 1 ≤ (17) ∧ (17) ≤ 31 from q_581) (fun z52 σ F48 A49 H hS50 hA51 pz52_0 pz52_1 pz52_2 => ⟨rfl, ?_⟩))
        have hu3 := pz52_2
        refine Ew_of (pcₚ := 255) (fun _ => x_lload rfl l222_10) ?_
        refine w_stat24 rfl rfl (by rfl) (M357 H (show inrJ (z52) from pz52_0) (show inrJ (668265263) from q_583) (fun z57 σ F53 A54 H hS55 hA56 pz57_0 pz57_1 pz57_2 => ⟨rfl, ?_⟩))
        have hu4 := pz57_2
        refine Ew_of (pcₚ := 260) (fun _ => x_lstore rfl) ?_
        refine Ew_of (pcₚ := 263) (fun _ => x_iinc (len := 3) rfl (rk2_o (l222_15) rfl rfl)) ?_
        refine Ew_of (pcₚ := 222) (fun _ => x_goto rfl rfl) ?_
        have : ∃ xp xh x, NS1 ((w19)) ((a2)) ((a3) - (a2)) 0 xp xh ∧ (z57) = x % 4294967296 ∧ nS4n ((w19)) xp (((a3) - (a2)) % 16 / 4).toNat (adI xh ((a3) - (a2))) = nS4n ((w19)) (((x222_15 + 4))) (((a3) - ((x222_15 + 4))) / 4).toNat x := by obtain ⟨xp, xh, x, q1, q2, q3⟩ := j222_q; exact ⟨xp, xh, _, q1, stp_i q2 hu1 hu3 hu4 (y2 := 668265263) (by decide), q3.trans (nS4n_s (by omega) rfl (by omega))⟩
        exact ih222 _ (msE hm222 q_586 (q_587 b2)) _ σ _ _ ((x222_15 + 4)) (z57) (rk_o (rk2_o (l222_1) rfl rfl) rfl rfl) (rk_o (rk2_o (l222_3) rfl rfl) rfl rfl) (rk_o (rk2_o (l222_4) rfl rfl) rfl rfl) (rk_o (rk2_o (l222_6) rfl rfl) rfl rfl) (rk_o (rk2_o (l222_8) rfl rfl) rfl rfl) (rk_o (rk2_o (l222_10) rfl rfl) rfl rfl) (rk_o (rk2_o (l222_12) rfl rfl) rfl rfl) (rk_s) (rk_o (rk2_s) rfl rfl) H (SF_trans (SF_trans (SF_trans (SF_trans (hS_222) hS39 (any_sub rfl)) hS44 (any_sub rfl)) hS50 (any_sub rfl)) hS55 (any_sub rfl)) (SA_trans (SA_trans (SA_trans (SA_trans (hA_222) hA40 (any_subA rfl)) hA45 (any_subA rfl)) hA51 (any_subA rfl)) hA56 (any_subA rfl))   (show inr ((x222_15 + 4)) from q_585 b2 h2 j222_0) (show inrJ (z57) from pz57_0) (show (a2) ≤ ((x222_15 + 4)) ∧ ((x222_15 + 4)) ≤ (a3) from q_584 b2 j222_2) (show ((a3) - ((x222_15 + 4))) % 4 = ((a3) - (a2)) % 4 by omega) (show ∃ xp xh x, NS1 ((w19)) ((a2)) ((a3) - (a2)) 0 xp xh ∧ (z57) = x % 4294967296 ∧ nS4n ((w19)) xp (((a3) - (a2)) % 16 / 4).toNat (adI xh ((a3) - (a2))) = nS4n ((w19)) (((x222_15 + 4))) (((a3) - ((x222_15 + 4))) / 4).toNat x by assumption) rfl
  refine Ew_of (pcₚ := 39) (fun _ => x_iload rfl (rk2_o (rk_o (rk_s) rfl rfl) rfl rfl)) ?_
  refine Ew_of (pcₚ := 41) (fun _ => x_bipush (z := 16) rfl (by decide)) ?_
  refine w_icmplt (t := 210) rfl rfl (show inr ((a3 - a2)) from q_570 h2) (show inr (16) from q_345) (fun b58 => ?_) (fun b58 => ?_)
  · have : NSm ((w19)) ((a2)) ((a3) - (a2)) 0 ((a2)) ((374761393)) := by first | exact hNS | exact NSm_n (by omega) (by omega) (by omega) (by rfl)
    exact hc210  _ σ _ _ (a2) (374761393) (rk2_o (rk_o (rk_o (rk2_o (rk2_o (rk2_o (rk2_o (rk2_o (rfl) rfl rfl) rfl rfl) rfl rfl) rfl rfl) rfl rfl) rfl rfl) rfl rfl) rfl rfl) (rk2_o (rk_o (rk_o (rk2_o (rk2_o (rk2_o (rk2_o (rk2_o (rfl) rfl rfl) rfl rfl) rfl rfl) rfl rfl) rfl rfl) rfl rfl) rfl rfl) rfl rfl) (rk2_o (rk_o (rk_o (rk2_o (rk2_o (rk2_o (rk2_o (rk2_s) rfl rfl) rfl rfl) rfl rfl) rfl rfl) rfl rfl) rfl rfl) rfl rfl) (rk2_o (rk_o (rk_o (rk2_o (rk2_o (rk2_o (rk2_s) rfl rfl) rfl rfl) rfl rfl) rfl rfl) rfl rfl) rfl rfl) (rk2_o (rk_o (rk_o (rk2_o (rk2_o (rk2_s) rfl rfl) rfl rfl) rfl rfl) rfl rfl) rfl rfl) (rk2_o (rk_o (rk_o (rk2_o (rk2_s) rfl rfl) rfl rfl) rfl rfl) rfl rfl) (rk2_o (rk_o (rk_o (rk2_s) rfl rfl) rfl rfl) rfl rfl) (rk2_o (rk_o (rk_s) rfl rfl) rfl rfl) (rk2_o (rk_s) rfl rfl) (rk2_s) H (SF_refl) (SA_refl)   (show inr (a2) from h0) (show inrJ (374761393) from q_575) (show (a2) ≤ (a2) ∧ (a2) ≤ (a3) from q_588 h2) (show NSm ((w19)) ((a2)) ((a3) - (a2)) 0 ((a2)) ((374761393)) by assumption)
  · refine Ew_of (pcₚ := 45) (fun _ => x_aload_n rfl (rk2_o (rk_o (rk_o (rk2_o (rk2_o (rk2_o (rk2_o (rk2_o (rfl) rfl rfl) rfl rfl) rfl rfl) rfl rfl) rfl rfl) rfl rfl) rfl rfl) rfl rfl)) ?_
    refine w_gT H (o := 3) (t := 17) rfl (H.perm 3 rfl) rfl rfl rfl rfl rfl rfl ?_
    refine Ew_of (pcₚ := 49) (fun _ => x_iconst rfl) ?_
    refine Ew_of (pcₚ := 51) (fun _ => x_lload rfl (rk2_o (rk_o (rk_o (rk2_o (rk2_o (rk2_o (rk2_o (rk2_s) rfl rfl) rfl rfl) rfl rfl) rfl rfl) rfl rfl) rfl rfl) rfl rfl)) ?_
    refine Ew_of (pcₚ := 53) (fun _ => x_lload rfl (rk2_o (rk_o (rk_o (rk2_o (rk2_o (rk2_o (rk2_s) rfl rfl) rfl rfl) rfl rfl) rfl rfl) rfl rfl) rfl rfl)) ?_
    refine w_ladd rfl ?_
    refine Ew_of (pcₚ := 57) (fun _ => x_ldc2 (z := 4294967295) rfl (by decide)) ?_
    refine w_landE rfl ?_
    have g59 : inrJ (anJ ((2654435761 + 2246822519)) (4294967295)) := toJ_inr _
    refine w_sJ H (o := 17) (n := 4) rfl (H.perm 17 rfl) rfl rfl (H.fix 17 rfl rfl) (show 0 ≤ 0 ∧ 0 < ((4 : Nat) : Int) from q_589) (by decide) (show (-9223372036854775808 : Int) ≤ (anJ ((2654435761 + 2246822519)) (4294967295)) ∧ (anJ ((2654435761 + 2246822519)) (4294967295)) ≤ 9223372036854775807 by omega) (fun σ H => ?_)
    refine Ew_of (pcₚ := 60) (fun _ => x_aload_n rfl (rk2_o (rk_o (rk_o (rk2_o (rk2_o (rk2_o (rk2_o (rk2_o (rfl) rfl rfl) rfl rfl) rfl rfl) rfl rfl) rfl rfl) rfl rfl) rfl rfl) rfl rfl)) ?_
    refine w_gT H (o := 3) (t := 17) rfl (H.perm 3 rfl) rfl rfl rfl rfl rfl rfl ?_
    refine Ew_of (pcₚ := 64) (fun _ => x_iconst rfl) ?_
    refine Ew_of (pcₚ := 66) (fun _ => x_lload rfl (rk2_o (rk_o (rk_o (rk2_o (rk2_o (rk2_o (rk2_s) rfl rfl) rfl rfl) rfl rfl) rfl rfl) rfl rfl) rfl rfl)) ?_
    refine w_sJ H (o := 17) (n := 4) rfl (H.perm 17 rfl) rfl rfl (H.fix 17 rfl rfl) (show 0 ≤ 1 ∧ 1 < ((4 : Nat) : Int) from q_591) (by decide) (show (-9223372036854775808 : Int) ≤ 2246822519 ∧ 2246822519 ≤ 9223372036854775807 from q_590) (fun σ H => ?_)
    refine Ew_of (pcₚ := 68) (fun _ => x_aload_n rfl (rk2_o (rk_o (rk_o (rk2_o (rk2_o (rk2_o (rk2_o (rk2_o (rfl) rfl rfl) rfl rfl) rfl rfl) rfl rfl) rfl rfl) rfl rfl) rfl rfl) rfl rfl)) ?_
    refine w_gT H (o := 3) (t := 17) rfl (H.perm 3 rfl) rfl rfl rfl rfl rfl rfl ?_
    refine Ew_of (pcₚ := 72) (fun _ => x_iconst rfl) ?_
    refine Ew_of (pcₚ := 73) (fun _ => x_lconst (z := 0) rfl (by decide)) ?_
    refine w_sJ H (o := 17) (n := 4) rfl (H.perm 17 rfl) rfl rfl (H.fix 17 rfl rfl) (show 0 ≤ 2 ∧ 2 < ((4 : Nat) : Int) from q_593) (by decide) (show (-9223372036854775808 : Int) ≤ 0 ∧ 0 ≤ 9223372036854775807 from q_592) (fun σ H => ?_)
    refine Ew_of (pcₚ := 75) (fun _ => x_aload_n rfl (rk2_o (rk_o (rk_o (rk2_o (rk2_o (rk2_o (rk2_o (rk2_o (rfl) rfl rfl) rfl rfl) rfl rfl) rfl rfl) rfl rfl) rfl rfl) rfl rfl) rfl rfl)) ?_
    refine w_gT H (o := 3) (t := 17) rfl (H.perm 3 rfl) rfl rfl rfl rfl rfl rfl ?_
    refine Ew_of (pcₚ := 79) (fun _ => x_iconst rfl) ?_
    refine Ew_of (pcₚ := 80) (fun _ => x_lconst (z := 0) rfl (by decide)) ?_
    refine Ew_of (pcₚ := 82) (fun _ => x_lload rfl (rk2_o (rk_o (rk_o (rk2_o (rk2_o (rk2_o (rk2_o (rk2_s) rfl rfl) rfl rfl) rfl rfl) rfl rfl) rfl rfl) rfl rfl) rfl rfl)) ?_
    refine w_lsub rfl ?_
    refine Ew_of (pcₚ := 86) (fun _ => x_ldc2 (z := 4294967295) rfl (by decide)) ?_
    refine w_landE rfl ?_
    have g60 : inrJ (anJ ((0 - 2654435761)) (4294967295)) := toJ_inr _
    refine w_sJ H (o := 17) (n := 4) rfl (H.perm 17 rfl) rfl rfl (H.fix 17 rfl rfl) (show 0 ≤ 3 ∧ 3 < ((4 : Nat) : Int) from q_594) (by decide) (show (-9223372036854775808 : Int) ≤ (anJ ((0 - 2654435761)) (4294967295)) ∧ (anJ ((0 - 2654435761)) (4294967295)) ≤ 9223372036854775807 by omega) (fun σ H => ?_)
    have : LQA ((w19)) ((a2)) ((a3) - (a2)) ((a2)) 0 ((upd1 (upd1 (upd1 (upd1 (A 17) (0) ((anJ ((2654435761 + 2246822519)) (4294967295)))) (1) (2246822519)) (2) (0)) (3) ((anJ ((0 - 2654435761)) (4294967295))))) := LQA_i rfl
    suffices hl88 : ∀ (m : Nat), ∀ (ls : rO) (σ : rS) (F_88 : hF) (A_88 : hA) (x88_15 : Int), rlook ls 0 = some (.ref (D 3)) → rlook ls 1 = some (.ref (D 19)) → rlook ls 3 = some (I (a3)) → rlook ls 4 = some (J (2654435761)) → rlook ls 6 = some (J (2246822519)) → rlook ls 8 = some (J (3266489917)) → rlook ls 10 = some (J (668265263)) → rlook ls 12 = some (J (374761393)) → rlook ls 14 = some (I ((a3 - a2))) → rlook ls 15 = some (I (x88_15)) → HS σ0 σ D N F_88 A_88 → SF [] F F_88 → SA [17] (updA (updA (updA (updA A 17 (0) ((anJ ((2654435761 + 2246822519)) (4294967295)))) 17 (1) (2246822519)) 17 (2) (0)) 17 (3) ((anJ ((0 - 2654435761)) (4294967295)))) A_88 → ∀ w88_17 : Int → Int, A_88 17 = w88_17 → (inr (x88_15)) → ((a2) ≤ (x88_15) ∧ (x88_15) ≤ (a3)) → (((x88_15) - (a2)) % 16 = 0) → (LQA ((w19)) ((a2)) ((a3) - (a2)) ((x88_15)) 0 ((w88_17))) → ((a3) - (x88_15)).toNat = m → Ew 359 (d + 1) 88 ls [] σ c s Q from
      hl88 _ _ σ _ _ (a2) (rk2_o (rk_o (rk_o (rk2_o (rk2_o (rk2_o (rk2_o (rk2_o (rfl) rfl rfl) rfl rfl) rfl rfl) rfl rfl) rfl rfl) rfl rfl) rfl rfl) rfl rfl) (rk2_o (rk_o (rk_o (rk2_o (rk2_o (rk2_o (rk2_o (rk2_o (rfl) rfl rfl) rfl rfl) rfl rfl) rfl rfl) rfl rfl) rfl rfl) rfl rfl) rfl rfl) (rk2_o (rk_o (rk_o (rk2_o (rk2_o (rk2_o (rk2_o (rk2_o (rfl) rfl rfl) rfl rfl) rfl rfl) rfl rfl) rfl rfl) rfl rfl) rfl rfl) rfl rfl) (rk2_o (rk_o (rk_o (rk2_o (rk2_o (rk2_o (rk2_o (rk2_s) rfl rfl) rfl rfl) rfl rfl) rfl rfl) rfl rfl) rfl rfl) rfl rfl) (rk2_o (rk_o (rk_o (rk2_o (rk2_o (rk2_o (rk2_s) rfl rfl) rfl rfl) rfl rfl) rfl rfl) rfl rfl) rfl rfl) (rk2_o (rk_o (rk_o (rk2_o (rk2_o (rk2_s) rfl rfl) rfl rfl) rfl rfl) rfl rfl) rfl rfl) (rk2_o (rk_o (rk_o (rk2_o (rk2_s) rfl rfl) rfl rfl) rfl rfl) rfl rfl) (rk2_o (rk_o (rk_o (rk2_s) rfl rfl) rfl rfl) rfl rfl) (rk2_o (rk_o (rk_s) rfl rfl) rfl rfl) (rk2_o (rk_s) rfl rfl) H (SF_refl) (SA_refl)  (upd1 (upd1 (upd1 (upd1 (A 17) (0) ((anJ ((2654435761 + 2246822519)) (4294967295)))) (1) (2246822519)) (2) (0)) (3) ((anJ ((0 - 2654435761)) (4294967295)))) (rfl) (show inr (a2) from h0) (show (a2) ≤ (a2) ∧ (a2) ≤ (a3) from q_588 h2) (show ((a2) - (a2)) % 16 = 0 by omega) (show LQA ((w19)) ((a2)) ((a3) - (a2)) ((a2)) 0 ((upd1 (upd1 (upd1 (upd1 (A 17) (0) ((anJ ((2654435761 + 2246822519)) (4294967295)))) (1) (2246822519)) (2) (0)) (3) ((anJ ((0 - 2654435761)) (4294967295))))) by assumption) rfl
    as_aux_lemma =>
    intro m
    induction m using Nat.strongRecOn with
    | _ m ih88 =>
      intro ls σ F_88 A_88 x88_15 l88_0 l88_1 l88_3 l88_4 l88_6 l88_8 l88_10 l88_12 l88_14 l88_15 H hS_88 hA_88  w88_17 ew88_17 j88_0 j88_1 j88_2 j88_3 hm88
      have j88_L : LQA ((w19)) ((a2)) ((a3) - (a2)) ((x88_15)) 0 ((w88_17)) := j88_3
      refine Ew_of (pcₚ := 89) (fun _ => x_iload_n rfl l88_3) ?_
      refine Ew_of (pcₚ := 91) (fun _ => x_iload rfl l88_15) ?_
      refine w_isub rfl ?_
      refine Ew_of (pcₚ := 94) (fun _ => x_bipush (z := 16) rfl (by decide)) ?_
      refine w_icmplt (t := 158) rfl rfl (show inr ((a3 - x88_15)) from q_571 h2 j88_1) (show inr (16) from q_345) (fun b61 => ?_) (fun b61 => ?_)
      · refine Ew_of (pcₚ := 159) (fun _ => x_aload_n rfl l88_0) ?_
        refine w_gT H (o := 3) (t := 17) rfl (H.perm 3 rfl) rfl rfl rfl rfl rfl rfl ?_
        refine Ew_of (pcₚ := 163) (fun _ => x_iconst rfl) ?_
        refine w_lJ H (o := 17) (n := 4) rfl (H.perm 17 rfl) rfl rfl (H.fix 17 rfl rfl) (show 0 ≤ 0 ∧ 0 < ((4 : Nat) : Int) from q_589) (by decide) (fun v62 ev62 qv62 => ?_)
        have qv62 : (-9223372036854775808 : Int) ≤ v62 ∧ v62 ≤ 9223372036854775807 := qv62
        have ev62 : (w88_17) (0) = v62 := (congrFun (ew88_17) (0)).symm.trans ev62
        have a0_ := ev62
        refine Ew_of (pcₚ := 165) (fun _ => x_iconst rfl) ?_
        refine w_stat24 rfl rfl (by rfl) (M356 H (show inrJ (v62) by omega) (show inr (1) from q_135) (show 1 ≤ (1) ∧ (1) ≤ 31 from q_595) (fun z67 σ F63 A64 H hS65 hA66 pz67_0 pz67_1 pz67_2 => ⟨rfl, ?_⟩))
        have b0_ := pz67_2
        refine Ew_of (pcₚ := 169) (fun _ => x_aload_n rfl l88_0) ?_
        refine w_gT H (o := 3) (t := 17) rfl (H.perm 3 rfl) rfl rfl rfl rfl rfl rfl ?_
        refine Ew_of (pcₚ := 173) (fun _ => x_iconst rfl) ?_
        refine w_lJ H (o := 17) (n := 4) rfl (H.perm 17 rfl) rfl rfl (H.fix 17 rfl rfl) (show 0 ≤ 1 ∧ 1 < ((4 : Nat) : Int) from q_591) (by decide) (fun v68 ev68 qv68 => ?_)
        have qv68 : (-9223372036854775808 : Int) ≤ v68 ∧ v68 ≤ 9223372036854775807 := qv68
        have ev68 : (w88_17) (1) = v68 := (congrFun ((funext (hA66 17 rfl)).trans (ew88_17)) (1)).symm.trans ev68
        have a1_ := ev68
        refine Ew_of (pcₚ := 176) (fun _ => x_bipush (z := 7) rfl (by decide)) ?_
        refine w_stat24 rfl rfl (by rfl) (M356 H (show inrJ (v68) by omega) (show inr (7) from q_597) (show 1 ≤ (7) ∧ (7) ≤ 31 from q_596) (fun z73 σ F69 A70 H hS71 hA72 pz73_0 pz73_1 pz73_2 => ⟨rfl, ?_⟩))
        have b1_ := pz73_2
        refine w_ladd rfl ?_
        refine Ew_of (pcₚ := 181) (fun _ => x_aload_n rfl l88_0) ?_
        refine w_gT H (o := 3) (t := 17) rfl (H.perm 3 rfl) rfl rfl rfl rfl rfl rfl ?_
        refine Ew_of (pcₚ := 185) (fun _ => x_iconst rfl) ?_
        refine w_lJ H (o := 17) (n := 4) rfl (H.perm 17 rfl) rfl rfl (H.fix 17 rfl rfl) (show 0 ≤ 2 ∧ 2 < ((4 : Nat) : Int) from q_593) (by decide) (fun v74 ev74 qv74 => ?_)
        have qv74 : (-9223372036854775808 : Int) ≤ v74 ∧ v74 ≤ 9223372036854775807 := qv74
        have ev74 : (w88_17) (2) = v74 := (congrFun ((funext (hA72 17 rfl)).trans ((funext (hA66 17 rfl)).trans (ew88_17))) (2)).symm.trans ev74
        have a2_ := ev74
        refine Ew_of (pcₚ := 188) (fun _ => x_bipush (z := 12) rfl (by decide)) ?_
        refine w_stat24 rfl rfl (by rfl) (M356 H (show inrJ (v74) by omega) (show inr (12) from q_599) (show 1 ≤ (12) ∧ (12) ≤ 31 from q_598) (fun z79 σ F75 A76 H hS77 hA78 pz79_0 pz79_1 pz79_2 => ⟨rfl, ?_⟩))
        have b2_ := pz79_2
        refine w_ladd rfl ?_
        refine Ew_of (pcₚ := 193) (fun _ => x_aload_n rfl l88_0) ?_
        refine w_gT H (o := 3) (t := 17) rfl (H.perm 3 rfl) rfl rfl rfl rfl rfl rfl ?_
        refine Ew_of (pcₚ := 197) (fun _ => x_iconst rfl) ?_
        refine w_lJ H (o := 17) (n := 4) rfl (H.perm 17 rfl) rfl rfl (H.fix 17 rfl rfl) (show 0 ≤ 3 ∧ 3 < ((4 : Nat) : Int) from q_594) (by decide) (fun v80 ev80 qv80 => ?_)
        have qv80 : (-9223372036854775808 : Int) ≤ v80 ∧ v80 ≤ 9223372036854775807 := qv80
        have ev80 : (w88_17) (3) = v80 := (congrFun ((funext (hA78 17 rfl)).trans ((funext (hA72 17 rfl)).trans ((funext (hA66 17 rfl)).trans (ew88_17)))) (3)).symm.trans ev80
        have a3_ := ev80
        refine Ew_of (pcₚ := 200) (fun _ => x_bipush (z := 18) rfl (by decide)) ?_
        refine w_stat24 rfl rfl (by rfl) (M356 H (show inrJ (v80) by omega) (show inr (18) from q_601) (show 1 ≤ (18) ∧ (18) ≤ 31 from q_600) (fun z85 σ F81 A82 H hS83 hA84 pz85_0 pz85_1 pz85_2 => ⟨rfl, ?_⟩))
        have b3_ := pz85_2
        refine w_ladd rfl ?_
        refine Ew_of (pcₚ := 207) (fun _ => x_ldc2 (z := 4294967295) rfl (by decide)) ?_
        refine w_landE rfl ?_
        have g86 : inrJ (anJ ((((z67 + z73) + z79) + z85)) (4294967295)) := toJ_inr _
        have hNS : NSm ((w19)) ((a2)) ((a3) - (a2)) 0 ((x88_15)) (((anJ ((((z67 + z73) + z79) + z85)) (4294967295)))) := NSm_y (by omega) (by omega) j88_L a0_ a1_ a2_ a3_ b0_ b1_ b2_ b3_
        refine Ew_of (pcₚ := 210) (fun _ => x_lstore rfl) ?_
        have : NSm ((w19)) ((a2)) ((a3) - (a2)) 0 ((x88_15)) (((anJ ((((z67 + z73) + z79) + z85)) (4294967295)))) := by first | exact hNS | exact NSm_n (by omega) (by omega) (by omega) (by rfl)
        exact hc210  _ σ _ _ (x88_15) ((anJ ((((z67 + z73) + z79) + z85)) (4294967295))) (rk2_o (l88_1) rfl rfl) (rk2_o (l88_3) rfl rfl) (rk2_o (l88_4) rfl rfl) (rk2_o (l88_6) rfl rfl) (rk2_o (l88_8) rfl rfl) (rk2_o (l88_10) rfl rfl) (rk2_o (l88_12) rfl rfl) (rk2_o (l88_14) rfl rfl) (rk2_o (l88_15) rfl rfl) (rk2_s) H (SF_trans (SF_trans (SF_trans (SF_trans (SF_trans (SF_refl) hS_88 (any_sub rfl)) hS65 (any_sub rfl)) hS71 (any_sub rfl)) hS77 (any_sub rfl)) hS83 (any_sub rfl)) (SA_trans (SA_trans (SA_trans (SA_trans (SA_trans (SA_upd (SA_upd (SA_upd (SA_upd (SA_refl) rfl) rfl) rfl) rfl) hA_88 (any_subA rfl)) hA66 (any_subA rfl)) hA72 (any_subA rfl)) hA78 (any_subA rfl)) hA84 (any_subA rfl))   (show inr (x88_15) from j88_0) (show inrJ ((anJ ((((z67 + z73) + z79) + z85)) (4294967295))) from g86) (show (a2) ≤ (x88_15) ∧ (x88_15) ≤ (a3) from j88_1) (hNS)
      · refine Ew_of (pcₚ := 98) (fun _ => x_iconst rfl) ?_
        refine Ew_of (pcₚ := 100) (fun _ => x_istore rfl) ?_
        suffices hl100 : ∀ (m : Nat), ∀ (ls : rO) (σ : rS) (F_100 : hF) (A_100 : hA) (x100_15 : Int) (x100_18 : Int), rlook ls 0 = some (.ref (D 3)) → rlook ls 1 = some (.ref (D 19)) → rlook ls 3 = some (I (a3)) → rlook ls 4 = some (J (2654435761)) → rlook ls 6 = some (J (2246822519)) → rlook ls 8 = some (J (3266489917)) → rlook ls 10 = some (J (668265263)) → rlook ls 12 = some (J (374761393)) → rlook ls 14 = some (I ((a3 - a2))) → rlook ls 15 = some (I (x100_15)) → rlook ls 18 = some (I (x100_18)) → HS σ0 σ D N F_100 A_100 → SF [] F_88 F_100 → SA [17] A_88 A_100 → ∀ w100_17 : Int → Int, A_100 17 = w100_17 → (inr (x100_15)) → (inr (x100_18)) → ((0) ≤ (x100_18)) → ((x100_18) ≤ (0) ∨ (x100_18) ≤ (4)) → ((x100_15) = (x88_15) + 4 * (x100_18)) → (LQA ((w19)) ((a2)) ((a3) - (a2)) ((x88_15)) ((x100_18)) ((w100_17))) → ((4) - (x100_18)).toNat = m → Ew 359 (d + 1) 100 ls [] σ c s Q from
          hl100 _ _ σ _ _ (x88_15) (0) (rk_o (l88_0) rfl rfl) (rk_o (l88_1) rfl rfl) (rk_o (l88_3) rfl rfl) (rk_o (l88_4) rfl rfl) (rk_o (l88_6) rfl rfl) (rk_o (l88_8) rfl rfl) (rk_o (l88_10) rfl rfl) (rk_o (l88_12) rfl rfl) (rk_o (l88_14) rfl rfl) (rk_o (l88_15) rfl rfl) (rk_s) H (SF_refl) (SA_refl)  (w88_17) (ew88_17) (show inr (x88_15) from j88_0) (show inr (0) from q_2) (show (0) ≤ (0) from q_1) (show (0) ≤ (0) ∨ (0) ≤ (4) from q_603) (show (x88_15) = (x88_15) + 4 * (0) from q_602) (j88_L) rfl
        as_aux_lemma =>
        intro m
        induction m using Nat.strongRecOn with
        | _ m ih100 =>
          intro ls σ F_100 A_100 x100_15 x100_18 l100_0 l100_1 l100_3 l100_4 l100_6 l100_8 l100_10 l100_12 l100_14 l100_15 l100_18 H hS_100 hA_100  w100_17 ew100_17 j100_0 j100_1 j100_2 j100_3 j100_4 j100_5 hm100
          refine Ew_of (pcₚ := 102) (fun _ => x_iload rfl l100_18) ?_
          refine Ew_of (pcₚ := 103) (fun _ => x_iconst rfl) ?_
          refine w_icmpge (t := 155) rfl rfl (show inr (x100_18) from j100_1) (show inr (4) from q_216) (fun b87 => ?_) (fun b87 => ?_)
          · refine Ew_of (pcₚ := 88) (fun _ => x_goto rfl rfl) ?_
            have : LQA ((w19)) ((a2)) ((a3) - (a2)) ((x100_15)) 0 ((w100_17)) := LQA_e j100_5 (by omega) (by omega)
            exact ih88 _ (msE hm88 (q_604 b87 j100_4) (q_354 b61)) _ σ _ _ (x100_15) (l100_0) (l100_1) (l100_3) (l100_4) (l100_6) (l100_8) (l100_10) (l100_12) (l100_14) (l100_15) H (SF_trans (hS_88) hS_100 (any_sub rfl)) (SA_trans (hA_88) hA_100 (any_subA rfl))  (w100_17) (ew100_17) (show inr (x100_15) from j100_0) (show (a2) ≤ (x100_15) ∧ (x100_15) ≤ (a3) by omega) (show ((x100_15) - (a2)) % 16 = 0 by omega) (show LQA ((w19)) ((a2)) ((a3) - (a2)) ((x100_15)) 0 ((w100_17)) by assumption) rfl
          · refine Ew_of (pcₚ := 107) (fun _ => x_aload_n rfl l100_0) ?_
            refine w_gT H (o := 3) (t := 17) rfl (H.perm 3 rfl) rfl rfl rfl rfl rfl rfl ?_
            refine Ew_of (pcₚ := 112) (fun _ => x_iload rfl l100_18) ?_
            refine Ew_of (pcₚ := 113) (fun _ => x_aload_n rfl l100_0) ?_
            refine w_gT H (o := 3) (t := 17) rfl (H.perm 3 rfl) rfl rfl rfl rfl rfl rfl ?_
            refine Ew_of (pcₚ := 118) (fun _ => x_iload rfl l100_18) ?_
            refine w_lJ H (o := 17) (n := 4) rfl (H.perm 17 rfl) rfl rfl (H.fix 17 rfl rfl) (show 0 ≤ x100_18 ∧ x100_18 < ((4 : Nat) : Int) from q_605 b87 j100_2) (by decide) (fun v88 ev88 qv88 => ?_)
            have qv88 : (-9223372036854775808 : Int) ≤ v88 ∧ v88 ≤ 9223372036854775807 := qv88
            have ev88 : (w100_17) (x100_18) = v88 := (congrFun (ew100_17) (x100_18)).symm.trans ev88
            have hlv := ev88
            refine Ew_of (pcₚ := 120) (fun _ => x_aload_n rfl l100_1) ?_
            refine Ew_of (pcₚ := 122) (fun _ => x_iload rfl l100_15) ?_
            refine w_stat24 rfl rfl (by rfl) (M358_19 H (w19) ((funext (hA_100 19 rfl)).trans ((funext (hA_88 19 rfl)).trans (ew19))) (show inr (x100_15) from j100_0) (show 0 ≤ (x100_15) ∧ (x100_15) + 3 < 70000 from q_606 b61 b87 h2 j100_2 j100_4 j88_1) (fun z93 σ F89 A90 H hS91 hA92 pz93_0 pz93_1 => ⟨rfl, ?_⟩))
            have hwd := pz93_1
            refine Ew_of (pcₚ := 127) (fun _ => x_lload rfl l100_6) ?_
            refine w_stat24 rfl rfl (by rfl) (M357 H (show inrJ (z93) from pz93_0) (show inrJ (2246822519) from q_572) (fun z98 σ F94 A95 H hS96 hA97 pz98_0 pz98_1 pz98_2 => ⟨rfl, ?_⟩))
            have ht1 := pz98_2 (wdI ((w19)) ((x100_15))) (-2048144777) (by rw [hwd]; exact wdI_m) (by decide)
            refine w_ladd rfl ?_
            refine Ew_of (pcₚ := 134) (fun _ => x_ldc2 (z := 4294967295) rfl (by decide)) ?_
            refine w_landE rfl ?_
            have g99 : inrJ (anJ ((v88 + z98)) (4294967295)) := toJ_inr _
            refine Ew_of (pcₚ := 137) (fun _ => x_bipush (z := 13) rfl (by decide)) ?_
            refine w_stat24 rfl rfl (by rfl) (M356 H (show inrJ ((anJ ((v88 + z98)) (4294967295))) from g99) (show inr (13) from q_350) (show 1 ≤ (13) ∧ (13) ≤ 31 from q_607) (fun z104 σ F100 A101 H hS102 hA103 pz104_0 pz104_1 pz104_2 => ⟨rfl, ?_⟩))
            have ht3 := pz104_2
            refine Ew_of (pcₚ := 142) (fun _ => x_lload rfl l100_4) ?_
            refine w_stat24 rfl rfl (by rfl) (M357 H (show inrJ (z104) from pz104_0) (show inrJ (2654435761) from q_578) (fun z109 σ F105 A106 H hS107 hA108 pz109_0 pz109_1 pz109_2 => ⟨rfl, ?_⟩))
            have ht4 := pz109_2
            refine w_sJ H (o := 17) (n := 4) rfl (H.perm 17 rfl) rfl rfl (H.fix 17 rfl rfl) (show 0 ≤ x100_18 ∧ x100_18 < ((4 : Nat) : Int) from q_605 b87 j100_2) (by decide) (show (-9223372036854775808 : Int) ≤ z109 ∧ z109 ≤ 9223372036854775807 by omega) (fun σ H => ?_)
            have hqa := LQA_s (k2 := (x100_18) + 1) (q := (x100_15)) j100_5 (by omega) (by omega) rfl (by omega) (fun x hx => stp_i (hlv.symm.trans hx) ht1 ht3 ht4 (y2 := -1640531535) (by decide))
            refine Ew_of (pcₚ := 149) (fun _ => x_iinc (len := 3) rfl (l100_15)) ?_
            refine Ew_of (pcₚ := 152) (fun _ => x_iinc (len := 3) rfl (rk_o (l100_18) rfl rfl)) ?_
            refine Ew_of (pcₚ := 100) (fun _ => x_goto rfl rfl) ?_
            exact ih100 _ (msE hm100 q_612 (q_613 b87)) _ σ _ _ ((x100_15 + 4)) ((x100_18 + 1)) (rk_o (rk_o (l100_0) rfl rfl) rfl rfl) (rk_o (rk_o (l100_1) rfl rfl) rfl rfl) (rk_o (rk_o (l100_3) rfl rfl) rfl rfl) (rk_o (rk_o (l100_4) rfl rfl) rfl rfl) (rk_o (rk_o (l100_6) rfl rfl) rfl rfl) (rk_o (rk_o (l100_8) rfl rfl) rfl rfl) (rk_o (rk_o (l100_10) rfl rfl) rfl rfl) (rk_o (rk_o (l100_12) rfl rfl) rfl rfl) (rk_o (rk_o (l100_14) rfl rfl) rfl rfl) (rk_o (rk_s) rfl rfl) (rk_s) H (SF_trans (SF_trans (SF_trans (SF_trans (hS_100) hS91 (any_sub rfl)) hS96 (any_sub rfl)) hS102 (any_sub rfl)) hS107 (any_sub rfl)) (SA_upd (SA_trans (SA_trans (SA_trans (SA_trans (hA_100) hA92 (any_subA rfl)) hA97 (any_subA rfl)) hA103 (any_subA rfl)) hA108 (any_subA rfl)) rfl)  (upd1 (w100_17) (x100_18) (z109)) (congrArg (fun q => upd1 q (x100_18) (z109)) ((funext (hA108 17 rfl)).trans ((funext (hA103 17 rfl)).trans ((funext (hA97 17 rfl)).trans ((funext (hA92 17 rfl)).trans (ew100_17)))))) (show inr ((x100_15 + 4)) from q_611 b61 b87 h2 j100_0 j100_4) (show inr ((x100_18 + 1)) from q_610 b87 j100_2) (show (0) ≤ ((x100_18 + 1)) from q_14 j100_2) (show ((x100_18 + 1)) ≤ (0) ∨ ((x100_18 + 1)) ≤ (4) from q_609 b87) (show ((x100_15 + 4)) = (x88_15) + 4 * ((x100_18 + 1)) from q_608 j100_4) (show LQA ((w19)) ((a2)) ((a3) - (a2)) ((x88_15)) (((x100_18 + 1))) ((upd1 (w100_17) (x100_18) (z109))) by assumption) rfl

theorem M359_20 {σ0 σ : rS} {D N : Nat → Nat} {F : hF} {A : hA} {d c s : Nat} {Q : wQ} (H : HS σ0 σ D N F A) {a2 a3 : Int} (w20 : Int → Int) (ew20 : A 20 = w20) (h0 : inr (a2)) (h1 : inr (a3)) (h2 : 0 ≤ (a2) ∧ (a2) ≤ (a3) ∧ (a3) ≤ 70000) (k : ∀ (z : Int) σ Fₚ Aₚ, HS σ0 σ D N Fₚ Aₚ → SF [] F Fₚ → SA [17] A Aₚ → (inrJ (z)) → (0 ≤ (z) ∧ (z) < 4294967296) → ((z) = NSM ((w20)) ((a2)) ((a3) - (a2)) 0 % 4294967296) → Q (some (J z)) σ c s) : Ew 359 (d + 1) 0 (rargs 0 [.ref (D 3), .ref (D 20), I a2, I a3]) [] σ c s Q := by
  refine Ew_of (pcₚ := 3) (fun _ => x_ldc2 (z := 2654435761) rfl (by decide)) ?_
  refine Ew_of (pcₚ := 5) (fun _ => x_lstore rfl) ?_
  refine Ew_of (pcₚ := 8) (fun _ => x_ldc2 (z := 2246822519) rfl (by decide)) ?_
  refine Ew_of (pcₚ := 10) (fun _ => x_lstore rfl) ?_
  refine Ew_of (pcₚ := 13) (fun _ => x_ldc2 (z := 3266489917) rfl (by decide)) ?_
  refine Ew_of (pcₚ := 15) (fun _ => x_lstore rfl) ?_
  refine Ew_of (pcₚ := 18) (fun _ => x_ldc2 (z := 668265263) rfl (by decide)) ?_
  refine Ew_of (pcₚ := 20) (fun _ => x_lstore rfl) ?_
  refine Ew_of (pcₚ := 23) (fun _ => x_ldc2 (z := 374761393) rfl (by decide)) ?_
  refine Ew_of (pcₚ := 25) (fun _ => x_lstore rfl) ?_
  refine Ew_of (pcₚ := 26) (fun _ => x_iload_n rfl (rk2_o (rk2_o (rk2_o (rk2_o (rk2_o (rfl) rfl rfl) rfl rfl) rfl rfl) rfl rfl) rfl rfl)) ?_
  refine Ew_of (pcₚ := 27) (fun _ => x_iload_n rfl (rk2_o (rk2_o (rk2_o (rk2_o (rk2_o (rfl) rfl rfl) rfl rfl) rfl rfl) rfl rfl) rfl rfl)) ?_
  refine w_isub rfl ?_
  refine Ew_of (pcₚ := 30) (fun _ => x_istore rfl) ?_
  refine Ew_of (pcₚ := 31) (fun _ => x_iload_n rfl (rk_o (rk2_o (rk2_o (rk2_o (rk2_o (rk2_o (rfl) rfl rfl) rfl rfl) rfl rfl) rfl rfl) rfl rfl) rfl rfl)) ?_
  refine Ew_of (pcₚ := 33) (fun _ => x_istore rfl) ?_
  refine Ew_of (pcₚ := 35) (fun _ => x_lload rfl (rk_o (rk_o (rk2_s) rfl rfl) rfl rfl)) ?_
  refine Ew_of (pcₚ := 37) (fun _ => x_lstore rfl) ?_
  have hc210 : ∀ (ls : rO) (σ : rS) (F_c210 : hF) (A_c210 : hA) (xc210_15 : Int) (xc210_16 : Int), rlook ls 1 = some (.ref (D 20)) → rlook ls 3 = some (I (a3)) → rlook ls 4 = some (J (2654435761)) → rlook ls 6 = some (J (2246822519)) → rlook ls 8 = some (J (3266489917)) → rlook ls 10 = some (J (668265263)) → rlook ls 12 = some (J (374761393)) → rlook ls 14 = some (I ((a3 - a2))) → rlook ls 15 = some (I (xc210_15)) → rlook ls 16 = some (J (xc210_16)) → HS σ0 σ D N F_c210 A_c210 → SF [] F F_c210 → SA [17] A A_c210 → (inr (xc210_15)) → (inrJ (xc210_16)) → ((a2) ≤ (xc210_15) ∧ (xc210_15) ≤ (a3)) → (NSm ((w20)) ((a2)) ((a3) - (a2)) 0 ((xc210_15)) ((xc210_16))) → Ew 359 (d + 1) 210 ls [] σ c s Q := by
   as_aux_lemma =>
    intro  ls σ F_c210 A_c210 xc210_15 xc210_16 lc210_1 lc210_3 lc210_4 lc210_6 lc210_8 lc210_10 lc210_12 lc210_14 lc210_15 lc210_16 H hS_c210 hA_c210   jc210_0 jc210_1 jc210_2 jc210_3
    have hcN : NSm ((w20)) ((a2)) ((a3) - (a2)) 0 ((xc210_15)) ((xc210_16)) := jc210_3
    refine Ew_of (pcₚ := 212) (fun _ => x_lload rfl lc210_16) ?_
    refine Ew_of (pcₚ := 214) (fun _ => x_iload rfl lc210_14) ?_
    refine w_i2l rfl (show inr ((a3 - a2)) from q_570 h2) ?_
    refine w_ladd rfl ?_
    refine Ew_of (pcₚ := 219) (fun _ => x_ldc2 (z := 4294967295) rfl (by decide)) ?_
    refine w_landE rfl ?_
    have g1 : inrJ (anJ ((xc210_16 + (a3 - a2))) (4294967295)) := toJ_inr _
    refine Ew_of (pcₚ := 222) (fun _ => x_lstore rfl) ?_
    obtain ⟨xh0, hc1, hc2⟩ := hcN
    have hc1p := hc1.1
    have : ∃ xp xh x, NS1 ((w20)) ((a2)) ((a3) - (a2)) 0 xp xh ∧ ((anJ ((xc210_16 + (a3 - a2))) (4294967295))) = x % 4294967296 ∧ nS4n ((w20)) xp (((a3) - (a2)) % 16 / 4).toNat (adI xh ((a3) - (a2))) = nS4n ((w20)) ((xc210_15)) (((a3) - (xc210_15)) / 4).toNat x := ⟨(xc210_15), xh0, adI xh0 ((a3) - (a2)), hc1, by rw [anM, hc2, adI_m]; omega, by rw [show ((a3) - (a2)) % 16 / 4 = ((a3) - (xc210_15)) / 4 by omega]⟩
    suffices hl222 : ∀ (m : Nat), ∀ (ls : rO) (σ : rS) (F_222 : hF) (A_222 : hA) (x222_15 : Int) (x222_16 : Int), rlook ls 1 = some (.ref (D 20)) → rlook ls 3 = some (I (a3)) → rlook ls 4 = some (J (2654435761)) → rlook ls 6 = some (J (2246822519)) → rlook ls 8 = some (J (3266489917)) → rlook ls 10 = some (J (668265263)) → rlook ls 12 = some (J (374761393)) → rlook ls 15 = some (I (x222_15)) → rlook ls 16 = some (J (x222_16)) → HS σ0 σ D N F_222 A_222 → SF [] F_c210 F_222 → SA [] A_c210 A_222 → (inr (x222_15)) → (inrJ (x222_16)) → ((a2) ≤ (x222_15) ∧ (x222_15) ≤ (a3)) → (((a3) - (x222_15)) % 4 = ((a3) - (a2)) % 4) → (∃ xp xh x, NS1 ((w20)) ((a2)) ((a3) - (a2)) 0 xp xh ∧ (x222_16) = x % 4294967296 ∧ nS4n ((w20)) xp (((a3) - (a2)) % 16 / 4).toNat (adI xh ((a3) - (a2))) = nS4n ((w20)) ((x222_15)) (((a3) - (x222_15)) / 4).toNat x) → ((a3) - (x222_15)).toNat = m → Ew 359 (d + 1) 222 ls [] σ c s Q from
      hl222 _ _ σ _ _ (xc210_15) ((anJ ((xc210_16 + (a3 - a2))) (4294967295))) (rk2_o (lc210_1) rfl rfl) (rk2_o (lc210_3) rfl rfl) (rk2_o (lc210_4) rfl rfl) (rk2_o (lc210_6) rfl rfl) (rk2_o (lc210_8) rfl rfl) (rk2_o (lc210_10) rfl rfl) (rk2_o (lc210_12) rfl rfl) (rk2_o (lc210_15) rfl rfl) (rk2_s) H (SF_refl) (SA_refl)   (show inr (xc210_15) from jc210_0) (show inrJ ((anJ ((xc210_16 + (a3 - a2))) (4294967295))) from g1) (show (a2) ≤ (xc210_15) ∧ (xc210_15) ≤ (a3) from jc210_2) (show ((a3) - (xc210_15)) % 4 = ((a3) - (a2)) % 4 by omega) (show ∃ xp xh x, NS1 ((w20)) ((a2)) ((a3) - (a2)) 0 xp xh ∧ ((anJ ((xc210_16 + (a3 - a2))) (4294967295))) = x % 4294967296 ∧ nS4n ((w20)) xp (((a3) - (a2)) % 16 / 4).toNat (adI xh ((a3) - (a2))) = nS4n ((w20)) ((xc210_15)) (((a3) - (xc210_15)) / 4).toNat x by assumption) rfl
    as_aux_lemma =>
    intro m
    induction m using Nat.strongRecOn with
    | _ m ih222 =>
      intro ls σ F_222 A_222 x222_15 x222_16 l222_1 l222_3 l222_4 l222_6 l222_8 l222_10 l222_12 l222_15 l222_16 H hS_222 hA_222   j222_0 j222_1 j222_2 j222_3 j222_4 hm222
      have j222_q : ∃ xp xh x, NS1 ((w20)) ((a2)) ((a3) - (a2)) 0 xp xh ∧ (x222_16) = x % 4294967296 ∧ nS4n ((w20)) xp (((a3) - (a2)) % 16 / 4).toNat (adI xh ((a3) - (a2))) = nS4n ((w20)) ((x222_15)) (((a3) - (x222_15)) / 4).toNat x := by assumption
      refine Ew_of (pcₚ := 223) (fun _ => x_iload_n rfl l222_3) ?_
      refine Ew_of (pcₚ := 225) (fun _ => x_iload rfl l222_15) ?_
      refine w_isub rfl ?_
      refine Ew_of (pcₚ := 227) (fun _ => x_iconst rfl) ?_
      refine w_icmplt (t := 266) rfl rfl (show inr ((a3 - x222_15)) from q_571 h2 j222_2) (show inr (4) from q_216) (fun b2 => ?_) (fun b2 => ?_)
      · have : ∃ xp xh x, NS1 ((w20)) ((a2)) ((a3) - (a2)) 0 xp xh ∧ (x222_16) = x % 4294967296 ∧ nS1n ((w20)) ((a3) - ((a3) - (a2)) % 4) (((a3) - (a2)) % 4).toNat (nS4n ((w20)) xp (((a3) - (a2)) % 16 / 4).toNat (adI xh ((a3) - (a2)))) = nS1n ((w20)) ((x222_15)) ((a3) - (x222_15)).toNat x := by obtain ⟨xp, xh, x, q1, q2, q3⟩ := j222_q; refine ⟨xp, xh, x, q1, q2, ?_⟩; rw [q3, nS4n_0 (by omega), show (a3) - ((a3) - (a2)) % 4 = (x222_15) by omega, show ((a3) - (a2)) % 4 = (a3) - (x222_15) by omega]
        suffices hl266 : ∀ (m : Nat), ∀ (ls : rO) (σ : rS) (F_266 : hF) (A_266 : hA) (x266_15 : Int) (x266_16 : Int), rlook ls 1 = some (.ref (D 20)) → rlook ls 3 = some (I (a3)) → rlook ls 4 = some (J (2654435761)) → rlook ls 6 = some (J (2246822519)) → rlook ls 8 = some (J (3266489917)) → rlook ls 12 = some (J (374761393)) → rlook ls 15 = some (I (x266_15)) → rlook ls 16 = some (J (x266_16)) → HS σ0 σ D N F_266 A_266 → SF [] F_222 F_266 → SA [] A_222 A_266 → (inr (x266_15)) → (inrJ (x266_16)) → ((x222_15) ≤ (x266_15)) → ((x266_15) ≤ (x222_15) ∨ (x266_15) ≤ ((a3))) → (∃ xp xh x, NS1 ((w20)) ((a2)) ((a3) - (a2)) 0 xp xh ∧ (x266_16) = x % 4294967296 ∧ nS1n ((w20)) ((a3) - ((a3) - (a2)) % 4) (((a3) - (a2)) % 4).toNat (nS4n ((w20)) xp (((a3) - (a2)) % 16 / 4).toNat (adI xh ((a3) - (a2)))) = nS1n ((w20)) ((x266_15)) ((a3) - (x266_15)).toNat x) → (((a3)) - (x266_15)).toNat = m → Ew 359 (d + 1) 266 ls [] σ c s Q from
          hl266 _ _ σ _ _ (x222_15) (x222_16) (l222_1) (l222_3) (l222_4) (l222_6) (l222_8) (l222_12) (l222_15) (l222_16) H (SF_refl) (SA_refl)   (show inr (x222_15) from j222_0) (show inrJ (x222_16) from j222_1) (show (x222_15) ≤ (x222_15) from q_43) (show (x222_15) ≤ (x222_15) ∨ (x222_15) ≤ ((a3)) from q_156) (show ∃ xp xh x, NS1 ((w20)) ((a2)) ((a3) - (a2)) 0 xp xh ∧ (x222_16) = x % 4294967296 ∧ nS1n ((w20)) ((a3) - ((a3) - (a2)) % 4) (((a3) - (a2)) % 4).toNat (nS4n ((w20)) xp (((a3) - (a2)) % 16 / 4).toNat (adI xh ((a3) - (a2)))) = nS1n ((w20)) ((x222_15)) ((a3) - (x222_15)).toNat x by assumption) rfl
        as_aux_lemma =>
        intro m
        induction m using Nat.strongRecOn with
        | _ m ih266 =>
          intro ls σ F_266 A_266 x266_15 x266_16 l266_1 l266_3 l266_4 l266_6 l266_8 l266_12 l266_15 l266_16 H hS_266 hA_266   j266_0 j266_1 j266_2 j266_3 j266_4 hm266
          have j266_q : ∃ xp xh x, NS1 ((w20)) ((a2)) ((a3) - (a2)) 0 xp xh ∧ (x266_16) = x % 4294967296 ∧ nS1n ((w20)) ((a3) - ((a3) - (a2)) % 4) (((a3) - (a2)) % 4).toNat (nS4n ((w20)) xp (((a3) - (a2)) % 16 / 4).toNat (adI xh ((a3) - (a2)))) = nS1n ((w20)) ((x266_15)) ((a3) - (x266_15)).toNat x := by assumption
          refine Ew_of (pcₚ := 268) (fun _ => x_iload rfl l266_15) ?_
          refine Ew_of (pcₚ := 269) (fun _ => x_iload_n rfl l266_3) ?_
          refine w_icmpge (t := 307) rfl rfl (show inr (x266_15) from j266_0) (show inr (a3) from h1) (fun b3 => ?_) (fun b3 => ?_)
          · obtain ⟨xp_, xh_, x_, q1_, q2_, q3_⟩ := j266_q
            rw [nS1n_0 (k := ((a3) - (x266_15)).toNat) (by omega), show (a3) - ((a3) - (a2)) % 4 = (a2) + ((a3) - (a2)) - ((a3) - (a2)) % 4 by omega] at q3_
            refine Ew_of (pcₚ := 309) (fun _ => x_lload rfl l266_16) ?_
            refine Ew_of (pcₚ := 311) (fun _ => x_lload rfl l266_16) ?_
            refine Ew_of (pcₚ := 313) (fun _ => x_bipush (z := 15) rfl (by decide)) ?_
            refine w_lshrE rfl ?_
            have g4 : inrJ (srJ (x266_16) (15)) := toJ_inr _
            refine w_lxorE rfl ?_
            have g5 : inrJ (xoJ (x266_16) ((srJ (x266_16) (15)))) := toJ_inr _
            have hx1 : ((xoJ (x266_16) ((srJ (x266_16) (15))))) = xoI x_ (usI x_ 15) % 4294967296 := xo_i q2_ (by omega)
            refine Ew_of (pcₚ := 317) (fun _ => x_lload rfl l266_6) ?_
            refine w_stat24 rfl rfl (by rfl) (M357 H (show inrJ ((xoJ (x266_16) ((srJ (x266_16) (15))))) from g5) (show inrJ (2246822519) from q_572) (fun z10 σ F6 A7 H hS8 hA9 pz10_0 pz10_1 pz10_2 => ⟨rfl, ?_⟩))
            have hm1 := pz10_2 (xoI x_ (usI x_ 15)) (-2048144777) hx1 (by decide)
            refine Ew_of (pcₚ := 322) (fun _ => x_lstore rfl) ?_
            refine Ew_of (pcₚ := 324) (fun _ => x_lload rfl rk2_s) ?_
            refine Ew_of (pcₚ := 326) (fun _ => x_lload rfl rk2_s) ?_
            refine Ew_of (pcₚ := 328) (fun _ => x_bipush (z := 13) rfl (by decide)) ?_
            refine w_lshrE rfl ?_
            have g11 : inrJ (srJ (z10) (13)) := toJ_inr _
            refine w_lxorE rfl ?_
            have g12 : inrJ (xoJ (z10) ((srJ (z10) (13)))) := toJ_inr _
            have hx2 := xo_i hm1 (k := 13) (by omega)
            refine Ew_of (pcₚ := 332) (fun _ => x_lload rfl (rk2_o (l266_8) rfl rfl)) ?_
            refine w_stat24 rfl rfl (by rfl) (M357 H (show inrJ ((xoJ (z10) ((srJ (z10) (13))))) from g12) (show inrJ (3266489917) from q_573) (fun z17 σ F13 A14 H hS15 hA16 pz17_0 pz17_1 pz17_2 => ⟨rfl, ?_⟩))
            have hm2 := pz17_2 _ (-1028477379) hx2 (by decide)
            refine Ew_of (pcₚ := 337) (fun _ => x_lstore rfl) ?_
            refine Ew_of (pcₚ := 339) (fun _ => x_lload rfl rk2_s) ?_
            refine Ew_of (pcₚ := 341) (fun _ => x_lload rfl rk2_s) ?_
            refine Ew_of (pcₚ := 343) (fun _ => x_bipush (z := 16) rfl (by decide)) ?_
            refine w_lshrE rfl ?_
            have g18 : inrJ (srJ (z17) (16)) := toJ_inr _
            refine w_lxorE rfl ?_
            have g19 : inrJ (xoJ (z17) ((srJ (z17) (16)))) := toJ_inr _
            have hx3 := xo_i hm2 (k := 16) (by omega)
            have : ((xoJ (z17) ((srJ (z17) (16))))) = NSM ((w20)) ((a2)) ((a3) - (a2)) 0 % 4294967296 := by rw [← NSM_of q1_ rfl rfl q3_]; exact hx3
            have : 0 ≤ ((xoJ (z17) ((srJ (z17) (16))))) ∧ ((xoJ (z17) ((srJ (z17) (16))))) < 4294967296 := rng_m hx3
            exact w_lreturn rfl (k ((xoJ (z17) ((srJ (z17) (16))))) σ _ _ H (SF_trans (SF_trans (SF_trans (SF_trans (SF_trans (SF_refl) hS_c210 (any_sub rfl)) hS_222 (any_sub rfl)) hS_266 (any_sub rfl)) hS8 (any_sub rfl)) hS15 (any_sub rfl)) (SA_trans (SA_trans (SA_trans (SA_trans (SA_trans (SA_refl) hA_c210 (any_subA rfl)) hA_222 (any_subA rfl)) hA_266 (any_subA rfl)) hA9 (any_subA rfl)) hA16 (any_subA rfl)) (show inrJ ((xoJ (z17) ((srJ (z17) (16))))) from g19) (show 0 ≤ ((xoJ (z17) ((srJ (z17) (16))))) ∧ ((xoJ (z17) ((srJ (z17) (16))))) < 4294967296 by omega) (show ((xoJ (z17) ((srJ (z17) (16))))) = NSM ((w20)) (a2) (a3 - a2) 0 % 4294967296 by assumption))
          · refine Ew_of (pcₚ := 274) (fun _ => x_lload rfl l266_16) ?_
            refine Ew_of (pcₚ := 275) (fun _ => x_aload_n rfl l266_1) ?_
            refine Ew_of (pcₚ := 277) (fun _ => x_iload rfl l266_15) ?_
            refine w_lI H (o := 20) (n := 70000) rfl (H.perm 20 rfl) rfl rfl (H.fix 20 rfl rfl) (show 0 ≤ x266_15 ∧ x266_15 < ((70000 : Nat) : Int) from q_574 b3 h2 j222_2 j266_2) (by decide) (fun v20 ev20 qv20 => ?_)
            have qv20 : (0 : Int) ≤ v20 ∧ v20 ≤ 255 := qv20
            have ev20 : (w20) (x266_15) = v20 := (congrFun ((funext (hA_266 20 rfl)).trans ((funext (hA_222 20 rfl)).trans ((funext (hA_c210 20 rfl)).trans (ew20)))) (x266_15)).symm.trans ev20
            have hvb := ev20
            refine w_i2l rfl (show inr (v20) from q_299 qv20) ?_
            refine Ew_of (pcₚ := 281) (fun _ => x_lload rfl l266_12) ?_
            refine w_stat24 rfl rfl (by rfl) (M357 H (show inrJ (v20) from q_576 qv20) (show inrJ (374761393) from q_575) (fun z25 σ F21 A22 H hS23 hA24 pz25_0 pz25_1 pz25_2 => ⟨rfl, ?_⟩))
            have hs1 := pz25_2 (u8 (((w20)) ((x266_15)))) 374761393 (by rw [hvb, u8_id (by omega)]; omega) (by decide)
            refine w_ladd rfl ?_
            refine Ew_of (pcₚ := 288) (fun _ => x_ldc2 (z := 4294967295) rfl (by decide)) ?_
            refine w_landE rfl ?_
            have g26 : inrJ (anJ ((x266_16 + z25)) (4294967295)) := toJ_inr _
            refine Ew_of (pcₚ := 291) (fun _ => x_bipush (z := 11) rfl (by decide)) ?_
            refine w_stat24 rfl rfl (by rfl) (M356 H (show inrJ ((anJ ((x266_16 + z25)) (4294967295))) from g26) (show inr (11) from q_326) (show 1 ≤ (11) ∧ (11) ≤ 31 from q_577) (fun z31 σ F27 A28 H hS29 hA30 pz31_0 pz31_1 pz31_2 => ⟨rfl, ?_⟩))
            have hs3 := pz31_2
            refine Ew_of (pcₚ := 296) (fun _ => x_lload rfl l266_4) ?_
            refine w_stat24 rfl rfl (by rfl) (M357 H (show inrJ (z31) from pz31_0) (show inrJ (2654435761) from q_578) (fun z36 σ F32 A33 H hS34 hA35 pz36_0 pz36_1 pz36_2 => ⟨rfl, ?_⟩))
            have hs4 := pz36_2
            refine Ew_of (pcₚ := 301) (fun _ => x_lstore rfl) ?_
            refine Ew_of (pcₚ := 304) (fun _ => x_iinc (len := 3) rfl (rk2_o (l266_15) rfl rfl)) ?_
            refine Ew_of (pcₚ := 266) (fun _ => x_goto rfl rfl) ?_
            have : ∃ xp xh x, NS1 ((w20)) ((a2)) ((a3) - (a2)) 0 xp xh ∧ (z36) = x % 4294967296 ∧ nS1n ((w20)) ((a3) - ((a3) - (a2)) % 4) (((a3) - (a2)) % 4).toNat (nS4n ((w20)) xp (((a3) - (a2)) % 16 / 4).toNat (adI xh ((a3) - (a2)))) = nS1n ((w20)) (((x266_15 + 1))) ((a3) - ((x266_15 + 1))).toNat x := by obtain ⟨xp, xh, x, q1, q2, q3⟩ := j266_q; exact ⟨xp, xh, _, q1, stp_i q2 hs1 hs3 hs4 (y2 := -1640531535) (by decide), q3.trans (nS1n_s (by omega) rfl (by omega))⟩
            exact ih266 _ (msE hm266 q_16 (q_17 b3)) _ σ _ _ ((x266_15 + 1)) (z36) (rk_o (rk2_o (l266_1) rfl rfl) rfl rfl) (rk_o (rk2_o (l266_3) rfl rfl) rfl rfl) (rk_o (rk2_o (l266_4) rfl rfl) rfl rfl) (rk_o (rk2_o (l266_6) rfl rfl) rfl rfl) (rk_o (rk2_o (l266_8) rfl rfl) rfl rfl) (rk_o (rk2_o (l266_12) rfl rfl) rfl rfl) (rk_s) (rk_o (rk2_s) rfl rfl) H (SF_trans (SF_trans (SF_trans (hS_266) hS23 (any_sub rfl)) hS29 (any_sub rfl)) hS34 (any_sub rfl)) (SA_trans (SA_trans (SA_trans (hA_266) hA24 (any_subA rfl)) hA30 (any_subA rfl)) hA35 (any_subA rfl))   (show inr ((x266_15 + 1)) from q_579 b3 h2 j266_0) (show inrJ (z36) from pz36_0) (show (x222_15) ≤ ((x266_15 + 1)) from q_161 j266_2) (show ((x266_15 + 1)) ≤ (x222_15) ∨ ((x266_15 + 1)) ≤ ((a3)) from q_160 b3) (show ∃ xp xh x, NS1 ((w20)) ((a2)) ((a3) - (a2)) 0 xp xh ∧ (z36) = x % 4294967296 ∧ nS1n ((w20)) ((a3) - ((a3) - (a2)) % 4) (((a3) - (a2)) % 4).toNat (nS4n ((w20)) xp (((a3) - (a2)) % 16 / 4).toNat (adI xh ((a3) - (a2)))) = nS1n ((w20)) (((x266_15 + 1))) ((a3) - ((x266_15 + 1))).toNat x by assumption) rfl
      · refine Ew_of (pcₚ := 232) (fun _ => x_lload rfl l222_16) ?_
        refine Ew_of (pcₚ := 233) (fun _ => x_aload_n rfl l222_1) ?_
        refine Ew_of (pcₚ := 235) (fun _ => x_iload rfl l222_15) ?_
        refine w_stat24 rfl rfl (by rfl) (M358_20 H (w20) ((funext (hA_222 20 rfl)).trans ((funext (hA_c210 20 rfl)).trans (ew20))) (show inr (x222_15) from j222_0) (show 0 ≤ (x222_15) ∧ (x222_15) + 3 < 70000 from q_580 b2 h2 j222_2) (fun z41 σ F37 A38 H hS39 hA40 pz41_0 pz41_1 => ⟨rfl, ?_⟩))
        have hwd2 := pz41_1
        refine Ew_of (pcₚ := 240) (fun _ => x_lload rfl l222_8) ?_
        refine w_stat24 rfl rfl (by rfl) (M357 H (show inrJ (z41) from pz41_0) (show inrJ (3266489917) from q_573) (fun z46 σ F42 A43 H hS44 hA45 pz46_0 pz46_1 pz46_2 => ⟨rfl, ?_⟩))
        have hu1 := pz46_2 (wdI ((w20)) ((x222_15))) (-1028477379) (by rw [hwd2]; exact wdI_m) (by decide)
        refine w_ladd rfl ?_
        refine Ew_of (pcₚ := 247) (fun _ => x_ldc2 (z := 4294967295) rfl (by decide)) ?_
        refine w_landE rfl ?_
        have g47 : inrJ (anJ ((x222_16 + z46)) (4294967295)) := toJ_inr _
        refine Ew_of (pcₚ := 250) (fun _ => x_bipush (z := 17) rfl (by decide)) ?_
        refine w_stat24 rfl rfl (by rfl) (M356 H (show inrJ ((anJ ((x222_16 + z46)) (4294967295))) from g47) (show inr (17) from q_582) (show 1 ≤ (17) ∧ (17) ≤ 31 from q_581) (fun z52 σ F48 A49 H hS50 hA51 pz52_0 pz52_1 pz52_2 => ⟨rfl, ?_⟩))
        have hu3 := pz52_2
        refine Ew_of (pcₚ := 255) (fun _ => x_lload rfl l222_10) ?_
        refine w_stat24 rfl rfl (by rfl) (M357 H (show inrJ (z52) from pz52_0) (show inrJ (668265263) from q_583) (fun z57 σ F53 A54 H hS55 hA56 pz57_0 pz57_1 pz57_2 => ⟨rfl, ?_⟩))
        have hu4 := pz57_2
        refine Ew_of (pcₚ := 260) (fun _ => x_lstore rfl) ?_
        refine Ew_of (pcₚ := 263) (fun _ => x_iinc (len := 3) rfl (rk2_o (l222_15) rfl rfl)) ?_
        refine Ew_of (pcₚ := 222) (fun _ => x_goto rfl rfl) ?_
        have : ∃ xp xh x, NS1 ((w20)) ((a2)) ((a3) - (a2)) 0 xp xh ∧ (z57) = x % 4294967296 ∧ nS4n ((w20)) xp (((a3) - (a2)) % 16 / 4).toNat (adI xh ((a3) - (a2))) = nS4n ((w20)) (((x222_15 + 4))) (((a3) - ((x222_15 + 4))) / 4).toNat x := by obtain ⟨xp, xh, x, q1, q2, q3⟩ := j222_q; exact ⟨xp, xh, _, q1, stp_i q2 hu1 hu3 hu4 (y2 := 668265263) (by decide), q3.trans (nS4n_s (by omega) rfl (by omega))⟩
        exact ih222 _ (msE hm222 q_586 (q_587 b2)) _ σ _ _ ((x222_15 + 4)) (z57) (rk_o (rk2_o (l222_1) rfl rfl) rfl rfl) (rk_o (rk2_o (l222_3) rfl rfl) rfl rfl) (rk_o (rk2_o (l222_4) rfl rfl) rfl rfl) (rk_o (rk2_o (l222_6) rfl rfl) rfl rfl) (rk_o (rk2_o (l222_8) rfl rfl) rfl rfl) (rk_o (rk2_o (l222_10) rfl rfl) rfl rfl) (rk_o (rk2_o (l222_12) rfl rfl) rfl rfl) (rk_s) (rk_o (rk2_s) rfl rfl) H (SF_trans (SF_trans (SF_trans (SF_trans (hS_222) hS39 (any_sub rfl)) hS44 (any_sub rfl)) hS50 (any_sub rfl)) hS55 (any_sub rfl)) (SA_trans (SA_trans (SA_trans (SA_trans (hA_222) hA40 (any_subA rfl)) hA45 (any_subA rfl)) hA51 (any_subA rfl)) hA56 (any_subA rfl))   (show inr ((x222_15 + 4)) from q_585 b2 h2 j222_0) (show inrJ (z57) from pz57_0) (show (a2) ≤ ((x222_15 + 4)) ∧ ((x222_15 + 4)) ≤ (a3) from q_584 b2 j222_2) (show ((a3) - ((x222_15 + 4))) % 4 = ((a3) - (a2)) % 4 by omega) (show ∃ xp xh x, NS1 ((w20)) ((a2)) ((a3) - (a2)) 0 xp xh ∧ (z57) = x % 4294967296 ∧ nS4n ((w20)) xp (((a3) - (a2)) % 16 / 4).toNat (adI xh ((a3) - (a2))) = nS4n ((w20)) (((x222_15 + 4))) (((a3) - ((x222_15 + 4))) / 4).toNat x by assumption) rfl
  refine Ew_of (pcₚ := 39) (fun _ => x_iload rfl (rk2_o (rk_o (rk_s) rfl rfl) rfl rfl)) ?_
  refine Ew_of (pcₚ := 41) (fun _ => x_bipush (z := 16) rfl (by decide)) ?_
  refine w_icmplt (t := 210) rfl rfl (show inr ((a3 - a2)) from q_570 h2) (show inr (16) from q_345) (fun b58 => ?_) (fun b58 => ?_)
  · have : NSm ((w20)) ((a2)) ((a3) - (a2)) 0 ((a2)) ((374761393)) := by first | exact hNS | exact NSm_n (by omega) (by omega) (by omega) (by rfl)
    exact hc210  _ σ _ _ (a2) (374761393) (rk2_o (rk_o (rk_o (rk2_o (rk2_o (rk2_o (rk2_o (rk2_o (rfl) rfl rfl) rfl rfl) rfl rfl) rfl rfl) rfl rfl) rfl rfl) rfl rfl) rfl rfl) (rk2_o (rk_o (rk_o (rk2_o (rk2_o (rk2_o (rk2_o (rk2_o (rfl) rfl rfl) rfl rfl) rfl rfl) rfl rfl) rfl rfl) rfl rfl) rfl rfl) rfl rfl) (rk2_o (rk_o (rk_o (rk2_o (rk2_o (rk2_o (rk2_o (rk2_s) rfl rfl) rfl rfl) rfl rfl) rfl rfl) rfl rfl) rfl rfl) rfl rfl) (rk2_o (rk_o (rk_o (rk2_o (rk2_o (rk2_o (rk2_s) rfl rfl) rfl rfl) rfl rfl) rfl rfl) rfl rfl) rfl rfl) (rk2_o (rk_o (rk_o (rk2_o (rk2_o (rk2_s) rfl rfl) rfl rfl) rfl rfl) rfl rfl) rfl rfl) (rk2_o (rk_o (rk_o (rk2_o (rk2_s) rfl rfl) rfl rfl) rfl rfl) rfl rfl) (rk2_o (rk_o (rk_o (rk2_s) rfl rfl) rfl rfl) rfl rfl) (rk2_o (rk_o (rk_s) rfl rfl) rfl rfl) (rk2_o (rk_s) rfl rfl) (rk2_s) H (SF_refl) (SA_refl)   (show inr (a2) from h0) (show inrJ (374761393) from q_575) (show (a2) ≤ (a2) ∧ (a2) ≤ (a3) from q_588 h2) (show NSm ((w20)) ((a2)) ((a3) - (a2)) 0 ((a2)) ((374761393)) by assumption)
  · refine Ew_of (pcₚ := 45) (fun _ => x_aload_n rfl (rk2_o (rk_o (rk_o (rk2_o (rk2_o (rk2_o (rk2_o (rk2_o (rfl) rfl rfl) rfl rfl) rfl rfl) rfl rfl) rfl rfl) rfl rfl) rfl rfl) rfl rfl)) ?_
    refine w_gT H (o := 3) (t := 17) rfl (H.perm 3 rfl) rfl rfl rfl rfl rfl rfl ?_
    refine Ew_of (pcₚ := 49) (fun _ => x_iconst rfl) ?_
    refine Ew_of (pcₚ := 51) (fun _ => x_lload rfl (rk2_o (rk_o (rk_o (rk2_o (rk2_o (rk2_o (rk2_o (rk2_s) rfl rfl) rfl rfl) rfl rfl) rfl rfl) rfl rfl) rfl rfl) rfl rfl)) ?_
    refine Ew_of (pcₚ := 53) (fun _ => x_lload rfl (rk2_o (rk_o (rk_o (rk2_o (rk2_o (rk2_o (rk2_s) rfl rfl) rfl rfl) rfl rfl) rfl rfl) rfl rfl) rfl rfl)) ?_
    refine w_ladd rfl ?_
    refine Ew_of (pcₚ := 57) (fun _ => x_ldc2 (z := 4294967295) rfl (by decide)) ?_
    refine w_landE rfl ?_
    have g59 : inrJ (anJ ((2654435761 + 2246822519)) (4294967295)) := toJ_inr _
    refine w_sJ H (o := 17) (n := 4) rfl (H.perm 17 rfl) rfl rfl (H.fix 17 rfl rfl) (show 0 ≤ 0 ∧ 0 < ((4 : Nat) : Int) from q_589) (by decide) (show (-9223372036854775808 : Int) ≤ (anJ ((2654435761 + 2246822519)) (4294967295)) ∧ (anJ ((2654435761 + 2246822519)) (4294967295)) ≤ 9223372036854775807 by omega) (fun σ H => ?_)
    refine Ew_of (pcₚ := 60) (fun _ => x_aload_n rfl (rk2_o (rk_o (rk_o (rk2_o (rk2_o (rk2_o (rk2_o (rk2_o (rfl) rfl rfl) rfl rfl) rfl rfl) rfl rfl) rfl rfl) rfl rfl) rfl rfl) rfl rfl)) ?_
    refine w_gT H (o := 3) (t := 17) rfl (H.perm 3 rfl) rfl rfl rfl rfl rfl rfl ?_
    refine Ew_of (pcₚ := 64) (fun _ => x_iconst rfl) ?_
    refine Ew_of (pcₚ := 66) (fun _ => x_lload rfl (rk2_o (rk_o (rk_o (rk2_o (rk2_o (rk2_o (rk2_s) rfl rfl) rfl rfl) rfl rfl) rfl rfl) rfl rfl) rfl rfl)) ?_
    refine w_sJ H (o := 17) (n := 4) rfl (H.perm 17 rfl) rfl rfl (H.fix 17 rfl rfl) (show 0 ≤ 1 ∧ 1 < ((4 : Nat) : Int) from q_591) (by decide) (show (-9223372036854775808 : Int) ≤ 2246822519 ∧ 2246822519 ≤ 9223372036854775807 from q_590) (fun σ H => ?_)
    refine Ew_of (pcₚ := 68) (fun _ => x_aload_n rfl (rk2_o (rk_o (rk_o (rk2_o (rk2_o (rk2_o (rk2_o (rk2_o (rfl) rfl rfl) rfl rfl) rfl rfl) rfl rfl) rfl rfl) rfl rfl) rfl rfl) rfl rfl)) ?_
    refine w_gT H (o := 3) (t := 17) rfl (H.perm 3 rfl) rfl rfl rfl rfl rfl rfl ?_
    refine Ew_of (pcₚ := 72) (fun _ => x_iconst rfl) ?_
    refine Ew_of (pcₚ := 73) (fun _ => x_lconst (z := 0) rfl (by decide)) ?_
    refine w_sJ H (o := 17) (n := 4) rfl (H.perm 17 rfl) rfl rfl (H.fix 17 rfl rfl) (show 0 ≤ 2 ∧ 2 < ((4 : Nat) : Int) from q_593) (by decide) (show (-9223372036854775808 : Int) ≤ 0 ∧ 0 ≤ 9223372036854775807 from q_592) (fun σ H => ?_)
    refine Ew_of (pcₚ := 75) (fun _ => x_aload_n rfl (rk2_o (rk_o (rk_o (rk2_o (rk2_o (rk2_o (rk2_o (rk2_o (rfl) rfl rfl) rfl rfl) rfl rfl) rfl rfl) rfl rfl) rfl rfl) rfl rfl) rfl rfl)) ?_
    refine w_gT H (o := 3) (t := 17) rfl (H.perm 3 rfl) rfl rfl rfl rfl rfl rfl ?_
    refine Ew_of (pcₚ := 79) (fun _ => x_iconst rfl) ?_
    refine Ew_of (pcₚ := 80) (fun _ => x_lconst (z := 0) rfl (by decide)) ?_
    refine Ew_of (pcₚ := 82) (fun _ => x_lload rfl (rk2_o (rk_o (rk_o (rk2_o (rk2_o (rk2_o (rk2_o (rk2_s) rfl rfl) rfl rfl) rfl rfl) rfl rfl) rfl rfl) rfl rfl) rfl rfl)) ?_
    refine w_lsub rfl ?_
    refine Ew_of (pcₚ := 86) (fun _ => x_ldc2 (z := 4294967295) rfl (by decide)) ?_
    refine w_landE rfl ?_
    have g60 : inrJ (anJ ((0 - 2654435761)) (4294967295)) := toJ_inr _
    refine w_sJ H (o := 17) (n := 4) rfl (H.perm 17 rfl) rfl rfl (H.fix 17 rfl rfl) (show 0 ≤ 3 ∧ 3 < ((4 : Nat) : Int) from q_594) (by decide) (show (-9223372036854775808 : Int) ≤ (anJ ((0 - 2654435761)) (4294967295)) ∧ (anJ ((0 - 2654435761)) (4294967295)) ≤ 9223372036854775807 by omega) (fun σ H => ?_)
    have : LQA ((w20)) ((a2)) ((a3) - (a2)) ((a2)) 0 ((upd1 (upd1 (upd1 (upd1 (A 17) (0) ((anJ ((2654435761 + 2246822519)) (4294967295)))) (1) (2246822519)) (2) (0)) (3) ((anJ ((0 - 2654435761)) (4294967295))))) := LQA_i rfl
    suffices hl88 : ∀ (m : Nat), ∀ (ls : rO) (σ : rS) (F_88 : hF) (A_88 : hA) (x88_15 : Int), rlook ls 0 = some (.ref (D 3)) → rlook ls 1 = some (.ref (D 20)) → rlook ls 3 = some (I (a3)) → rlook ls 4 = some (J (2654435761)) → rlook ls 6 = some (J (2246822519)) → rlook ls 8 = some (J (3266489917)) → rlook ls 10 = some (J (668265263)) → rlook ls 12 = some (J (374761393)) → rlook ls 14 = some (I ((a3 - a2))) → rlook ls 15 = some (I (x88_15)) → HS σ0 σ D N F_88 A_88 → SF [] F F_88 → SA [17] (updA (updA (updA (updA A 17 (0) ((anJ ((2654435761 + 2246822519)) (4294967295)))) 17 (1) (2246822519)) 17 (2) (0)) 17 (3) ((anJ ((0 - 2654435761)) (4294967295)))) A_88 → ∀ w88_17 : Int → Int, A_88 17 = w88_17 → (inr (x88_15)) → ((a2) ≤ (x88_15) ∧ (x88_15) ≤ (a3)) → (((x88_15) - (a2)) % 16 = 0) → (LQA ((w20)) ((a2)) ((a3) - (a2)) ((x88_15)) 0 ((w88_17))) → ((a3) - (x88_15)).toNat = m → Ew 359 (d + 1) 88 ls [] σ c s Q from
      hl88 _ _ σ _ _ (a2) (rk2_o (rk_o (rk_o (rk2_o (rk2_o (rk2_o (rk2_o (rk2_o (rfl) rfl rfl) rfl rfl) rfl rfl) rfl rfl) rfl rfl) rfl rfl) rfl rfl) rfl rfl) (rk2_o (rk_o (rk_o (rk2_o (rk2_o (rk2_o (rk2_o (rk2_o (rfl) rfl rfl) rfl rfl) rfl rfl) rfl rfl) rfl rfl) rfl rfl) rfl rfl) rfl rfl) (rk2_o (rk_o (rk_o (rk2_o (rk2_o (rk2_o (rk2_o (rk2_o (rfl) rfl rfl) rfl rfl) rfl rfl) rfl rfl) rfl rfl) rfl rfl) rfl rfl) rfl rfl) (rk2_o (rk_o (rk_o (rk2_o (rk2_o (rk2_o (rk2_o (rk2_s) rfl rfl) rfl rfl) rfl rfl) rfl rfl) rfl rfl) rfl rfl) rfl rfl) (rk2_o (rk_o (rk_o (rk2_o (rk2_o (rk2_o (rk2_s) rfl rfl) rfl rfl) rfl rfl) rfl rfl) rfl rfl) rfl rfl) (rk2_o (rk_o (rk_o (rk2_o (rk2_o (rk2_s) rfl rfl) rfl rfl) rfl rfl) rfl rfl) rfl rfl) (rk2_o (rk_o (rk_o (rk2_o (rk2_s) rfl rfl) rfl rfl) rfl rfl) rfl rfl) (rk2_o (rk_o (rk_o (rk2_s) rfl rfl) rfl rfl) rfl rfl) (rk2_o (rk_o (rk_s) rfl rfl) rfl rfl) (rk2_o (rk_s) rfl rfl) H (SF_refl) (SA_refl)  (upd1 (upd1 (upd1 (upd1 (A 17) (0) ((anJ ((2654435761 + 2246822519)) (4294967295)))) (1) (2246822519)) (2) (0)) (3) ((anJ ((0 - 2654435761)) (4294967295)))) (rfl) (show inr (a2) from h0) (show (a2) ≤ (a2) ∧ (a2) ≤ (a3) from q_588 h2) (show ((a2) - (a2)) % 16 = 0 by omega) (show LQA ((w20)) ((a2)) ((a3) - (a2)) ((a2)) 0 ((upd1 (upd1 (upd1 (upd1 (A 17) (0) ((anJ ((2654435761 + 2246822519)) (4294967295)))) (1) (2246822519)) (2) (0)) (3) ((anJ ((0 - 2654435761)) (4294967295))))) by assumption) rfl
    as_aux_lemma =>
    intro m
    induction m using Nat.strongRecOn with
    | _ m ih88 =>
      intro ls σ F_88 A_88 x88_15 l88_0 l88_1 l88_3 l88_4 l88_6 l88_8 l88_10 l88_12 l88_14 l88_15 H hS_88 hA_88  w88_17 ew88_17 j88_0 j88_1 j88_2 j88_3 hm88
      have j88_L : LQA ((w20)) ((a2)) ((a3) - (a2)) ((x88_15)) 0 ((w88_17)) := j88_3
      refine Ew_of (pcₚ := 89) (fun _ => x_iload_n rfl l88_3) ?_
      refine Ew_of (pcₚ := 91) (fun _ => x_iload rfl l88_15) ?_
      refine w_isub rfl ?_
      refine Ew_of (pcₚ := 94) (fun _ => x_bipush (z := 16) rfl (by decide)) ?_
      refine w_icmplt (t := 158) rfl rfl (show inr ((a3 - x88_15)) from q_571 h2 j88_1) (show inr (16) from q_345) (fun b61 => ?_) (fun b61 => ?_)
      · refine Ew_of (pcₚ := 159) (fun _ => x_aload_n rfl l88_0) ?_
        refine w_gT H (o := 3) (t := 17) rfl (H.perm 3 rfl) rfl rfl rfl rfl rfl rfl ?_
        refine Ew_of (pcₚ := 163) (fun _ => x_iconst rfl) ?_
        refine w_lJ H (o := 17) (n := 4) rfl (H.perm 17 rfl) rfl rfl (H.fix 17 rfl rfl) (show 0 ≤ 0 ∧ 0 < ((4 : Nat) : Int) from q_589) (by decide) (fun v62 ev62 qv62 => ?_)
        have qv62 : (-9223372036854775808 : Int) ≤ v62 ∧ v62 ≤ 9223372036854775807 := qv62
        have ev62 : (w88_17) (0) = v62 := (congrFun (ew88_17) (0)).symm.trans ev62
        have a0_ := ev62
        refine Ew_of (pcₚ := 165) (fun _ => x_iconst rfl) ?_
        refine w_stat24 rfl rfl (by rfl) (M356 H (show inrJ (v62) by omega) (show inr (1) from q_135) (show 1 ≤ (1) ∧ (1) ≤ 31 from q_595) (fun z67 σ F63 A64 H hS65 hA66 pz67_0 pz67_1 pz67_2 => ⟨rfl, ?_⟩))
        have b0_ := pz67_2
        refine Ew_of (pcₚ := 169) (fun _ => x_aload_n rfl l88_0) ?_
        refine w_gT H (o := 3) (t := 17) rfl (H.perm 3 rfl) rfl rfl rfl rfl rfl rfl ?_
        refine Ew_of (pcₚ := 173) (fun _ => x_iconst rfl) ?_
        refine w_lJ H (o := 17) (n := 4) rfl (H.perm 17 rfl) rfl rfl (H.fix 17 rfl rfl) (show 0 ≤ 1 ∧ 1 < ((4 : Nat) : Int) from q_591) (by decide) (fun v68 ev68 qv68 => ?_)
        have qv68 : (-9223372036854775808 : Int) ≤ v68 ∧ v68 ≤ 9223372036854775807 := qv68
        have ev68 : (w88_17) (1) = v68 := (congrFun ((funext (hA66 17 rfl)).trans (ew88_17)) (1)).symm.trans ev68
        have a1_ := ev68
        refine Ew_of (pcₚ := 176) (fun _ => x_bipush (z := 7) rfl (by decide)) ?_
        refine w_stat24 rfl rfl (by rfl) (M356 H (show inrJ (v68) by omega) (show inr (7) from q_597) (show 1 ≤ (7) ∧ (7) ≤ 31 from q_596) (fun z73 σ F69 A70 H hS71 hA72 pz73_0 pz73_1 pz73_2 => ⟨rfl, ?_⟩))
        have b1_ := pz73_2
        refine w_ladd rfl ?_
        refine Ew_of (pcₚ := 181) (fun _ => x_aload_n rfl l88_0) ?_
        refine w_gT H (o := 3) (t := 17) rfl (H.perm 3 rfl) rfl rfl rfl rfl rfl rfl ?_
        refine Ew_of (pcₚ := 185) (fun _ => x_iconst rfl) ?_
        refine w_lJ H (o := 17) (n := 4) rfl (H.perm 17 rfl) rfl rfl (H.fix 17 rfl rfl) (show 0 ≤ 2 ∧ 2 < ((4 : Nat) : Int) from q_593) (by decide) (fun v74 ev74 qv74 => ?_)
        have qv74 : (-9223372036854775808 : Int) ≤ v74 ∧ v74 ≤ 9223372036854775807 := qv74
        have ev74 : (w88_17) (2) = v74 := (congrFun ((funext (hA72 17 rfl)).trans ((funext (hA66 17 rfl)).trans (ew88_17))) (2)).symm.trans ev74
        have a2_ := ev74
        refine Ew_of (pcₚ := 188) (fun _ => x_bipush (z := 12) rfl (by decide)) ?_
        refine w_stat24 rfl rfl (by rfl) (M356 H (show inrJ (v74) by omega) (show inr (12) from q_599) (show 1 ≤ (12) ∧ (12) ≤ 31 from q_598) (fun z79 σ F75 A76 H hS77 hA78 pz79_0 pz79_1 pz79_2 => ⟨rfl, ?_⟩))
        have b2_ := pz79_2
        refine w_ladd rfl ?_
        refine Ew_of (pcₚ := 193) (fun _ => x_aload_n rfl l88_0) ?_
        refine w_gT H (o := 3) (t := 17) rfl (H.perm 3 rfl) rfl rfl rfl rfl rfl rfl ?_
        refine Ew_of (pcₚ := 197) (fun _ => x_iconst rfl) ?_
        refine w_lJ H (o := 17) (n := 4) rfl (H.perm 17 rfl) rfl rfl (H.fix 17 rfl rfl) (show 0 ≤ 3 ∧ 3 < ((4 : Nat) : Int) from q_594) (by decide) (fun v80 ev80 qv80 => ?_)
        have qv80 : (-9223372036854775808 : Int) ≤ v80 ∧ v80 ≤ 9223372036854775807 := qv80
        have ev80 : (w88_17) (3) = v80 := (congrFun ((funext (hA78 17 rfl)).trans ((funext (hA72 17 rfl)).trans ((funext (hA66 17 rfl)).trans (ew88_17)))) (3)).symm.trans ev80
        have a3_ := ev80
        refine Ew_of (pcₚ := 200) (fun _ => x_bipush (z := 18) rfl (by decide)) ?_
        refine w_stat24 rfl rfl (by rfl) (M356 H (show inrJ (v80) by omega) (show inr (18) from q_601) (show 1 ≤ (18) ∧ (18) ≤ 31 from q_600) (fun z85 σ F81 A82 H hS83 hA84 pz85_0 pz85_1 pz85_2 => ⟨rfl, ?_⟩))
        have b3_ := pz85_2
        refine w_ladd rfl ?_
        refine Ew_of (pcₚ := 207) (fun _ => x_ldc2 (z := 4294967295) rfl (by decide)) ?_
        refine w_landE rfl ?_
        have g86 : inrJ (anJ ((((z67 + z73) + z79) + z85)) (4294967295)) := toJ_inr _
        have hNS : NSm ((w20)) ((a2)) ((a3) - (a2)) 0 ((x88_15)) (((anJ ((((z67 + z73) + z79) + z85)) (4294967295)))) := NSm_y (by omega) (by omega) j88_L a0_ a1_ a2_ a3_ b0_ b1_ b2_ b3_
        refine Ew_of (pcₚ := 210) (fun _ => x_lstore rfl) ?_
        have : NSm ((w20)) ((a2)) ((a3) - (a2)) 0 ((x88_15)) (((anJ ((((z67 + z73) + z79) + z85)) (4294967295)))) := by first | exact hNS | exact NSm_n (by omega) (by omega) (by omega) (by rfl)
        exact hc210  _ σ _ _ (x88_15) ((anJ ((((z67 + z73) + z79) + z85)) (4294967295))) (rk2_o (l88_1) rfl rfl) (rk2_o (l88_3) rfl rfl) (rk2_o (l88_4) rfl rfl) (rk2_o (l88_6) rfl rfl) (rk2_o (l88_8) rfl rfl) (rk2_o (l88_10) rfl rfl) (rk2_o (l88_12) rfl rfl) (rk2_o (l88_14) rfl rfl) (rk2_o (l88_15) rfl rfl) (rk2_s) H (SF_trans (SF_trans (SF_trans (SF_trans (SF_trans (SF_refl) hS_88 (any_sub rfl)) hS65 (any_sub rfl)) hS71 (any_sub rfl)) hS77 (any_sub rfl)) hS83 (any_sub rfl)) (SA_trans (SA_trans (SA_trans (SA_trans (SA_trans (SA_upd (SA_upd (SA_upd (SA_upd (SA_refl) rfl) rfl) rfl) rfl) hA_88 (any_subA rfl)) hA66 (any_subA rfl)) hA72 (any_subA rfl)) hA78 (any_subA rfl)) hA84 (any_subA rfl))   (show inr (x88_15) from j88_0) (show inrJ ((anJ ((((z67 + z73) + z79) + z85)) (4294967295))) from g86) (show (a2) ≤ (x88_15) ∧ (x88_15) ≤ (a3) from j88_1) (hNS)
      · refine Ew_of (pcₚ := 98) (fun _ => x_iconst rfl) ?_
        refine Ew_of (pcₚ := 100) (fun _ => x_istore rfl) ?_
        suffices hl100 : ∀ (m : Nat), ∀ (ls : rO) (σ : rS) (F_100 : hF) (A_100 : hA) (x100_15 : Int) (x100_18 : Int), rlook ls 0 = some (.ref (D 3)) → rlook ls 1 = some (.ref (D 20)) → rlook ls 3 = some (I (a3)) → rlook ls 4 = some (J (2654435761)) → rlook ls 6 = some (J (2246822519)) → rlook ls 8 = some (J (3266489917)) → rlook ls 10 = some (J (668265263)) → rlook ls 12 = some (J (374761393)) → rlook ls 14 = some (I ((a3 - a2))) → rlook ls 15 = some (I (x100_15)) → rlook ls 18 = some (I (x100_18)) → HS σ0 σ D N F_100 A_100 → SF [] F_88 F_100 → SA [17] A_88 A_100 → ∀ w100_17 : Int → Int, A_100 17 = w100_17 → (inr (x100_15)) → (inr (x100_18)) → ((0) ≤ (x100_18)) → ((x100_18) ≤ (0) ∨ (x100_18) ≤ (4)) → ((x100_15) = (x88_15) + 4 * (x100_18)) → (LQA ((w20)) ((a2)) ((a3) - (a2)) ((x88_15)) ((x100_18)) ((w100_17))) → ((4) - (x100_18)).toNat = m → Ew 359 (d + 1) 100 ls [] σ c s Q from
          hl100 _ _ σ _ _ (x88_15) (0) (rk_o (l88_0) rfl rfl) (rk_o (l88_1) rfl rfl) (rk_o (l88_3) rfl rfl) (rk_o (l88_4) rfl rfl) (rk_o (l88_6) rfl rfl) (rk_o (l88_8) rfl rfl) (rk_o (l88_10) rfl rfl) (rk_o (l88_12) rfl rfl) (rk_o (l88_14) rfl rfl) (rk_o (l88_15) rfl rfl) (rk_s) H (SF_refl) (SA_refl)  (w88_17) (ew88_17) (show inr (x88_15) from j88_0) (show inr (0) from q_2) (show (0) ≤ (0) from q_1) (show (0) ≤ (0) ∨ (0) ≤ (4) from q_603) (show (x88_15) = (x88_15) + 4 * (0) from q_602) (j88_L) rfl
        as_aux_lemma =>
        intro m
        induction m using Nat.strongRecOn with
        | _ m ih100 =>
          intro ls σ F_100 A_100 x100_15 x100_18 l100_0 l100_1 l100_3 l100_4 l100_6 l100_8 l100_10 l100_12 l100_14 l100_15 l100_18 H hS_100 hA_100  w100_17 ew100_17 j100_0 j100_1 j100_2 j100_3 j100_4 j100_5 hm100
          refine Ew_of (pcₚ := 102) (fun _ => x_iload rfl l100_18) ?_
          refine Ew_of (pcₚ := 103) (fun _ => x_iconst rfl) ?_
          refine w_icmpge (t := 155) rfl rfl (show inr (x100_18) from j100_1) (show inr (4) from q_216) (fun b87 => ?_) (fun b87 => ?_)
          · refine Ew_of (pcₚ := 88) (fun _ => x_goto rfl rfl) ?_
            have : LQA ((w20)) ((a2)) ((a3) - (a2)) ((x100_15)) 0 ((w100_17)) := LQA_e j100_5 (by omega) (by omega)
            exact ih88 _ (msE hm88 (q_604 b87 j100_4) (q_354 b61)) _ σ _ _ (x100_15) (l100_0) (l100_1) (l100_3) (l100_4) (l100_6) (l100_8) (l100_10) (l100_12) (l100_14) (l100_15) H (SF_trans (hS_88) hS_100 (any_sub rfl)) (SA_trans (hA_88) hA_100 (any_subA rfl))  (w100_17) (ew100_17) (show inr (x100_15) from j100_0) (show (a2) ≤ (x100_15) ∧ (x100_15) ≤ (a3) by omega) (show ((x100_15) - (a2)) % 16 = 0 by omega) (show LQA ((w20)) ((a2)) ((a3) - (a2)) ((x100_15)) 0 ((w100_17)) by assumption) rfl
          · refine Ew_of (pcₚ := 107) (fun _ => x_aload_n rfl l100_0) ?_
            refine w_gT H (o := 3) (t := 17) rfl (H.perm 3 rfl) rfl rfl rfl rfl rfl rfl ?_
            refine Ew_of (pcₚ := 112) (fun _ => x_iload rfl l100_18) ?_
            refine Ew_of (pcₚ := 113) (fun _ => x_aload_n rfl l100_0) ?_
            refine w_gT H (o := 3) (t := 17) rfl (H.perm 3 rfl) rfl rfl rfl rfl rfl rfl ?_
            refine Ew_of (pcₚ := 118) (fun _ => x_iload rfl l100_18) ?_
            refine w_lJ H (o := 17) (n := 4) rfl (H.perm 17 rfl) rfl rfl (H.fix 17 rfl rfl) (show 0 ≤ x100_18 ∧ x100_18 < ((4 : Nat) : Int) from q_605 b87 j100_2) (by decide) (fun v88 ev88 qv88 => ?_)
            have qv88 : (-9223372036854775808 : Int) ≤ v88 ∧ v88 ≤ 9223372036854775807 := qv88
            have ev88 : (w100_17) (x100_18) = v88 := (congrFun (ew100_17) (x100_18)).symm.trans ev88
            have hlv := ev88
            refine Ew_of (pcₚ := 120) (fun _ => x_aload_n rfl l100_1) ?_
            refine Ew_of (pcₚ := 122) (fun _ => x_iload rfl l100_15) ?_
            refine w_stat24 rfl rfl (by rfl) (M358_20 H (w20) ((funext (hA_100 20 rfl)).trans ((funext (hA_88 20 rfl)).trans (ew20))) (show inr (x100_15) from j100_0) (show 0 ≤ (x100_15) ∧ (x100_15) + 3 < 70000 from q_606 b61 b87 h2 j100_2 j100_4 j88_1) (fun z93 σ F89 A90 H hS91 hA92 pz93_0 pz93_1 => ⟨rfl, ?_⟩))
            have hwd := pz93_1
            refine Ew_of (pcₚ := 127) (fun _ => x_lload rfl l100_6) ?_
            refine w_stat24 rfl rfl (by rfl) (M357 H (show inrJ (z93) from pz93_0) (show inrJ (2246822519) from q_572) (fun z98 σ F94 A95 H hS96 hA97 pz98_0 pz98_1 pz98_2 => ⟨rfl, ?_⟩))
            have ht1 := pz98_2 (wdI ((w20)) ((x100_15))) (-2048144777) (by rw [hwd]; exact wdI_m) (by decide)
            refine w_ladd rfl ?_
            refine Ew_of (pcₚ := 134) (fun _ => x_ldc2 (z := 4294967295) rfl (by decide)) ?_
            refine w_landE rfl ?_
            have g99 : inrJ (anJ ((v88 + z98)) (4294967295)) := toJ_inr _
            refine Ew_of (pcₚ := 137) (fun _ => x_bipush (z := 13) rfl (by decide)) ?_
            refine w_stat24 rfl rfl (by rfl) (M356 H (show inrJ ((anJ ((v88 + z98)) (4294967295))) from g99) (show inr (13) from q_350) (show 1 ≤ (13) ∧ (13) ≤ 31 from q_607) (fun z104 σ F100 A101 H hS102 hA103 pz104_0 pz104_1 pz104_2 => ⟨rfl, ?_⟩))
            have ht3 := pz104_2
            refine Ew_of (pcₚ := 142) (fun _ => x_lload rfl l100_4) ?_
            refine w_stat24 rfl rfl (by rfl) (M357 H (show inrJ (z104) from pz104_0) (show inrJ (2654435761) from q_578) (fun z109 σ F105 A106 H hS107 hA108 pz109_0 pz109_1 pz109_2 => ⟨rfl, ?_⟩))
            have ht4 := pz109_2
            refine w_sJ H (o := 17) (n := 4) rfl (H.perm 17 rfl) rfl rfl (H.fix 17 rfl rfl) (show 0 ≤ x100_18 ∧ x100_18 < ((4 : Nat) : Int) from q_605 b87 j100_2) (by decide) (show (-9223372036854775808 : Int) ≤ z109 ∧ z109 ≤ 9223372036854775807 by omega) (fun σ H => ?_)
            have hqa := LQA_s (k2 := (x100_18) + 1) (q := (x100_15)) j100_5 (by omega) (by omega) rfl (by omega) (fun x hx => stp_i (hlv.symm.trans hx) ht1 ht3 ht4 (y2 := -1640531535) (by decide))
            refine Ew_of (pcₚ := 149) (fun _ => x_iinc (len := 3) rfl (l100_15)) ?_
            refine Ew_of (pcₚ := 152) (fun _ => x_iinc (len := 3) rfl (rk_o (l100_18) rfl rfl)) ?_
            refine Ew_of (pcₚ := 100) (fun _ => x_goto rfl rfl) ?_
            exact ih100 _ (msE hm100 q_612 (q_613 b87)) _ σ _ _ ((x100_15 + 4)) ((x100_18 + 1)) (rk_o (rk_o (l100_0) rfl rfl) rfl rfl) (rk_o (rk_o (l100_1) rfl rfl) rfl rfl) (rk_o (rk_o (l100_3) rfl rfl) rfl rfl) (rk_o (rk_o (l100_4) rfl rfl) rfl rfl) (rk_o (rk_o (l100_6) rfl rfl) rfl rfl) (rk_o (rk_o (l100_8) rfl rfl) rfl rfl) (rk_o (rk_o (l100_10) rfl rfl) rfl rfl) (rk_o (rk_o (l100_12) rfl rfl) rfl rfl) (rk_o (rk_o (l100_14) rfl rfl) rfl rfl) (rk_o (rk_s) rfl rfl) (rk_s) H (SF_trans (SF_trans (SF_trans (SF_trans (hS_100) hS91 (any_sub rfl)) hS96 (any_sub rfl)) hS102 (any_sub rfl)) hS107 (any_sub rfl)) (SA_upd (SA_trans (SA_trans (SA_trans (SA_trans (hA_100) hA92 (any_subA rfl)) hA97 (any_subA rfl)) hA103 (any_subA rfl)) hA108 (any_subA rfl)) rfl)  (upd1 (w100_17) (x100_18) (z109)) (congrArg (fun q => upd1 q (x100_18) (z109)) ((funext (hA108 17 rfl)).trans ((funext (hA103 17 rfl)).trans ((funext (hA97 17 rfl)).trans ((funext (hA92 17 rfl)).trans (ew100_17)))))) (show inr ((x100_15 + 4)) from q_611 b61 b87 h2 j100_0 j100_4) (show inr ((x100_18 + 1)) from q_610 b87 j100_2) (show (0) ≤ ((x100_18 + 1)) from q_14 j100_2) (show ((x100_18 + 1)) ≤ (0) ∨ ((x100_18 + 1)) ≤ (4) from q_609 b87) (show ((x100_15 + 4)) = (x88_15) + 4 * ((x100_18 + 1)) from q_608 j100_4) (show LQA ((w20)) ((a2)) ((a3) - (a2)) ((x88_15)) (((x100_18 + 1))) ((upd1 (w100_17) (x100_18) (z109))) by assumption) rfl

theorem M359_14 {σ0 σ : rS} {D N : Nat → Nat} {F : hF} {A : hA} {d c s : Nat} {Q : wQ} (H : HS σ0 σ D N F A) {a2 a3 : Int} (w14 : Int → Int) (ew14 : A 14 = w14) (h0 : inr (a2)) (h1 : inr (a3)) (h2 : 0 ≤ (a2) ∧ (a2) ≤ (a3) ∧ (a3) ≤ 65536) (k : ∀ (z : Int) σ Fₚ Aₚ, HS σ0 σ D N Fₚ Aₚ → SF [] F Fₚ → SA [17] A Aₚ → (inrJ (z)) → (0 ≤ (z) ∧ (z) < 4294967296) → ((z) = NSM ((w14)) ((a2)) ((a3) - (a2)) 0 % 4294967296) → Q (some (J z)) σ c s) : Ew 359 (d + 1) 0 (rargs 0 [.ref (D 3), .ref (D 14), I a2, I a3]) [] σ c s Q := by
  refine Ew_of (pcₚ := 3) (fun _ => x_ldc2 (z := 2654435761) rfl (by decide)) ?_
  refine Ew_of (pcₚ := 5) (fun _ => x_lstore rfl) ?_
  refine Ew_of (pcₚ := 8) (fun _ => x_ldc2 (z := 2246822519) rfl (by decide)) ?_
  refine Ew_of (pcₚ := 10) (fun _ => x_lstore rfl) ?_
  refine Ew_of (pcₚ := 13) (fun _ => x_ldc2 (z := 3266489917) rfl (by decide)) ?_
  refine Ew_of (pcₚ := 15) (fun _ => x_lstore rfl) ?_
  refine Ew_of (pcₚ := 18) (fun _ => x_ldc2 (z := 668265263) rfl (by decide)) ?_
  refine Ew_of (pcₚ := 20) (fun _ => x_lstore rfl) ?_
  refine Ew_of (pcₚ := 23) (fun _ => x_ldc2 (z := 374761393) rfl (by decide)) ?_
  refine Ew_of (pcₚ := 25) (fun _ => x_lstore rfl) ?_
  refine Ew_of (pcₚ := 26) (fun _ => x_iload_n rfl (rk2_o (rk2_o (rk2_o (rk2_o (rk2_o (rfl) rfl rfl) rfl rfl) rfl rfl) rfl rfl) rfl rfl)) ?_
  refine Ew_of (pcₚ := 27) (fun _ => x_iload_n rfl (rk2_o (rk2_o (rk2_o (rk2_o (rk2_o (rfl) rfl rfl) rfl rfl) rfl rfl) rfl rfl) rfl rfl)) ?_
  refine w_isub rfl ?_
  refine Ew_of (pcₚ := 30) (fun _ => x_istore rfl) ?_
  refine Ew_of (pcₚ := 31) (fun _ => x_iload_n rfl (rk_o (rk2_o (rk2_o (rk2_o (rk2_o (rk2_o (rfl) rfl rfl) rfl rfl) rfl rfl) rfl rfl) rfl rfl) rfl rfl)) ?_
  refine Ew_of (pcₚ := 33) (fun _ => x_istore rfl) ?_
  refine Ew_of (pcₚ := 35) (fun _ => x_lload rfl (rk_o (rk_o (rk2_s) rfl rfl) rfl rfl)) ?_
  refine Ew_of (pcₚ := 37) (fun _ => x_lstore rfl) ?_
  have hc210 : ∀ (ls : rO) (σ : rS) (F_c210 : hF) (A_c210 : hA) (xc210_15 : Int) (xc210_16 : Int), rlook ls 1 = some (.ref (D 14)) → rlook ls 3 = some (I (a3)) → rlook ls 4 = some (J (2654435761)) → rlook ls 6 = some (J (2246822519)) → rlook ls 8 = some (J (3266489917)) → rlook ls 10 = some (J (668265263)) → rlook ls 12 = some (J (374761393)) → rlook ls 14 = some (I ((a3 - a2))) → rlook ls 15 = some (I (xc210_15)) → rlook ls 16 = some (J (xc210_16)) → HS σ0 σ D N F_c210 A_c210 → SF [] F F_c210 → SA [17] A A_c210 → (inr (xc210_15)) → (inrJ (xc210_16)) → ((a2) ≤ (xc210_15) ∧ (xc210_15) ≤ (a3)) → (NSm ((w14)) ((a2)) ((a3) - (a2)) 0 ((xc210_15)) ((xc210_16))) → Ew 359 (d + 1) 210 ls [] σ c s Q := by
   as_aux_lemma =>
    intro  ls σ F_c210 A_c210 xc210_15 xc210_16 lc210_1 lc210_3 lc210_4 lc210_6 lc210_8 lc210_10 lc210_12 lc210_14 lc210_15 lc210_16 H hS_c210 hA_c210   jc210_0 jc210_1 jc210_2 jc210_3
    have hcN : NSm ((w14)) ((a2)) ((a3) - (a2)) 0 ((xc210_15)) ((xc210_16)) := jc210_3
    refine Ew_of (pcₚ := 212) (fun _ => x_lload rfl lc210_16) ?_
    refine Ew_of (pcₚ := 214) (fun _ => x_iload rfl lc210_14) ?_
    refine w_i2l rfl (show inr ((a3 - a2)) from q_614 h2) ?_
    refine w_ladd rfl ?_
    refine Ew_of (pcₚ := 219) (fun _ => x_ldc2 (z := 4294967295) rfl (by decide)) ?_
    refine w_landE rfl ?_
    have g1 : inrJ (anJ ((xc210_16 + (a3 - a2))) (4294967295)) := toJ_inr _
    refine Ew_of (pcₚ := 222) (fun _ => x_lstore rfl) ?_
    obtain ⟨xh0, hc1, hc2⟩ := hcN
    have hc1p := hc1.1
    have : ∃ xp xh x, NS1 ((w14)) ((a2)) ((a3) - (a2)) 0 xp xh ∧ ((anJ ((xc210_16 + (a3 - a2))) (4294967295))) = x % 4294967296 ∧ nS4n ((w14)) xp (((a3) - (a2)) % 16 / 4).toNat (adI xh ((a3) - (a2))) = nS4n ((w14)) ((xc210_15)) (((a3) - (xc210_15)) / 4).toNat x := ⟨(xc210_15), xh0, adI xh0 ((a3) - (a2)), hc1, by rw [anM, hc2, adI_m]; omega, by rw [show ((a3) - (a2)) % 16 / 4 = ((a3) - (xc210_15)) / 4 by omega]⟩
    suffices hl222 : ∀ (m : Nat), ∀ (ls : rO) (σ : rS) (F_222 : hF) (A_222 : hA) (x222_15 : Int) (x222_16 : Int), rlook ls 1 = some (.ref (D 14)) → rlook ls 3 = some (I (a3)) → rlook ls 4 = some (J (2654435761)) → rlook ls 6 = some (J (2246822519)) → rlook ls 8 = some (J (3266489917)) → rlook ls 10 = some (J (668265263)) → rlook ls 12 = some (J (374761393)) → rlook ls 15 = some (I (x222_15)) → rlook ls 16 = some (J (x222_16)) → HS σ0 σ D N F_222 A_222 → SF [] F_c210 F_222 → SA [] A_c210 A_222 → (inr (x222_15)) → (inrJ (x222_16)) → ((a2) ≤ (x222_15) ∧ (x222_15) ≤ (a3)) → (((a3) - (x222_15)) % 4 = ((a3) - (a2)) % 4) → (∃ xp xh x, NS1 ((w14)) ((a2)) ((a3) - (a2)) 0 xp xh ∧ (x222_16) = x % 4294967296 ∧ nS4n ((w14)) xp (((a3) - (a2)) % 16 / 4).toNat (adI xh ((a3) - (a2))) = nS4n ((w14)) ((x222_15)) (((a3) - (x222_15)) / 4).toNat x) → ((a3) - (x222_15)).toNat = m → Ew 359 (d + 1) 222 ls [] σ c s Q from
      hl222 _ _ σ _ _ (xc210_15) ((anJ ((xc210_16 + (a3 - a2))) (4294967295))) (rk2_o (lc210_1) rfl rfl) (rk2_o (lc210_3) rfl rfl) (rk2_o (lc210_4) rfl rfl) (rk2_o (lc210_6) rfl rfl) (rk2_o (lc210_8) rfl rfl) (rk2_o (lc210_10) rfl rfl) (rk2_o (lc210_12) rfl rfl) (rk2_o (lc210_15) rfl rfl) (rk2_s) H (SF_refl) (SA_refl)   (show inr (xc210_15) from jc210_0) (show inrJ ((anJ ((xc210_16 + (a3 - a2))) (4294967295))) from g1) (show (a2) ≤ (xc210_15) ∧ (xc210_15) ≤ (a3) from jc210_2) (show ((a3) - (xc210_15)) % 4 = ((a3) - (a2)) % 4 by omega) (show ∃ xp xh x, NS1 ((w14)) ((a2)) ((a3) - (a2)) 0 xp xh ∧ ((anJ ((xc210_16 + (a3 - a2))) (4294967295))) = x % 4294967296 ∧ nS4n ((w14)) xp (((a3) - (a2)) % 16 / 4).toNat (adI xh ((a3) - (a2))) = nS4n ((w14)) ((xc210_15)) (((a3) - (xc210_15)) / 4).toNat x by assumption) rfl
    as_aux_lemma =>
    intro m
    induction m using Nat.strongRecOn with
    | _ m ih222 =>
      intro ls σ F_222 A_222 x222_15 x222_16 l222_1 l222_3 l222_4 l222_6 l222_8 l222_10 l222_12 l222_15 l222_16 H hS_222 hA_222   j222_0 j222_1 j222_2 j222_3 j222_4 hm222
      have j222_q : ∃ xp xh x, NS1 ((w14)) ((a2)) ((a3) - (a2)) 0 xp xh ∧ (x222_16) = x % 4294967296 ∧ nS4n ((w14)) xp (((a3) - (a2)) % 16 / 4).toNat (adI xh ((a3) - (a2))) = nS4n ((w14)) ((x222_15)) (((a3) - (x222_15)) / 4).toNat x := by assumption
      refine Ew_of (pcₚ := 223) (fun _ => x_iload_n rfl l222_3) ?_
      refine Ew_of (pcₚ := 225) (fun _ => x_iload rfl l222_15) ?_
      refine w_isub rfl ?_
      refine Ew_of (pcₚ := 227) (fun _ => x_iconst rfl) ?_
      refine w_icmplt (t := 266) rfl rfl (show inr ((a3 - x222_15)) from q_615 h2 j222_2) (show inr (4) from q_216) (fun b2 => ?_) (fun b2 => ?_)
      · have : ∃ xp xh x, NS1 ((w14)) ((a2)) ((a3) - (a2)) 0 xp xh ∧ (x222_16) = x % 4294967296 ∧ nS1n ((w14)) ((a3) - ((a3) - (a2)) % 4) (((a3) - (a2)) % 4).toNat (nS4n ((w14)) xp (((a3) - (a2)) % 16 / 4).toNat (adI xh ((a3) - (a2)))) = nS1n ((w14)) ((x222_15)) ((a3) - (x222_15)).toNat x := by obtain ⟨xp, xh, x, q1, q2, q3⟩ := j222_q; refine ⟨xp, xh, x, q1, q2, ?_⟩; rw [q3, nS4n_0 (by omega), show (a3) - ((a3) - (a2)) % 4 = (x222_15) by omega, show ((a3) - (a2)) % 4 = (a3) - (x222_15) by omega]
        suffices hl266 : ∀ (m : Nat), ∀ (ls : rO) (σ : rS) (F_266 : hF) (A_266 : hA) (x266_15 : Int) (x266_16 : Int), rlook ls 1 = some (.ref (D 14)) → rlook ls 3 = some (I (a3)) → rlook ls 4 = some (J (2654435761)) → rlook ls 6 = some (J (2246822519)) → rlook ls 8 = some (J (3266489917)) → rlook ls 12 = some (J (374761393)) → rlook ls 15 = some (I (x266_15)) → rlook ls 16 = some (J (x266_16)) → HS σ0 σ D N F_266 A_266 → SF [] F_222 F_266 → SA [] A_222 A_266 → (inr (x266_15)) → (inrJ (x266_16)) → ((x222_15) ≤ (x266_15)) → ((x266_15) ≤ (x222_15) ∨ (x266_15) ≤ ((a3))) → (∃ xp xh x, NS1 ((w14)) ((a2)) ((a3) - (a2)) 0 xp xh ∧ (x266_16) = x % 4294967296 ∧ nS1n ((w14)) ((a3) - ((a3) - (a2)) % 4) (((a3) - (a2)) % 4).toNat (nS4n ((w14)) xp (((a3) - (a2)) % 16 / 4).toNat (adI xh ((a3) - (a2)))) = nS1n ((w14)) ((x266_15)) ((a3) - (x266_15)).toNat x) → (((a3)) - (x266_15)).toNat = m → Ew 359 (d + 1) 266 ls [] σ c s Q from
          hl266 _ _ σ _ _ (x222_15) (x222_16) (l222_1) (l222_3) (l222_4) (l222_6) (l222_8) (l222_12) (l222_15) (l222_16) H (SF_refl) (SA_refl)   (show inr (x222_15) from j222_0) (show inrJ (x222_16) from j222_1) (show (x222_15) ≤ (x222_15) from q_43) (show (x222_15) ≤ (x222_15) ∨ (x222_15) ≤ ((a3)) from q_156) (show ∃ xp xh x, NS1 ((w14)) ((a2)) ((a3) - (a2)) 0 xp xh ∧ (x222_16) = x % 4294967296 ∧ nS1n ((w14)) ((a3) - ((a3) - (a2)) % 4) (((a3) - (a2)) % 4).toNat (nS4n ((w14)) xp (((a3) - (a2)) % 16 / 4).toNat (adI xh ((a3) - (a2)))) = nS1n ((w14)) ((x222_15)) ((a3) - (x222_15)).toNat x by assumption) rfl
        as_aux_lemma =>
        intro m
        induction m using Nat.strongRecOn with
        | _ m ih266 =>
          intro ls σ F_266 A_266 x266_15 x266_16 l266_1 l266_3 l266_4 l266_6 l266_8 l266_12 l266_15 l266_16 H hS_266 hA_266   j266_0 j266_1 j266_2 j266_3 j266_4 hm266
          have j266_q : ∃ xp xh x, NS1 ((w14)) ((a2)) ((a3) - (a2)) 0 xp xh ∧ (x266_16) = x % 4294967296 ∧ nS1n ((w14)) ((a3) - ((a3) - (a2)) % 4) (((a3) - (a2)) % 4).toNat (nS4n ((w14)) xp (((a3) - (a2)) % 16 / 4).toNat (adI xh ((a3) - (a2)))) = nS1n ((w14)) ((x266_15)) ((a3) - (x266_15)).toNat x := by assumption
          refine Ew_of (pcₚ := 268) (fun _ => x_iload rfl l266_15) ?_
          refine Ew_of (pcₚ := 269) (fun _ => x_iload_n rfl l266_3) ?_
          refine w_icmpge (t := 307) rfl rfl (show inr (x266_15) from j266_0) (show inr (a3) from h1) (fun b3 => ?_) (fun b3 => ?_)
          · obtain ⟨xp_, xh_, x_, q1_, q2_, q3_⟩ := j266_q
            rw [nS1n_0 (k := ((a3) - (x266_15)).toNat) (by omega), show (a3) - ((a3) - (a2)) % 4 = (a2) + ((a3) - (a2)) - ((a3) - (a2)) % 4 by omega] at q3_
            refine Ew_of (pcₚ := 309) (fun _ => x_lload rfl l266_16) ?_
            refine Ew_of (pcₚ := 311) (fun _ => x_lload rfl l266_16) ?_
            refine Ew_of (pcₚ := 313) (fun _ => x_bipush (z := 15) rfl (by decide)) ?_
            refine w_lshrE rfl ?_
            have g4 : inrJ (srJ (x266_16) (15)) := toJ_inr _
            refine w_lxorE rfl ?_
            have g5 : inrJ (xoJ (x266_16) ((srJ (x266_16) (15)))) := toJ_inr _
            have hx1 : ((xoJ (x266_16) ((srJ (x266_16) (15))))) = xoI x_ (usI x_ 15) % 4294967296 := xo_i q2_ (by omega)
            refine Ew_of (pcₚ := 317) (fun _ => x_lload rfl l266_6) ?_
            refine w_stat24 rfl rfl (by rfl) (M357 H (show inrJ ((xoJ (x266_16) ((srJ (x266_16) (15))))) from g5) (show inrJ (2246822519) from q_572) (fun z10 σ F6 A7 H hS8 hA9 pz10_0 pz10_1 pz10_2 => ⟨rfl, ?_⟩))
            have hm1 := pz10_2 (xoI x_ (usI x_ 15)) (-2048144777) hx1 (by decide)
            refine Ew_of (pcₚ := 322) (fun _ => x_lstore rfl) ?_
            refine Ew_of (pcₚ := 324) (fun _ => x_lload rfl rk2_s) ?_
            refine Ew_of (pcₚ := 326) (fun _ => x_lload rfl rk2_s) ?_
            refine Ew_of (pcₚ := 328) (fun _ => x_bipush (z := 13) rfl (by decide)) ?_
            refine w_lshrE rfl ?_
            have g11 : inrJ (srJ (z10) (13)) := toJ_inr _
            refine w_lxorE rfl ?_
            have g12 : inrJ (xoJ (z10) ((srJ (z10) (13)))) := toJ_inr _
            have hx2 := xo_i hm1 (k := 13) (by omega)
            refine Ew_of (pcₚ := 332) (fun _ => x_lload rfl (rk2_o (l266_8) rfl rfl)) ?_
            refine w_stat24 rfl rfl (by rfl) (M357 H (show inrJ ((xoJ (z10) ((srJ (z10) (13))))) from g12) (show inrJ (3266489917) from q_573) (fun z17 σ F13 A14 H hS15 hA16 pz17_0 pz17_1 pz17_2 => ⟨rfl, ?_⟩))
            have hm2 := pz17_2 _ (-1028477379) hx2 (by decide)
            refine Ew_of (pcₚ := 337) (fun _ => x_lstore rfl) ?_
            refine Ew_of (pcₚ := 339) (fun _ => x_lload rfl rk2_s) ?_
            refine Ew_of (pcₚ := 341) (fun _ => x_lload rfl rk2_s) ?_
            refine Ew_of (pcₚ := 343) (fun _ => x_bipush (z := 16) rfl (by decide)) ?_
            refine w_lshrE rfl ?_
            have g18 : inrJ (srJ (z17) (16)) := toJ_inr _
            refine w_lxorE rfl ?_
            have g19 : inrJ (xoJ (z17) ((srJ (z17) (16)))) := toJ_inr _
            have hx3 := xo_i hm2 (k := 16) (by omega)
            have : ((xoJ (z17) ((srJ (z17) (16))))) = NSM ((w14)) ((a2)) ((a3) - (a2)) 0 % 4294967296 := by rw [← NSM_of q1_ rfl rfl q3_]; exact hx3
            have : 0 ≤ ((xoJ (z17) ((srJ (z17) (16))))) ∧ ((xoJ (z17) ((srJ (z17) (16))))) < 4294967296 := rng_m hx3
            exact w_lreturn rfl (k ((xoJ (z17) ((srJ (z17) (16))))) σ _ _ H (SF_trans (SF_trans (SF_trans (SF_trans (SF_trans (SF_refl) hS_c210 (any_sub rfl)) hS_222 (any_sub rfl)) hS_266 (any_sub rfl)) hS8 (any_sub rfl)) hS15 (any_sub rfl)) (SA_trans (SA_trans (SA_trans (SA_trans (SA_trans (SA_refl) hA_c210 (any_subA rfl)) hA_222 (any_subA rfl)) hA_266 (any_subA rfl)) hA9 (any_subA rfl)) hA16 (any_subA rfl)) (show inrJ ((xoJ (z17) ((srJ (z17) (16))))) from g19) (show 0 ≤ ((xoJ (z17) ((srJ (z17) (16))))) ∧ ((xoJ (z17) ((srJ (z17) (16))))) < 4294967296 by omega) (show ((xoJ (z17) ((srJ (z17) (16))))) = NSM ((w14)) (a2) (a3 - a2) 0 % 4294967296 by assumption))
          · refine Ew_of (pcₚ := 274) (fun _ => x_lload rfl l266_16) ?_
            refine Ew_of (pcₚ := 275) (fun _ => x_aload_n rfl l266_1) ?_
            refine Ew_of (pcₚ := 277) (fun _ => x_iload rfl l266_15) ?_
            refine w_lI H (o := 14) (n := 65536) rfl (H.perm 14 rfl) rfl rfl (H.fix 14 rfl rfl) (show 0 ≤ x266_15 ∧ x266_15 < ((65536 : Nat) : Int) from q_616 b3 h2 j222_2 j266_2) (by decide) (fun v20 ev20 qv20 => ?_)
            have qv20 : (0 : Int) ≤ v20 ∧ v20 ≤ 255 := qv20
            have ev20 : (w14) (x266_15) = v20 := (congrFun ((funext (hA_266 14 rfl)).trans ((funext (hA_222 14 rfl)).trans ((funext (hA_c210 14 rfl)).trans (ew14)))) (x266_15)).symm.trans ev20
            have hvb := ev20
            refine w_i2l rfl (show inr (v20) from q_299 qv20) ?_
            refine Ew_of (pcₚ := 281) (fun _ => x_lload rfl l266_12) ?_
            refine w_stat24 rfl rfl (by rfl) (M357 H (show inrJ (v20) from q_576 qv20) (show inrJ (374761393) from q_575) (fun z25 σ F21 A22 H hS23 hA24 pz25_0 pz25_1 pz25_2 => ⟨rfl, ?_⟩))
            have hs1 := pz25_2 (u8 (((w14)) ((x266_15)))) 374761393 (by rw [hvb, u8_id (by omega)]; omega) (by decide)
            refine w_ladd rfl ?_
            refine Ew_of (pcₚ := 288) (fun _ => x_ldc2 (z := 4294967295) rfl (by decide)) ?_
            refine w_landE rfl ?_
            have g26 : inrJ (anJ ((x266_16 + z25)) (4294967295)) := toJ_inr _
            refine Ew_of (pcₚ := 291) (fun _ => x_bipush (z := 11) rfl (by decide)) ?_
            refine w_stat24 rfl rfl (by rfl) (M356 H (show inrJ ((anJ ((x266_16 + z25)) (4294967295))) from g26) (show inr (11) from q_326) (show 1 ≤ (11) ∧ (11) ≤ 31 from q_577) (fun z31 σ F27 A28 H hS29 hA30 pz31_0 pz31_1 pz31_2 => ⟨rfl, ?_⟩))
            have hs3 := pz31_2
            refine Ew_of (pcₚ := 296) (fun _ => x_lload rfl l266_4) ?_
            refine w_stat24 rfl rfl (by rfl) (M357 H (show inrJ (z31) from pz31_0) (show inrJ (2654435761) from q_578) (fun z36 σ F32 A33 H hS34 hA35 pz36_0 pz36_1 pz36_2 => ⟨rfl, ?_⟩))
            have hs4 := pz36_2
            refine Ew_of (pcₚ := 301) (fun _ => x_lstore rfl) ?_
            refine Ew_of (pcₚ := 304) (fun _ => x_iinc (len := 3) rfl (rk2_o (l266_15) rfl rfl)) ?_
            refine Ew_of (pcₚ := 266) (fun _ => x_goto rfl rfl) ?_
            have : ∃ xp xh x, NS1 ((w14)) ((a2)) ((a3) - (a2)) 0 xp xh ∧ (z36) = x % 4294967296 ∧ nS1n ((w14)) ((a3) - ((a3) - (a2)) % 4) (((a3) - (a2)) % 4).toNat (nS4n ((w14)) xp (((a3) - (a2)) % 16 / 4).toNat (adI xh ((a3) - (a2)))) = nS1n ((w14)) (((x266_15 + 1))) ((a3) - ((x266_15 + 1))).toNat x := by obtain ⟨xp, xh, x, q1, q2, q3⟩ := j266_q; exact ⟨xp, xh, _, q1, stp_i q2 hs1 hs3 hs4 (y2 := -1640531535) (by decide), q3.trans (nS1n_s (by omega) rfl (by omega))⟩
            exact ih266 _ (msE hm266 q_16 (q_17 b3)) _ σ _ _ ((x266_15 + 1)) (z36) (rk_o (rk2_o (l266_1) rfl rfl) rfl rfl) (rk_o (rk2_o (l266_3) rfl rfl) rfl rfl) (rk_o (rk2_o (l266_4) rfl rfl) rfl rfl) (rk_o (rk2_o (l266_6) rfl rfl) rfl rfl) (rk_o (rk2_o (l266_8) rfl rfl) rfl rfl) (rk_o (rk2_o (l266_12) rfl rfl) rfl rfl) (rk_s) (rk_o (rk2_s) rfl rfl) H (SF_trans (SF_trans (SF_trans (hS_266) hS23 (any_sub rfl)) hS29 (any_sub rfl)) hS34 (any_sub rfl)) (SA_trans (SA_trans (SA_trans (hA_266) hA24 (any_subA rfl)) hA30 (any_subA rfl)) hA35 (any_subA rfl))   (show inr ((x266_15 + 1)) from q_361 b3 h2 j266_0) (show inrJ (z36) from pz36_0) (show (x222_15) ≤ ((x266_15 + 1)) from q_161 j266_2) (show ((x266_15 + 1)) ≤ (x222_15) ∨ ((x266_15 + 1)) ≤ ((a3)) from q_160 b3) (show ∃ xp xh x, NS1 ((w14)) ((a2)) ((a3) - (a2)) 0 xp xh ∧ (z36) = x % 4294967296 ∧ nS1n ((w14)) ((a3) - ((a3) - (a2)) % 4) (((a3) - (a2)) % 4).toNat (nS4n ((w14)) xp (((a3) - (a2)) % 16 / 4).toNat (adI xh ((a3) - (a2)))) = nS1n ((w14)) (((x266_15 + 1))) ((a3) - ((x266_15 + 1))).toNat x by assumption) rfl
      · refine Ew_of (pcₚ := 232) (fun _ => x_lload rfl l222_16) ?_
        refine Ew_of (pcₚ := 233) (fun _ => x_aload_n rfl l222_1) ?_
        refine Ew_of (pcₚ := 235) (fun _ => x_iload rfl l222_15) ?_
        refine w_stat24 rfl rfl (by rfl) (M358_14 H (w14) ((funext (hA_222 14 rfl)).trans ((funext (hA_c210 14 rfl)).trans (ew14))) (show inr (x222_15) from j222_0) (show 0 ≤ (x222_15) ∧ (x222_15) + 3 < 65536 from q_617 b2 h2 j222_2) (fun z41 σ F37 A38 H hS39 hA40 pz41_0 pz41_1 => ⟨rfl, ?_⟩))
        have hwd2 := pz41_1
        refine Ew_of (pcₚ := 240) (fun _ => x_lload rfl l222_8) ?_
        refine w_stat24 rfl rfl (by rfl) (M357 H (show inrJ (z41) from pz41_0) (show inrJ (3266489917) from q_573) (fun z46 σ F42 A43 H hS44 hA45 pz46_0 pz46_1 pz46_2 => ⟨rfl, ?_⟩))
        have hu1 := pz46_2 (wdI ((w14)) ((x222_15))) (-1028477379) (by rw [hwd2]; exact wdI_m) (by decide)
        refine w_ladd rfl ?_
        refine Ew_of (pcₚ := 247) (fun _ => x_ldc2 (z := 4294967295) rfl (by decide)) ?_
        refine w_landE rfl ?_
        have g47 : inrJ (anJ ((x222_16 + z46)) (4294967295)) := toJ_inr _
        refine Ew_of (pcₚ := 250) (fun _ => x_bipush (z := 17) rfl (by decide)) ?_
        refine w_stat24 rfl rfl (by rfl) (M356 H (show inrJ ((anJ ((x222_16 + z46)) (4294967295))) from g47) (show inr (17) from q_582) (show 1 ≤ (17) ∧ (17) ≤ 31 from q_581) (fun z52 σ F48 A49 H hS50 hA51 pz52_0 pz52_1 pz52_2 => ⟨rfl, ?_⟩))
        have hu3 := pz52_2
        refine Ew_of (pcₚ := 255) (fun _ => x_lload rfl l222_10) ?_
        refine w_stat24 rfl rfl (by rfl) (M357 H (show inrJ (z52) from pz52_0) (show inrJ (668265263) from q_583) (fun z57 σ F53 A54 H hS55 hA56 pz57_0 pz57_1 pz57_2 => ⟨rfl, ?_⟩))
        have hu4 := pz57_2
        refine Ew_of (pcₚ := 260) (fun _ => x_lstore rfl) ?_
        refine Ew_of (pcₚ := 263) (fun _ => x_iinc (len := 3) rfl (rk2_o (l222_15) rfl rfl)) ?_
        refine Ew_of (pcₚ := 222) (fun _ => x_goto rfl rfl) ?_
        have : ∃ xp xh x, NS1 ((w14)) ((a2)) ((a3) - (a2)) 0 xp xh ∧ (z57) = x % 4294967296 ∧ nS4n ((w14)) xp (((a3) - (a2)) % 16 / 4).toNat (adI xh ((a3) - (a2))) = nS4n ((w14)) (((x222_15 + 4))) (((a3) - ((x222_15 + 4))) / 4).toNat x := by obtain ⟨xp, xh, x, q1, q2, q3⟩ := j222_q; exact ⟨xp, xh, _, q1, stp_i q2 hu1 hu3 hu4 (y2 := 668265263) (by decide), q3.trans (nS4n_s (by omega) rfl (by omega))⟩
        exact ih222 _ (msE hm222 q_586 (q_587 b2)) _ σ _ _ ((x222_15 + 4)) (z57) (rk_o (rk2_o (l222_1) rfl rfl) rfl rfl) (rk_o (rk2_o (l222_3) rfl rfl) rfl rfl) (rk_o (rk2_o (l222_4) rfl rfl) rfl rfl) (rk_o (rk2_o (l222_6) rfl rfl) rfl rfl) (rk_o (rk2_o (l222_8) rfl rfl) rfl rfl) (rk_o (rk2_o (l222_10) rfl rfl) rfl rfl) (rk_o (rk2_o (l222_12) rfl rfl) rfl rfl) (rk_s) (rk_o (rk2_s) rfl rfl) H (SF_trans (SF_trans (SF_trans (SF_trans (hS_222) hS39 (any_sub rfl)) hS44 (any_sub rfl)) hS50 (any_sub rfl)) hS55 (any_sub rfl)) (SA_trans (SA_trans (SA_trans (SA_trans (hA_222) hA40 (any_subA rfl)) hA45 (any_subA rfl)) hA51 (any_subA rfl)) hA56 (any_subA rfl))   (show inr ((x222_15 + 4)) from q_618 b2 h2 j222_0) (show inrJ (z57) from pz57_0) (show (a2) ≤ ((x222_15 + 4)) ∧ ((x222_15 + 4)) ≤ (a3) from q_584 b2 j222_2) (show ((a3) - ((x222_15 + 4))) % 4 = ((a3) - (a2)) % 4 by omega) (show ∃ xp xh x, NS1 ((w14)) ((a2)) ((a3) - (a2)) 0 xp xh ∧ (z57) = x % 4294967296 ∧ nS4n ((w14)) xp (((a3) - (a2)) % 16 / 4).toNat (adI xh ((a3) - (a2))) = nS4n ((w14)) (((x222_15 + 4))) (((a3) - ((x222_15 + 4))) / 4).toNat x by assumption) rfl
  refine Ew_of (pcₚ := 39) (fun _ => x_iload rfl (rk2_o (rk_o (rk_s) rfl rfl) rfl rfl)) ?_
  refine Ew_of (pcₚ := 41) (fun _ => x_bipush (z := 16) rfl (by decide)) ?_
  refine w_icmplt (t := 210) rfl rfl (show inr ((a3 - a2)) from q_614 h2) (show inr (16) from q_345) (fun b58 => ?_) (fun b58 => ?_)
  · have : NSm ((w14)) ((a2)) ((a3) - (a2)) 0 ((a2)) ((374761393)) := by first | exact hNS | exact NSm_n (by omega) (by omega) (by omega) (by rfl)
    exact hc210  _ σ _ _ (a2) (374761393) (rk2_o (rk_o (rk_o (rk2_o (rk2_o (rk2_o (rk2_o (rk2_o (rfl) rfl rfl) rfl rfl) rfl rfl) rfl rfl) rfl rfl) rfl rfl) rfl rfl) rfl rfl) (rk2_o (rk_o (rk_o (rk2_o (rk2_o (rk2_o (rk2_o (rk2_o (rfl) rfl rfl) rfl rfl) rfl rfl) rfl rfl) rfl rfl) rfl rfl) rfl rfl) rfl rfl) (rk2_o (rk_o (rk_o (rk2_o (rk2_o (rk2_o (rk2_o (rk2_s) rfl rfl) rfl rfl) rfl rfl) rfl rfl) rfl rfl) rfl rfl) rfl rfl) (rk2_o (rk_o (rk_o (rk2_o (rk2_o (rk2_o (rk2_s) rfl rfl) rfl rfl) rfl rfl) rfl rfl) rfl rfl) rfl rfl) (rk2_o (rk_o (rk_o (rk2_o (rk2_o (rk2_s) rfl rfl) rfl rfl) rfl rfl) rfl rfl) rfl rfl) (rk2_o (rk_o (rk_o (rk2_o (rk2_s) rfl rfl) rfl rfl) rfl rfl) rfl rfl) (rk2_o (rk_o (rk_o (rk2_s) rfl rfl) rfl rfl) rfl rfl) (rk2_o (rk_o (rk_s) rfl rfl) rfl rfl) (rk2_o (rk_s) rfl rfl) (rk2_s) H (SF_refl) (SA_refl)   (show inr (a2) from h0) (show inrJ (374761393) from q_575) (show (a2) ≤ (a2) ∧ (a2) ≤ (a3) from q_619 h2) (show NSm ((w14)) ((a2)) ((a3) - (a2)) 0 ((a2)) ((374761393)) by assumption)
  · refine Ew_of (pcₚ := 45) (fun _ => x_aload_n rfl (rk2_o (rk_o (rk_o (rk2_o (rk2_o (rk2_o (rk2_o (rk2_o (rfl) rfl rfl) rfl rfl) rfl rfl) rfl rfl) rfl rfl) rfl rfl) rfl rfl) rfl rfl)) ?_
    refine w_gT H (o := 3) (t := 17) rfl (H.perm 3 rfl) rfl rfl rfl rfl rfl rfl ?_
    refine Ew_of (pcₚ := 49) (fun _ => x_iconst rfl) ?_
    refine Ew_of (pcₚ := 51) (fun _ => x_lload rfl (rk2_o (rk_o (rk_o (rk2_o (rk2_o (rk2_o (rk2_o (rk2_s) rfl rfl) rfl rfl) rfl rfl) rfl rfl) rfl rfl) rfl rfl) rfl rfl)) ?_
    refine Ew_of (pcₚ := 53) (fun _ => x_lload rfl (rk2_o (rk_o (rk_o (rk2_o (rk2_o (rk2_o (rk2_s) rfl rfl) rfl rfl) rfl rfl) rfl rfl) rfl rfl) rfl rfl)) ?_
    refine w_ladd rfl ?_
    refine Ew_of (pcₚ := 57) (fun _ => x_ldc2 (z := 4294967295) rfl (by decide)) ?_
    refine w_landE rfl ?_
    have g59 : inrJ (anJ ((2654435761 + 2246822519)) (4294967295)) := toJ_inr _
    refine w_sJ H (o := 17) (n := 4) rfl (H.perm 17 rfl) rfl rfl (H.fix 17 rfl rfl) (show 0 ≤ 0 ∧ 0 < ((4 : Nat) : Int) from q_589) (by decide) (show (-9223372036854775808 : Int) ≤ (anJ ((2654435761 + 2246822519)) (4294967295)) ∧ (anJ ((2654435761 + 2246822519)) (4294967295)) ≤ 9223372036854775807 by omega) (fun σ H => ?_)
    refine Ew_of (pcₚ := 60) (fun _ => x_aload_n rfl (rk2_o (rk_o (rk_o (rk2_o (rk2_o (rk2_o (rk2_o (rk2_o (rfl) rfl rfl) rfl rfl) rfl rfl) rfl rfl) rfl rfl) rfl rfl) rfl rfl) rfl rfl)) ?_
    refine w_gT H (o := 3) (t := 17) rfl (H.perm 3 rfl) rfl rfl rfl rfl rfl rfl ?_
    refine Ew_of (pcₚ := 64) (fun _ => x_iconst rfl) ?_
    refine Ew_of (pcₚ := 66) (fun _ => x_lload rfl (rk2_o (rk_o (rk_o (rk2_o (rk2_o (rk2_o (rk2_s) rfl rfl) rfl rfl) rfl rfl) rfl rfl) rfl rfl) rfl rfl)) ?_
    refine w_sJ H (o := 17) (n := 4) rfl (H.perm 17 rfl) rfl rfl (H.fix 17 rfl rfl) (show 0 ≤ 1 ∧ 1 < ((4 : Nat) : Int) from q_591) (by decide) (show (-9223372036854775808 : Int) ≤ 2246822519 ∧ 2246822519 ≤ 9223372036854775807 from q_590) (fun σ H => ?_)
    refine Ew_of (pcₚ := 68) (fun _ => x_aload_n rfl (rk2_o (rk_o (rk_o (rk2_o (rk2_o (rk2_o (rk2_o (rk2_o (rfl) rfl rfl) rfl rfl) rfl rfl) rfl rfl) rfl rfl) rfl rfl) rfl rfl) rfl rfl)) ?_
    refine w_gT H (o := 3) (t := 17) rfl (H.perm 3 rfl) rfl rfl rfl rfl rfl rfl ?_
    refine Ew_of (pcₚ := 72) (fun _ => x_iconst rfl) ?_
    refine Ew_of (pcₚ := 73) (fun _ => x_lconst (z := 0) rfl (by decide)) ?_
    refine w_sJ H (o := 17) (n := 4) rfl (H.perm 17 rfl) rfl rfl (H.fix 17 rfl rfl) (show 0 ≤ 2 ∧ 2 < ((4 : Nat) : Int) from q_593) (by decide) (show (-9223372036854775808 : Int) ≤ 0 ∧ 0 ≤ 9223372036854775807 from q_592) (fun σ H => ?_)
    refine Ew_of (pcₚ := 75) (fun _ => x_aload_n rfl (rk2_o (rk_o (rk_o (rk2_o (rk2_o (rk2_o (rk2_o (rk2_o (rfl) rfl rfl) rfl rfl) rfl rfl) rfl rfl) rfl rfl) rfl rfl) rfl rfl) rfl rfl)) ?_
    refine w_gT H (o := 3) (t := 17) rfl (H.perm 3 rfl) rfl rfl rfl rfl rfl rfl ?_
    refine Ew_of (pcₚ := 79) (fun _ => x_iconst rfl) ?_
    refine Ew_of (pcₚ := 80) (fun _ => x_lconst (z := 0) rfl (by decide)) ?_
    refine Ew_of (pcₚ := 82) (fun _ => x_lload rfl (rk2_o (rk_o (rk_o (rk2_o (rk2_o (rk2_o (rk2_o (rk2_s) rfl rfl) rfl rfl) rfl rfl) rfl rfl) rfl rfl) rfl rfl) rfl rfl)) ?_
    refine w_lsub rfl ?_
    refine Ew_of (pcₚ := 86) (fun _ => x_ldc2 (z := 4294967295) rfl (by decide)) ?_
    refine w_landE rfl ?_
    have g60 : inrJ (anJ ((0 - 2654435761)) (4294967295)) := toJ_inr _
    refine w_sJ H (o := 17) (n := 4) rfl (H.perm 17 rfl) rfl rfl (H.fix 17 rfl rfl) (show 0 ≤ 3 ∧ 3 < ((4 : Nat) : Int) from q_594) (by decide) (show (-9223372036854775808 : Int) ≤ (anJ ((0 - 2654435761)) (4294967295)) ∧ (anJ ((0 - 2654435761)) (4294967295)) ≤ 9223372036854775807 by omega) (fun σ H => ?_)
    have : LQA ((w14)) ((a2)) ((a3) - (a2)) ((a2)) 0 ((upd1 (upd1 (upd1 (upd1 (A 17) (0) ((anJ ((2654435761 + 2246822519)) (4294967295)))) (1) (2246822519)) (2) (0)) (3) ((anJ ((0 - 2654435761)) (4294967295))))) := LQA_i rfl
    suffices hl88 : ∀ (m : Nat), ∀ (ls : rO) (σ : rS) (F_88 : hF) (A_88 : hA) (x88_15 : Int), rlook ls 0 = some (.ref (D 3)) → rlook ls 1 = some (.ref (D 14)) → rlook ls 3 = some (I (a3)) → rlook ls 4 = some (J (2654435761)) → rlook ls 6 = some (J (2246822519)) → rlook ls 8 = some (J (3266489917)) → rlook ls 10 = some (J (668265263)) → rlook ls 12 = some (J (374761393)) → rlook ls 14 = some (I ((a3 - a2))) → rlook ls 15 = some (I (x88_15)) → HS σ0 σ D N F_88 A_88 → SF [] F F_88 → SA [17] (updA (updA (updA (updA A 17 (0) ((anJ ((2654435761 + 2246822519)) (4294967295)))) 17 (1) (2246822519)) 17 (2) (0)) 17 (3) ((anJ ((0 - 2654435761)) (4294967295)))) A_88 → ∀ w88_17 : Int → Int, A_88 17 = w88_17 → (inr (x88_15)) → ((a2) ≤ (x88_15) ∧ (x88_15) ≤ (a3)) → (((x88_15) - (a2)) % 16 = 0) → (LQA ((w14)) ((a2)) ((a3) - (a2)) ((x88_15)) 0 ((w88_17))) → ((a3) - (x88_15)).toNat = m → Ew 359 (d + 1) 88 ls [] σ c s Q from
      hl88 _ _ σ _ _ (a2) (rk2_o (rk_o (rk_o (rk2_o (rk2_o (rk2_o (rk2_o (rk2_o (rfl) rfl rfl) rfl rfl) rfl rfl) rfl rfl) rfl rfl) rfl rfl) rfl rfl) rfl rfl) (rk2_o (rk_o (rk_o (rk2_o (rk2_o (rk2_o (rk2_o (rk2_o (rfl) rfl rfl) rfl rfl) rfl rfl) rfl rfl) rfl rfl) rfl rfl) rfl rfl) rfl rfl) (rk2_o (rk_o (rk_o (rk2_o (rk2_o (rk2_o (rk2_o (rk2_o (rfl) rfl rfl) rfl rfl) rfl rfl) rfl rfl) rfl rfl) rfl rfl) rfl rfl) rfl rfl) (rk2_o (rk_o (rk_o (rk2_o (rk2_o (rk2_o (rk2_o (rk2_s) rfl rfl) rfl rfl) rfl rfl) rfl rfl) rfl rfl) rfl rfl) rfl rfl) (rk2_o (rk_o (rk_o (rk2_o (rk2_o (rk2_o (rk2_s) rfl rfl) rfl rfl) rfl rfl) rfl rfl) rfl rfl) rfl rfl) (rk2_o (rk_o (rk_o (rk2_o (rk2_o (rk2_s) rfl rfl) rfl rfl) rfl rfl) rfl rfl) rfl rfl) (rk2_o (rk_o (rk_o (rk2_o (rk2_s) rfl rfl) rfl rfl) rfl rfl) rfl rfl) (rk2_o (rk_o (rk_o (rk2_s) rfl rfl) rfl rfl) rfl rfl) (rk2_o (rk_o (rk_s) rfl rfl) rfl rfl) (rk2_o (rk_s) rfl rfl) H (SF_refl) (SA_refl)  (upd1 (upd1 (upd1 (upd1 (A 17) (0) ((anJ ((2654435761 + 2246822519)) (4294967295)))) (1) (2246822519)) (2) (0)) (3) ((anJ ((0 - 2654435761)) (4294967295)))) (rfl) (show inr (a2) from h0) (show (a2) ≤ (a2) ∧ (a2) ≤ (a3) from q_619 h2) (show ((a2) - (a2)) % 16 = 0 by omega) (show LQA ((w14)) ((a2)) ((a3) - (a2)) ((a2)) 0 ((upd1 (upd1 (upd1 (upd1 (A 17) (0) ((anJ ((2654435761 + 2246822519)) (4294967295)))) (1) (2246822519)) (2) (0)) (3) ((anJ ((0 - 2654435761)) (4294967295))))) by assumption) rfl
    as_aux_lemma =>
    intro m
    induction m using Nat.strongRecOn with
    | _ m ih88 =>
      intro ls σ F_88 A_88 x88_15 l88_0 l88_1 l88_3 l88_4 l88_6 l88_8 l88_10 l88_12 l88_14 l88_15 H hS_88 hA_88  w88_17 ew88_17 j88_0 j88_1 j88_2 j88_3 hm88
      have j88_L : LQA ((w14)) ((a2)) ((a3) - (a2)) ((x88_15)) 0 ((w88_17)) := j88_3
      refine Ew_of (pcₚ := 89) (fun _ => x_iload_n rfl l88_3) ?_
      refine Ew_of (pcₚ := 91) (fun _ => x_iload rfl l88_15) ?_
      refine w_isub rfl ?_
      refine Ew_of (pcₚ := 94) (fun _ => x_bipush (z := 16) rfl (by decide)) ?_
      refine w_icmplt (t := 158) rfl rfl (show inr ((a3 - x88_15)) from q_615 h2 j88_1) (show inr (16) from q_345) (fun b61 => ?_) (fun b61 => ?_)
      · refine Ew_of (pcₚ := 159) (fun _ => x_aload_n rfl l88_0) ?_
        refine w_gT H (o := 3) (t := 17) rfl (H.perm 3 rfl) rfl rfl rfl rfl rfl rfl ?_
        refine Ew_of (pcₚ := 163) (fun _ => x_iconst rfl) ?_
        refine w_lJ H (o := 17) (n := 4) rfl (H.perm 17 rfl) rfl rfl (H.fix 17 rfl rfl) (show 0 ≤ 0 ∧ 0 < ((4 : Nat) : Int) from q_589) (by decide) (fun v62 ev62 qv62 => ?_)
        have qv62 : (-9223372036854775808 : Int) ≤ v62 ∧ v62 ≤ 9223372036854775807 := qv62
        have ev62 : (w88_17) (0) = v62 := (congrFun (ew88_17) (0)).symm.trans ev62
        have a0_ := ev62
        refine Ew_of (pcₚ := 165) (fun _ => x_iconst rfl) ?_
        refine w_stat24 rfl rfl (by rfl) (M356 H (show inrJ (v62) by omega) (show inr (1) from q_135) (show 1 ≤ (1) ∧ (1) ≤ 31 from q_595) (fun z67 σ F63 A64 H hS65 hA66 pz67_0 pz67_1 pz67_2 => ⟨rfl, ?_⟩))
        have b0_ := pz67_2
        refine Ew_of (pcₚ := 169) (fun _ => x_aload_n rfl l88_0) ?_
        refine w_gT H (o := 3) (t := 17) rfl (H.perm 3 rfl) rfl rfl rfl rfl rfl rfl ?_
        refine Ew_of (pcₚ := 173) (fun _ => x_iconst rfl) ?_
        refine w_lJ H (o := 17) (n := 4) rfl (H.perm 17 rfl) rfl rfl (H.fix 17 rfl rfl) (show 0 ≤ 1 ∧ 1 < ((4 : Nat) : Int) from q_591) (by decide) (fun v68 ev68 qv68 => ?_)
        have qv68 : (-9223372036854775808 : Int) ≤ v68 ∧ v68 ≤ 9223372036854775807 := qv68
        have ev68 : (w88_17) (1) = v68 := (congrFun ((funext (hA66 17 rfl)).trans (ew88_17)) (1)).symm.trans ev68
        have a1_ := ev68
        refine Ew_of (pcₚ := 176) (fun _ => x_bipush (z := 7) rfl (by decide)) ?_
        refine w_stat24 rfl rfl (by rfl) (M356 H (show inrJ (v68) by omega) (show inr (7) from q_597) (show 1 ≤ (7) ∧ (7) ≤ 31 from q_596) (fun z73 σ F69 A70 H hS71 hA72 pz73_0 pz73_1 pz73_2 => ⟨rfl, ?_⟩))
        have b1_ := pz73_2
        refine w_ladd rfl ?_
        refine Ew_of (pcₚ := 181) (fun _ => x_aload_n rfl l88_0) ?_
        refine w_gT H (o := 3) (t := 17) rfl (H.perm 3 rfl) rfl rfl rfl rfl rfl rfl ?_
        refine Ew_of (pcₚ := 185) (fun _ => x_iconst rfl) ?_
        refine w_lJ H (o := 17) (n := 4) rfl (H.perm 17 rfl) rfl rfl (H.fix 17 rfl rfl) (show 0 ≤ 2 ∧ 2 < ((4 : Nat) : Int) from q_593) (by decide) (fun v74 ev74 qv74 => ?_)
        have qv74 : (-9223372036854775808 : Int) ≤ v74 ∧ v74 ≤ 9223372036854775807 := qv74
        have ev74 : (w88_17) (2) = v74 := (congrFun ((funext (hA72 17 rfl)).trans ((funext (hA66 17 rfl)).trans (ew88_17))) (2)).symm.trans ev74
        have a2_ := ev74
        refine Ew_of (pcₚ := 188) (fun _ => x_bipush (z := 12) rfl (by decide)) ?_
        refine w_stat24 rfl rfl (by rfl) (M356 H (show inrJ (v74) by omega) (show inr (12) from q_599) (show 1 ≤ (12) ∧ (12) ≤ 31 from q_598) (fun z79 σ F75 A76 H hS77 hA78 pz79_0 pz79_1 pz79_2 => ⟨rfl, ?_⟩))
        have b2_ := pz79_2
        refine w_ladd rfl ?_
        refine Ew_of (pcₚ := 193) (fun _ => x_aload_n rfl l88_0) ?_
        refine w_gT H (o := 3) (t := 17) rfl (H.perm 3 rfl) rfl rfl rfl rfl rfl rfl ?_
        refine Ew_of (pcₚ := 197) (fun _ => x_iconst rfl) ?_
        refine w_lJ H (o := 17) (n := 4) rfl (H.perm 17 rfl) rfl rfl (H.fix 17 rfl rfl) (show 0 ≤ 3 ∧ 3 < ((4 : Nat) : Int) from q_594) (by decide) (fun v80 ev80 qv80 => ?_)
        have qv80 : (-9223372036854775808 : Int) ≤ v80 ∧ v80 ≤ 9223372036854775807 := qv80
        have ev80 : (w88_17) (3) = v80 := (congrFun ((funext (hA78 17 rfl)).trans ((funext (hA72 17 rfl)).trans ((funext (hA66 17 rfl)).trans (ew88_17)))) (3)).symm.trans ev80
        have a3_ := ev80
        refine Ew_of (pcₚ := 200) (fun _ => x_bipush (z := 18) rfl (by decide)) ?_
        refine w_stat24 rfl rfl (by rfl) (M356 H (show inrJ (v80) by omega) (show inr (18) from q_601) (show 1 ≤ (18) ∧ (18) ≤ 31 from q_600) (fun z85 σ F81 A82 H hS83 hA84 pz85_0 pz85_1 pz85_2 => ⟨rfl, ?_⟩))
        have b3_ := pz85_2
        refine w_ladd rfl ?_
        refine Ew_of (pcₚ := 207) (fun _ => x_ldc2 (z := 4294967295) rfl (by decide)) ?_
        refine w_landE rfl ?_
        have g86 : inrJ (anJ ((((z67 + z73) + z79) + z85)) (4294967295)) := toJ_inr _
        have hNS : NSm ((w14)) ((a2)) ((a3) - (a2)) 0 ((x88_15)) (((anJ ((((z67 + z73) + z79) + z85)) (4294967295)))) := NSm_y (by omega) (by omega) j88_L a0_ a1_ a2_ a3_ b0_ b1_ b2_ b3_
        refine Ew_of (pcₚ := 210) (fun _ => x_lstore rfl) ?_
        have : NSm ((w14)) ((a2)) ((a3) - (a2)) 0 ((x88_15)) (((anJ ((((z67 + z73) + z79) + z85)) (4294967295)))) := by first | exact hNS | exact NSm_n (by omega) (by omega) (by omega) (by rfl)
        exact hc210  _ σ _ _ (x88_15) ((anJ ((((z67 + z73) + z79) + z85)) (4294967295))) (rk2_o (l88_1) rfl rfl) (rk2_o (l88_3) rfl rfl) (rk2_o (l88_4) rfl rfl) (rk2_o (l88_6) rfl rfl) (rk2_o (l88_8) rfl rfl) (rk2_o (l88_10) rfl rfl) (rk2_o (l88_12) rfl rfl) (rk2_o (l88_14) rfl rfl) (rk2_o (l88_15) rfl rfl) (rk2_s) H (SF_trans (SF_trans (SF_trans (SF_trans (SF_trans (SF_refl) hS_88 (any_sub rfl)) hS65 (any_sub rfl)) hS71 (any_sub rfl)) hS77 (any_sub rfl)) hS83 (any_sub rfl)) (SA_trans (SA_trans (SA_trans (SA_trans (SA_trans (SA_upd (SA_upd (SA_upd (SA_upd (SA_refl) rfl) rfl) rfl) rfl) hA_88 (any_subA rfl)) hA66 (any_subA rfl)) hA72 (any_subA rfl)) hA78 (any_subA rfl)) hA84 (any_subA rfl))   (show inr (x88_15) from j88_0) (show inrJ ((anJ ((((z67 + z73) + z79) + z85)) (4294967295))) from g86) (show (a2) ≤ (x88_15) ∧ (x88_15) ≤ (a3) from j88_1) (hNS)
      · refine Ew_of (pcₚ := 98) (fun _ => x_iconst rfl) ?_
        refine Ew_of (pcₚ := 100) (fun _ => x_istore rfl) ?_
        suffices hl100 : ∀ (m : Nat), ∀ (ls : rO) (σ : rS) (F_100 : hF) (A_100 : hA) (x100_15 : Int) (x100_18 : Int), rlook ls 0 = some (.ref (D 3)) → rlook ls 1 = some (.ref (D 14)) → rlook ls 3 = some (I (a3)) → rlook ls 4 = some (J (2654435761)) → rlook ls 6 = some (J (2246822519)) → rlook ls 8 = some (J (3266489917)) → rlook ls 10 = some (J (668265263)) → rlook ls 12 = some (J (374761393)) → rlook ls 14 = some (I ((a3 - a2))) → rlook ls 15 = some (I (x100_15)) → rlook ls 18 = some (I (x100_18)) → HS σ0 σ D N F_100 A_100 → SF [] F_88 F_100 → SA [17] A_88 A_100 → ∀ w100_17 : Int → Int, A_100 17 = w100_17 → (inr (x100_15)) → (inr (x100_18)) → ((0) ≤ (x100_18)) → ((x100_18) ≤ (0) ∨ (x100_18) ≤ (4)) → ((x100_15) = (x88_15) + 4 * (x100_18)) → (LQA ((w14)) ((a2)) ((a3) - (a2)) ((x88_15)) ((x100_18)) ((w100_17))) → ((4) - (x100_18)).toNat = m → Ew 359 (d + 1) 100 ls [] σ c s Q from
          hl100 _ _ σ _ _ (x88_15) (0) (rk_o (l88_0) rfl rfl) (rk_o (l88_1) rfl rfl) (rk_o (l88_3) rfl rfl) (rk_o (l88_4) rfl rfl) (rk_o (l88_6) rfl rfl) (rk_o (l88_8) rfl rfl) (rk_o (l88_10) rfl rfl) (rk_o (l88_12) rfl rfl) (rk_o (l88_14) rfl rfl) (rk_o (l88_15) rfl rfl) (rk_s) H (SF_refl) (SA_refl)  (w88_17) (ew88_17) (show inr (x88_15) from j88_0) (show inr (0) from q_2) (show (0) ≤ (0) from q_1) (show (0) ≤ (0) ∨ (0) ≤ (4) from q_603) (show (x88_15) = (x88_15) + 4 * (0) from q_602) (j88_L) rfl
        as_aux_lemma =>
        intro m
        induction m using Nat.strongRecOn with
        | _ m ih100 =>
          intro ls σ F_100 A_100 x100_15 x100_18 l100_0 l100_1 l100_3 l100_4 l100_6 l100_8 l100_10 l100_12 l100_14 l100_15 l100_18 H hS_100 hA_100  w100_17 ew100_17 j100_0 j100_1 j100_2 j100_3 j100_4 j100_5 hm100
          refine Ew_of (pcₚ := 102) (fun _ => x_iload rfl l100_18) ?_
          refine Ew_of (pcₚ := 103) (fun _ => x_iconst rfl) ?_
          refine w_icmpge (t := 155) rfl rfl (show inr (x100_18) from j100_1) (show inr (4) from q_216) (fun b87 => ?_) (fun b87 => ?_)
          · refine Ew_of (pcₚ := 88) (fun _ => x_goto rfl rfl) ?_
            have : LQA ((w14)) ((a2)) ((a3) - (a2)) ((x100_15)) 0 ((w100_17)) := LQA_e j100_5 (by omega) (by omega)
            exact ih88 _ (msE hm88 (q_604 b87 j100_4) (q_354 b61)) _ σ _ _ (x100_15) (l100_0) (l100_1) (l100_3) (l100_4) (l100_6) (l100_8) (l100_10) (l100_12) (l100_14) (l100_15) H (SF_trans (hS_88) hS_100 (any_sub rfl)) (SA_trans (hA_88) hA_100 (any_subA rfl))  (w100_17) (ew100_17) (show inr (x100_15) from j100_0) (show (a2) ≤ (x100_15) ∧ (x100_15) ≤ (a3) by omega) (show ((x100_15) - (a2)) % 16 = 0 by omega) (show LQA ((w14)) ((a2)) ((a3) - (a2)) ((x100_15)) 0 ((w100_17)) by assumption) rfl
          · refine Ew_of (pcₚ := 107) (fun _ => x_aload_n rfl l100_0) ?_
            refine w_gT H (o := 3) (t := 17) rfl (H.perm 3 rfl) rfl rfl rfl rfl rfl rfl ?_
            refine Ew_of (pcₚ := 112) (fun _ => x_iload rfl l100_18) ?_
            refine Ew_of (pcₚ := 113) (fun _ => x_aload_n rfl l100_0) ?_
            refine w_gT H (o := 3) (t := 17) rfl (H.perm 3 rfl) rfl rfl rfl rfl rfl rfl ?_
            refine Ew_of (pcₚ := 118) (fun _ => x_iload rfl l100_18) ?_
            refine w_lJ H (o := 17) (n := 4) rfl (H.perm 17 rfl) rfl rfl (H.fix 17 rfl rfl) (show 0 ≤ x100_18 ∧ x100_18 < ((4 : Nat) : Int) from q_605 b87 j100_2) (by decide) (fun v88 ev88 qv88 => ?_)
            have qv88 : (-9223372036854775808 : Int) ≤ v88 ∧ v88 ≤ 9223372036854775807 := qv88
            have ev88 : (w100_17) (x100_18) = v88 := (congrFun (ew100_17) (x100_18)).symm.trans ev88
            have hlv := ev88
            refine Ew_of (pcₚ := 120) (fun _ => x_aload_n rfl l100_1) ?_
            refine Ew_of (pcₚ := 122) (fun _ => x_iload rfl l100_15) ?_
            refine w_stat24 rfl rfl (by rfl) (M358_14 H (w14) ((funext (hA_100 14 rfl)).trans ((funext (hA_88 14 rfl)).trans (ew14))) (show inr (x100_15) from j100_0) (show 0 ≤ (x100_15) ∧ (x100_15) + 3 < 65536 from q_620 b61 b87 h2 j100_2 j100_4 j88_1) (fun z93 σ F89 A90 H hS91 hA92 pz93_0 pz93_1 => ⟨rfl, ?_⟩))
            have hwd := pz93_1
            refine Ew_of (pcₚ := 127) (fun _ => x_lload rfl l100_6) ?_
            refine w_stat24 rfl rfl (by rfl) (M357 H (show inrJ (z93) from pz93_0) (show inrJ (2246822519) from q_572) (fun z98 σ F94 A95 H hS96 hA97 pz98_0 pz98_1 pz98_2 => ⟨rfl, ?_⟩))
            have ht1 := pz98_2 (wdI ((w14)) ((x100_15))) (-2048144777) (by rw [hwd]; exact wdI_m) (by decide)
            refine w_ladd rfl ?_
            refine Ew_of (pcₚ := 134) (fun _ => x_ldc2 (z := 4294967295) rfl (by decide)) ?_
            refine w_landE rfl ?_
            have g99 : inrJ (anJ ((v88 + z98)) (4294967295)) := toJ_inr _
            refine Ew_of (pcₚ := 137) (fun _ => x_bipush (z := 13) rfl (by decide)) ?_
            refine w_stat24 rfl rfl (by rfl) (M356 H (show inrJ ((anJ ((v88 + z98)) (4294967295))) from g99) (show inr (13) from q_350) (show 1 ≤ (13) ∧ (13) ≤ 31 from q_607) (fun z104 σ F100 A101 H hS102 hA103 pz104_0 pz104_1 pz104_2 => ⟨rfl, ?_⟩))
            have ht3 := pz104_2
            refine Ew_of (pcₚ := 142) (fun _ => x_lload rfl l100_4) ?_
            refine w_stat24 rfl rfl (by rfl) (M357 H (show inrJ (z104) from pz104_0) (show inrJ (2654435761) from q_578) (fun z109 σ F105 A106 H hS107 hA108 pz109_0 pz109_1 pz109_2 => ⟨rfl, ?_⟩))
            have ht4 := pz109_2
            refine w_sJ H (o := 17) (n := 4) rfl (H.perm 17 rfl) rfl rfl (H.fix 17 rfl rfl) (show 0 ≤ x100_18 ∧ x100_18 < ((4 : Nat) : Int) from q_605 b87 j100_2) (by decide) (show (-9223372036854775808 : Int) ≤ z109 ∧ z109 ≤ 9223372036854775807 by omega) (fun σ H => ?_)
            have hqa := LQA_s (k2 := (x100_18) + 1) (q := (x100_15)) j100_5 (by omega) (by omega) rfl (by omega) (fun x hx => stp_i (hlv.symm.trans hx) ht1 ht3 ht4 (y2 := -1640531535) (by decide))
            refine Ew_of (pcₚ := 149) (fun _ => x_iinc (len := 3) rfl (l100_15)) ?_
            refine Ew_of (pcₚ := 152) (fun _ => x_iinc (len := 3) rfl (rk_o (l100_18) rfl rfl)) ?_
            refine Ew_of (pcₚ := 100) (fun _ => x_goto rfl rfl) ?_
            exact ih100 _ (msE hm100 q_612 (q_613 b87)) _ σ _ _ ((x100_15 + 4)) ((x100_18 + 1)) (rk_o (rk_o (l100_0) rfl rfl) rfl rfl) (rk_o (rk_o (l100_1) rfl rfl) rfl rfl) (rk_o (rk_o (l100_3) rfl rfl) rfl rfl) (rk_o (rk_o (l100_4) rfl rfl) rfl rfl) (rk_o (rk_o (l100_6) rfl rfl) rfl rfl) (rk_o (rk_o (l100_8) rfl rfl) rfl rfl) (rk_o (rk_o (l100_10) rfl rfl) rfl rfl) (rk_o (rk_o (l100_12) rfl rfl) rfl rfl) (rk_o (rk_o (l100_14) rfl rfl) rfl rfl) (rk_o (rk_s) rfl rfl) (rk_s) H (SF_trans (SF_trans (SF_trans (SF_trans (hS_100) hS91 (any_sub rfl)) hS96 (any_sub rfl)) hS102 (any_sub rfl)) hS107 (any_sub rfl)) (SA_upd (SA_trans (SA_trans (SA_trans (SA_trans (hA_100) hA92 (any_subA rfl)) hA97 (any_subA rfl)) hA103 (any_subA rfl)) hA108 (any_subA rfl)) rfl)  (upd1 (w100_17) (x100_18) (z109)) (congrArg (fun q => upd1 q (x100_18) (z109)) ((funext (hA108 17 rfl)).trans ((funext (hA103 17 rfl)).trans ((funext (hA97 17 rfl)).trans ((funext (hA92 17 rfl)).trans (ew100_17)))))) (show inr ((x100_15 + 4)) from q_621 b61 b87 h2 j100_0 j100_4) (show inr ((x100_18 + 1)) from q_610 b87 j100_2) (show (0) ≤ ((x100_18 + 1)) from q_14 j100_2) (show ((x100_18 + 1)) ≤ (0) ∨ ((x100_18 + 1)) ≤ (4) from q_609 b87) (show ((x100_15 + 4)) = (x88_15) + 4 * ((x100_18 + 1)) from q_608 j100_4) (show LQA ((w14)) ((a2)) ((a3) - (a2)) ((x88_15)) (((x100_18 + 1))) ((upd1 (w100_17) (x100_18) (z109))) by assumption) rfl

theorem M359_22 {σ0 σ : rS} {D N : Nat → Nat} {F : hF} {A : hA} {d c s : Nat} {Q : wQ} (H : HS σ0 σ D N F A) {a2 a3 : Int} (w22 : Int → Int) (ew22 : A 22 = w22) (h0 : inr (a2)) (h1 : inr (a3)) (h2 : 0 ≤ (a2) ∧ (a2) ≤ (a3) ∧ (a3) ≤ 65536) (k : ∀ (z : Int) σ Fₚ Aₚ, HS σ0 σ D N Fₚ Aₚ → SF [] F Fₚ → SA [17] A Aₚ → (inrJ (z)) → (0 ≤ (z) ∧ (z) < 4294967296) → ((z) = NSM ((w22)) ((a2)) ((a3) - (a2)) 0 % 4294967296) → Q (some (J z)) σ c s) : Ew 359 (d + 1) 0 (rargs 0 [.ref (D 3), .ref (D 22), I a2, I a3]) [] σ c s Q := by
  refine Ew_of (pcₚ := 3) (fun _ => x_ldc2 (z := 2654435761) rfl (by decide)) ?_
  refine Ew_of (pcₚ := 5) (fun _ => x_lstore rfl) ?_
  refine Ew_of (pcₚ := 8) (fun _ => x_ldc2 (z := 2246822519) rfl (by decide)) ?_
  refine Ew_of (pcₚ := 10) (fun _ => x_lstore rfl) ?_
  refine Ew_of (pcₚ := 13) (fun _ => x_ldc2 (z := 3266489917) rfl (by decide)) ?_
  refine Ew_of (pcₚ := 15) (fun _ => x_lstore rfl) ?_
  refine Ew_of (pcₚ := 18) (fun _ => x_ldc2 (z := 668265263) rfl (by decide)) ?_
  refine Ew_of (pcₚ := 20) (fun _ => x_lstore rfl) ?_
  refine Ew_of (pcₚ := 23) (fun _ => x_ldc2 (z := 374761393) rfl (by decide)) ?_
  refine Ew_of (pcₚ := 25) (fun _ => x_lstore rfl) ?_
  refine Ew_of (pcₚ := 26) (fun _ => x_iload_n rfl (rk2_o (rk2_o (rk2_o (rk2_o (rk2_o (rfl) rfl rfl) rfl rfl) rfl rfl) rfl rfl) rfl rfl)) ?_
  refine Ew_of (pcₚ := 27) (fun _ => x_iload_n rfl (rk2_o (rk2_o (rk2_o (rk2_o (rk2_o (rfl) rfl rfl) rfl rfl) rfl rfl) rfl rfl) rfl rfl)) ?_
  refine w_isub rfl ?_
  refine Ew_of (pcₚ := 30) (fun _ => x_istore rfl) ?_
  refine Ew_of (pcₚ := 31) (fun _ => x_iload_n rfl (rk_o (rk2_o (rk2_o (rk2_o (rk2_o (rk2_o (rfl) rfl rfl) rfl rfl) rfl rfl) rfl rfl) rfl rfl) rfl rfl)) ?_
  refine Ew_of (pcₚ := 33) (fun _ => x_istore rfl) ?_
  refine Ew_of (pcₚ := 35) (fun _ => x_lload rfl (rk_o (rk_o (rk2_s) rfl rfl) rfl rfl)) ?_
  refine Ew_of (pcₚ := 37) (fun _ => x_lstore rfl) ?_
  have hc210 : ∀ (ls : rO) (σ : rS) (F_c210 : hF) (A_c210 : hA) (xc210_15 : Int) (xc210_16 : Int), rlook ls 1 = some (.ref (D 22)) → rlook ls 3 = some (I (a3)) → rlook ls 4 = some (J (2654435761)) → rlook ls 6 = some (J (2246822519)) → rlook ls 8 = some (J (3266489917)) → rlook ls 10 = some (J (668265263)) → rlook ls 12 = some (J (374761393)) → rlook ls 14 = some (I ((a3 - a2))) → rlook ls 15 = some (I (xc210_15)) → rlook ls 16 = some (J (xc210_16)) → HS σ0 σ D N F_c210 A_c210 → SF [] F F_c210 → SA [17] A A_c210 → (inr (xc210_15)) → (inrJ (xc210_16)) → ((a2) ≤ (xc210_15) ∧ (xc210_15) ≤ (a3)) → (NSm ((w22)) ((a2)) ((a3) - (a2)) 0 ((xc210_15)) ((xc210_16))) → Ew 359 (d + 1) 210 ls [] σ c s Q := by
   as_aux_lemma =>
    intro  ls σ F_c210 A_c210 xc210_15 xc210_16 lc210_1 lc210_3 lc210_4 lc210_6 lc210_8 lc210_10 lc210_12 lc210_14 lc210_15 lc210_16 H hS_c210 hA_c210   jc210_0 jc210_1 jc210_2 jc210_3
    have hcN : NSm ((w22)) ((a2)) ((a3) - (a2)) 0 ((xc210_15)) ((xc210_16)) := jc210_3
    refine Ew_of (pcₚ := 212) (fun _ => x_lload rfl lc210_16) ?_
    refine Ew_of (pcₚ := 214) (fun _ => x_iload rfl lc210_14) ?_
    refine w_i2l rfl (show inr ((a3 - a2)) from q_614 h2) ?_
    refine w_ladd rfl ?_
    refine Ew_of (pcₚ := 219) (fun _ => x_ldc2 (z := 4294967295) rfl (by decide)) ?_
    refine w_landE rfl ?_
    have g1 : inrJ (anJ ((xc210_16 + (a3 - a2))) (4294967295)) := toJ_inr _
    refine Ew_of (pcₚ := 222) (fun _ => x_lstore rfl) ?_
    obtain ⟨xh0, hc1, hc2⟩ := hcN
    have hc1p := hc1.1
    have : ∃ xp xh x, NS1 ((w22)) ((a2)) ((a3) - (a2)) 0 xp xh ∧ ((anJ ((xc210_16 + (a3 - a2))) (4294967295))) = x % 4294967296 ∧ nS4n ((w22)) xp (((a3) - (a2)) % 16 / 4).toNat (adI xh ((a3) - (a2))) = nS4n ((w22)) ((xc210_15)) (((a3) - (xc210_15)) / 4).toNat x := ⟨(xc210_15), xh0, adI xh0 ((a3) - (a2)), hc1, by rw [anM, hc2, adI_m]; omega, by rw [show ((a3) - (a2)) % 16 / 4 = ((a3) - (xc210_15)) / 4 by omega]⟩
    suffices hl222 : ∀ (m : Nat), ∀ (ls : rO) (σ : rS) (F_222 : hF) (A_222 : hA) (x222_15 : Int) (x222_16 : Int), rlook ls 1 = some (.ref (D 22)) → rlook ls 3 = some (I (a3)) → rlook ls 4 = some (J (2654435761)) → rlook ls 6 = some (J (2246822519)) → rlook ls 8 = some (J (3266489917)) → rlook ls 10 = some (J (668265263)) → rlook ls 12 = some (J (374761393)) → rlook ls 15 = some (I (x222_15)) → rlook ls 16 = some (J (x222_16)) → HS σ0 σ D N F_222 A_222 → SF [] F_c210 F_222 → SA [] A_c210 A_222 → (inr (x222_15)) → (inrJ (x222_16)) → ((a2) ≤ (x222_15) ∧ (x222_15) ≤ (a3)) → (((a3) - (x222_15)) % 4 = ((a3) - (a2)) % 4) → (∃ xp xh x, NS1 ((w22)) ((a2)) ((a3) - (a2)) 0 xp xh ∧ (x222_16) = x % 4294967296 ∧ nS4n ((w22)) xp (((a3) - (a2)) % 16 / 4).toNat (adI xh ((a3) - (a2))) = nS4n ((w22)) ((x222_15)) (((a3) - (x222_15)) / 4).toNat x) → ((a3) - (x222_15)).toNat = m → Ew 359 (d + 1) 222 ls [] σ c s Q from
      hl222 _ _ σ _ _ (xc210_15) ((anJ ((xc210_16 + (a3 - a2))) (4294967295))) (rk2_o (lc210_1) rfl rfl) (rk2_o (lc210_3) rfl rfl) (rk2_o (lc210_4) rfl rfl) (rk2_o (lc210_6) rfl rfl) (rk2_o (lc210_8) rfl rfl) (rk2_o (lc210_10) rfl rfl) (rk2_o (lc210_12) rfl rfl) (rk2_o (lc210_15) rfl rfl) (rk2_s) H (SF_refl) (SA_refl)   (show inr (xc210_15) from jc210_0) (show inrJ ((anJ ((xc210_16 + (a3 - a2))) (4294967295))) from g1) (show (a2) ≤ (xc210_15) ∧ (xc210_15) ≤ (a3) from jc210_2) (show ((a3) - (xc210_15)) % 4 = ((a3) - (a2)) % 4 by omega) (show ∃ xp xh x, NS1 ((w22)) ((a2)) ((a3) - (a2)) 0 xp xh ∧ ((anJ ((xc210_16 + (a3 - a2))) (4294967295))) = x % 4294967296 ∧ nS4n ((w22)) xp (((a3) - (a2)) % 16 / 4).toNat (adI xh ((a3) - (a2))) = nS4n ((w22)) ((xc210_15)) (((a3) - (xc210_15)) / 4).toNat x by assumption) rfl
    as_aux_lemma =>
    intro m
    induction m using Nat.strongRecOn with
    | _ m ih222 =>
      intro ls σ F_222 A_222 x222_15 x222_16 l222_1 l222_3 l222_4 l222_6 l222_8 l222_10 l222_12 l222_15 l222_16 H hS_222 hA_222   j222_0 j222_1 j222_2 j222_3 j222_4 hm222
      have j222_q : ∃ xp xh x, NS1 ((w22)) ((a2)) ((a3) - (a2)) 0 xp xh ∧ (x222_16) = x % 4294967296 ∧ nS4n ((w22)) xp (((a3) - (a2)) % 16 / 4).toNat (adI xh ((a3) - (a2))) = nS4n ((w22)) ((x222_15)) (((a3) - (x222_15)) / 4).toNat x := by assumption
      refine Ew_of (pcₚ := 223) (fun _ => x_iload_n rfl l222_3) ?_
      refine Ew_of (pcₚ := 225) (fun _ => x_iload rfl l222_15) ?_
      refine w_isub rfl ?_
      refine Ew_of (pcₚ := 227) (fun _ => x_iconst rfl) ?_
      refine w_icmplt (t := 266) rfl rfl (show inr ((a3 - x222_15)) from q_615 h2 j222_2) (show inr (4) from q_216) (fun b2 => ?_) (fun b2 => ?_)
      · have : ∃ xp xh x, NS1 ((w22)) ((a2)) ((a3) - (a2)) 0 xp xh ∧ (x222_16) = x % 4294967296 ∧ nS1n ((w22)) ((a3) - ((a3) - (a2)) % 4) (((a3) - (a2)) % 4).toNat (nS4n ((w22)) xp (((a3) - (a2)) % 16 / 4).toNat (adI xh ((a3) - (a2)))) = nS1n ((w22)) ((x222_15)) ((a3) - (x222_15)).toNat x := by obtain ⟨xp, xh, x, q1, q2, q3⟩ := j222_q; refine ⟨xp, xh, x, q1, q2, ?_⟩; rw [q3, nS4n_0 (by omega), show (a3) - ((a3) - (a2)) % 4 = (x222_15) by omega, show ((a3) - (a2)) % 4 = (a3) - (x222_15) by omega]
        suffices hl266 : ∀ (m : Nat), ∀ (ls : rO) (σ : rS) (F_266 : hF) (A_266 : hA) (x266_15 : Int) (x266_16 : Int), rlook ls 1 = some (.ref (D 22)) → rlook ls 3 = some (I (a3)) → rlook ls 4 = some (J (2654435761)) → rlook ls 6 = some (J (2246822519)) → rlook ls 8 = some (J (3266489917)) → rlook ls 12 = some (J (374761393)) → rlook ls 15 = some (I (x266_15)) → rlook ls 16 = some (J (x266_16)) → HS σ0 σ D N F_266 A_266 → SF [] F_222 F_266 → SA [] A_222 A_266 → (inr (x266_15)) → (inrJ (x266_16)) → ((x222_15) ≤ (x266_15)) → ((x266_15) ≤ (x222_15) ∨ (x266_15) ≤ ((a3))) → (∃ xp xh x, NS1 ((w22)) ((a2)) ((a3) - (a2)) 0 xp xh ∧ (x266_16) = x % 4294967296 ∧ nS1n ((w22)) ((a3) - ((a3) - (a2)) % 4) (((a3) - (a2)) % 4).toNat (nS4n ((w22)) xp (((a3) - (a2)) % 16 / 4).toNat (adI xh ((a3) - (a2)))) = nS1n ((w22)) ((x266_15)) ((a3) - (x266_15)).toNat x) → (((a3)) - (x266_15)).toNat = m → Ew 359 (d + 1) 266 ls [] σ c s Q from
          hl266 _ _ σ _ _ (x222_15) (x222_16) (l222_1) (l222_3) (l222_4) (l222_6) (l222_8) (l222_12) (l222_15) (l222_16) H (SF_refl) (SA_refl)   (show inr (x222_15) from j222_0) (show inrJ (x222_16) from j222_1) (show (x222_15) ≤ (x222_15) from q_43) (show (x222_15) ≤ (x222_15) ∨ (x222_15) ≤ ((a3)) from q_156) (show ∃ xp xh x, NS1 ((w22)) ((a2)) ((a3) - (a2)) 0 xp xh ∧ (x222_16) = x % 4294967296 ∧ nS1n ((w22)) ((a3) - ((a3) - (a2)) % 4) (((a3) - (a2)) % 4).toNat (nS4n ((w22)) xp (((a3) - (a2)) % 16 / 4).toNat (adI xh ((a3) - (a2)))) = nS1n ((w22)) ((x222_15)) ((a3) - (x222_15)).toNat x by assumption) rfl
        as_aux_lemma =>
        intro m
        induction m using Nat.strongRecOn with
        | _ m ih266 =>
          intro ls σ F_266 A_266 x266_15 x266_16 l266_1 l266_3 l266_4 l266_6 l266_8 l266_12 l266_15 l266_16 H hS_266 hA_266   j266_0 j266_1 j266_2 j266_3 j266_4 hm266
          have j266_q : ∃ xp xh x, NS1 ((w22)) ((a2)) ((a3) - (a2)) 0 xp xh ∧ (x266_16) = x % 4294967296 ∧ nS1n ((w22)) ((a3) - ((a3) - (a2)) % 4) (((a3) - (a2)) % 4).toNat (nS4n ((w22)) xp (((a3) - (a2)) % 16 / 4).toNat (adI xh ((a3) - (a2)))) = nS1n ((w22)) ((x266_15)) ((a3) - (x266_15)).toNat x := by assumption
          refine Ew_of (pcₚ := 268) (fun _ => x_iload rfl l266_15) ?_
          refine Ew_of (pcₚ := 269) (fun _ => x_iload_n rfl l266_3) ?_
          refine w_icmpge (t := 307) rfl rfl (show inr (x266_15) from j266_0) (show inr (a3) from h1) (fun b3 => ?_) (fun b3 => ?_)
          · obtain ⟨xp_, xh_, x_, q1_, q2_, q3_⟩ := j266_q
            rw [nS1n_0 (k := ((a3) - (x266_15)).toNat) (by omega), show (a3) - ((a3) - (a2)) % 4 = (a2) + ((a3) - (a2)) - ((a3) - (a2)) % 4 by omega] at q3_
            refine Ew_of (pcₚ := 309) (fun _ => x_lload rfl l266_16) ?_
            refine Ew_of (pcₚ := 311) (fun _ => x_lload rfl l266_16) ?_
            refine Ew_of (pcₚ := 313) (fun _ => x_bipush (z := 15) rfl (by decide)) ?_
            refine w_lshrE rfl ?_
            have g4 : inrJ (srJ (x266_16) (15)) := toJ_inr _
            refine w_lxorE rfl ?_
            have g5 : inrJ (xoJ (x266_16) ((srJ (x266_16) (15)))) := toJ_inr _
            have hx1 : ((xoJ (x266_16) ((srJ (x266_16) (15))))) = xoI x_ (usI x_ 15) % 4294967296 := xo_i q2_ (by omega)
            refine Ew_of (pcₚ := 317) (fun _ => x_lload rfl l266_6) ?_
            refine w_stat24 rfl rfl (by rfl) (M357 H (show inrJ ((xoJ (x266_16) ((srJ (x266_16) (15))))) from g5) (show inrJ (2246822519) from q_572) (fun z10 σ F6 A7 H hS8 hA9 pz10_0 pz10_1 pz10_2 => ⟨rfl, ?_⟩))
            have hm1 := pz10_2 (xoI x_ (usI x_ 15)) (-2048144777) hx1 (by decide)
            refine Ew_of (pcₚ := 322) (fun _ => x_lstore rfl) ?_
            refine Ew_of (pcₚ := 324) (fun _ => x_lload rfl rk2_s) ?_
            refine Ew_of (pcₚ := 326) (fun _ => x_lload rfl rk2_s) ?_
            refine Ew_of (pcₚ := 328) (fun _ => x_bipush (z := 13) rfl (by decide)) ?_
            refine w_lshrE rfl ?_
            have g11 : inrJ (srJ (z10) (13)) := toJ_inr _
            refine w_lxorE rfl ?_
            have g12 : inrJ (xoJ (z10) ((srJ (z10) (13)))) := toJ_inr _
            have hx2 := xo_i hm1 (k := 13) (by omega)
            refine Ew_of (pcₚ := 332) (fun _ => x_lload rfl (rk2_o (l266_8) rfl rfl)) ?_
            refine w_stat24 rfl rfl (by rfl) (M357 H (show inrJ ((xoJ (z10) ((srJ (z10) (13))))) from g12) (show inrJ (3266489917) from q_573) (fun z17 σ F13 A14 H hS15 hA16 pz17_0 pz17_1 pz17_2 => ⟨rfl, ?_⟩))
            have hm2 := pz17_2 _ (-1028477379) hx2 (by decide)
            refine Ew_of (pcₚ := 337) (fun _ => x_lstore rfl) ?_
            refine Ew_of (pcₚ := 339) (fun _ => x_lload rfl rk2_s) ?_
            refine Ew_of (pcₚ := 341) (fun _ => x_lload rfl rk2_s) ?_
            refine Ew_of (pcₚ := 343) (fun _ => x_bipush (z := 16) rfl (by decide)) ?_
            refine w_lshrE rfl ?_
            have g18 : inrJ (srJ (z17) (16)) := toJ_inr _
            refine w_lxorE rfl ?_
            have g19 : inrJ (xoJ (z17) ((srJ (z17) (16)))) := toJ_inr _
            have hx3 := xo_i hm2 (k := 16) (by omega)
            have : ((xoJ (z17) ((srJ (z17) (16))))) = NSM ((w22)) ((a2)) ((a3) - (a2)) 0 % 4294967296 := by rw [← NSM_of q1_ rfl rfl q3_]; exact hx3
            have : 0 ≤ ((xoJ (z17) ((srJ (z17) (16))))) ∧ ((xoJ (z17) ((srJ (z17) (16))))) < 4294967296 := rng_m hx3
            exact w_lreturn rfl (k ((xoJ (z17) ((srJ (z17) (16))))) σ _ _ H (SF_trans (SF_trans (SF_trans (SF_trans (SF_trans (SF_refl) hS_c210 (any_sub rfl)) hS_222 (any_sub rfl)) hS_266 (any_sub rfl)) hS8 (any_sub rfl)) hS15 (any_sub rfl)) (SA_trans (SA_trans (SA_trans (SA_trans (SA_trans (SA_refl) hA_c210 (any_subA rfl)) hA_222 (any_subA rfl)) hA_266 (any_subA rfl)) hA9 (any_subA rfl)) hA16 (any_subA rfl)) (show inrJ ((xoJ (z17) ((srJ (z17) (16))))) from g19) (show 0 ≤ ((xoJ (z17) ((srJ (z17) (16))))) ∧ ((xoJ (z17) ((srJ (z17) (16))))) < 4294967296 by omega) (show ((xoJ (z17) ((srJ (z17) (16))))) = NSM ((w22)) (a2) (a3 - a2) 0 % 4294967296 by assumption))
          · refine Ew_of (pcₚ := 274) (fun _ => x_lload rfl l266_16) ?_
            refine Ew_of (pcₚ := 275) (fun _ => x_aload_n rfl l266_1) ?_
            refine Ew_of (pcₚ := 277) (fun _ => x_iload rfl l266_15) ?_
            refine w_lI H (o := 22) (n := 65536) rfl (H.perm 22 rfl) rfl rfl (H.fix 22 rfl rfl) (show 0 ≤ x266_15 ∧ x266_15 < ((65536 : Nat) : Int) from q_616 b3 h2 j222_2 j266_2) (by decide) (fun v20 ev20 qv20 => ?_)
            have qv20 : (0 : Int) ≤ v20 ∧ v20 ≤ 255 := qv20
            have ev20 : (w22) (x266_15) = v20 := (congrFun ((funext (hA_266 22 rfl)).trans ((funext (hA_222 22 rfl)).trans ((funext (hA_c210 22 rfl)).trans (ew22)))) (x266_15)).symm.trans ev20
            have hvb := ev20
            refine w_i2l rfl (show inr (v20) from q_299 qv20) ?_
            refine Ew_of (pcₚ := 281) (fun _ => x_lload rfl l266_12) ?_
            refine w_stat24 rfl rfl (by rfl) (M357 H (show inrJ (v20) from q_576 qv20) (show inrJ (374761393) from q_575) (fun z25 σ F21 A22 H hS23 hA24 pz25_0 pz25_1 pz25_2 => ⟨rfl, ?_⟩))
            have hs1 := pz25_2 (u8 (((w22)) ((x266_15)))) 374761393 (by rw [hvb, u8_id (by omega)]; omega) (by decide)
            refine w_ladd rfl ?_
            refine Ew_of (pcₚ := 288) (fun _ => x_ldc2 (z := 4294967295) rfl (by decide)) ?_
            refine w_landE rfl ?_
            have g26 : inrJ (anJ ((x266_16 + z25)) (4294967295)) := toJ_inr _
            refine Ew_of (pcₚ := 291) (fun _ => x_bipush (z := 11) rfl (by decide)) ?_
            refine w_stat24 rfl rfl (by rfl) (M356 H (show inrJ ((anJ ((x266_16 + z25)) (4294967295))) from g26) (show inr (11) from q_326) (show 1 ≤ (11) ∧ (11) ≤ 31 from q_577) (fun z31 σ F27 A28 H hS29 hA30 pz31_0 pz31_1 pz31_2 => ⟨rfl, ?_⟩))
            have hs3 := pz31_2
            refine Ew_of (pcₚ := 296) (fun _ => x_lload rfl l266_4) ?_
            refine w_stat24 rfl rfl (by rfl) (M357 H (show inrJ (z31) from pz31_0) (show inrJ (2654435761) from q_578) (fun z36 σ F32 A33 H hS34 hA35 pz36_0 pz36_1 pz36_2 => ⟨rfl, ?_⟩))
            have hs4 := pz36_2
            refine Ew_of (pcₚ := 301) (fun _ => x_lstore rfl) ?_
            refine Ew_of (pcₚ := 304) (fun _ => x_iinc (len := 3) rfl (rk2_o (l266_15) rfl rfl)) ?_
            refine Ew_of (pcₚ := 266) (fun _ => x_goto rfl rfl) ?_
            have : ∃ xp xh x, NS1 ((w22)) ((a2)) ((a3) - (a2)) 0 xp xh ∧ (z36) = x % 4294967296 ∧ nS1n ((w22)) ((a3) - ((a3) - (a2)) % 4) (((a3) - (a2)) % 4).toNat (nS4n ((w22)) xp (((a3) - (a2)) % 16 / 4).toNat (adI xh ((a3) - (a2)))) = nS1n ((w22)) (((x266_15 + 1))) ((a3) - ((x266_15 + 1))).toNat x := by obtain ⟨xp, xh, x, q1, q2, q3⟩ := j266_q; exact ⟨xp, xh, _, q1, stp_i q2 hs1 hs3 hs4 (y2 := -1640531535) (by decide), q3.trans (nS1n_s (by omega) rfl (by omega))⟩
            exact ih266 _ (msE hm266 q_16 (q_17 b3)) _ σ _ _ ((x266_15 + 1)) (z36) (rk_o (rk2_o (l266_1) rfl rfl) rfl rfl) (rk_o (rk2_o (l266_3) rfl rfl) rfl rfl) (rk_o (rk2_o (l266_4) rfl rfl) rfl rfl) (rk_o (rk2_o (l266_6) rfl rfl) rfl rfl) (rk_o (rk2_o (l266_8) rfl rfl) rfl rfl) (rk_o (rk2_o (l266_12) rfl rfl) rfl rfl) (rk_s) (rk_o (rk2_s) rfl rfl) H (SF_trans (SF_trans (SF_trans (hS_266) hS23 (any_sub rfl)) hS29 (any_sub rfl)) hS34 (any_sub rfl)) (SA_trans (SA_trans (SA_trans (hA_266) hA24 (any_subA rfl)) hA30 (any_subA rfl)) hA35 (any_subA rfl))   (show inr ((x266_15 + 1)) from q_361 b3 h2 j266_0) (show inrJ (z36) from pz36_0) (show (x222_15) ≤ ((x266_15 + 1)) from q_161 j266_2) (show ((x266_15 + 1)) ≤ (x222_15) ∨ ((x266_15 + 1)) ≤ ((a3)) from q_160 b3) (show ∃ xp xh x, NS1 ((w22)) ((a2)) ((a3) - (a2)) 0 xp xh ∧ (z36) = x % 4294967296 ∧ nS1n ((w22)) ((a3) - ((a3) - (a2)) % 4) (((a3) - (a2)) % 4).toNat (nS4n ((w22)) xp (((a3) - (a2)) % 16 / 4).toNat (adI xh ((a3) - (a2)))) = nS1n ((w22)) (((x266_15 + 1))) ((a3) - ((x266_15 + 1))).toNat x by assumption) rfl
      · refine Ew_of (pcₚ := 232) (fun _ => x_lload rfl l222_16) ?_
        refine Ew_of (pcₚ := 233) (fun _ => x_aload_n rfl l222_1) ?_
        refine Ew_of (pcₚ := 235) (fun _ => x_iload rfl l222_15) ?_
        refine w_stat24 rfl rfl (by rfl) (M358_22 H (w22) ((funext (hA_222 22 rfl)).trans ((funext (hA_c210 22 rfl)).trans (ew22))) (show inr (x222_15) from j222_0) (show 0 ≤ (x222_15) ∧ (x222_15) + 3 < 65536 from q_617 b2 h2 j222_2) (fun z41 σ F37 A38 H hS39 hA40 pz41_0 pz41_1 => ⟨rfl, ?_⟩))
        have hwd2 := pz41_1
        refine Ew_of (pcₚ := 240) (fun _ => x_lload rfl l222_8) ?_
        refine w_stat24 rfl rfl (by rfl) (M357 H (show inrJ (z41) from pz41_0) (show inrJ (3266489917) from q_573) (fun z46 σ F42 A43 H hS44 hA45 pz46_0 pz46_1 pz46_2 => ⟨rfl, ?_⟩))
        have hu1 := pz46_2 (wdI ((w22)) ((x222_15))) (-1028477379) (by rw [hwd2]; exact wdI_m) (by decide)
        refine w_ladd rfl ?_
        refine Ew_of (pcₚ := 247) (fun _ => x_ldc2 (z := 4294967295) rfl (by decide)) ?_
        refine w_landE rfl ?_
        have g47 : inrJ (anJ ((x222_16 + z46)) (4294967295)) := toJ_inr _
        refine Ew_of (pcₚ := 250) (fun _ => x_bipush (z := 17) rfl (by decide)) ?_
        refine w_stat24 rfl rfl (by rfl) (M356 H (show inrJ ((anJ ((x222_16 + z46)) (4294967295))) from g47) (show inr (17) from q_582) (show 1 ≤ (17) ∧ (17) ≤ 31 from q_581) (fun z52 σ F48 A49 H hS50 hA51 pz52_0 pz52_1 pz52_2 => ⟨rfl, ?_⟩))
        have hu3 := pz52_2
        refine Ew_of (pcₚ := 255) (fun _ => x_lload rfl l222_10) ?_
        refine w_stat24 rfl rfl (by rfl) (M357 H (show inrJ (z52) from pz52_0) (show inrJ (668265263) from q_583) (fun z57 σ F53 A54 H hS55 hA56 pz57_0 pz57_1 pz57_2 => ⟨rfl, ?_⟩))
        have hu4 := pz57_2
        refine Ew_of (pcₚ := 260) (fun _ => x_lstore rfl) ?_
        refine Ew_of (pcₚ := 263) (fun _ => x_iinc (len := 3) rfl (rk2_o (l222_15) rfl rfl)) ?_
        refine Ew_of (pcₚ := 222) (fun _ => x_goto rfl rfl) ?_
        have : ∃ xp xh x, NS1 ((w22)) ((a2)) ((a3) - (a2)) 0 xp xh ∧ (z57) = x % 4294967296 ∧ nS4n ((w22)) xp (((a3) - (a2)) % 16 / 4).toNat (adI xh ((a3) - (a2))) = nS4n ((w22)) (((x222_15 + 4))) (((a3) - ((x222_15 + 4))) / 4).toNat x := by obtain ⟨xp, xh, x, q1, q2, q3⟩ := j222_q; exact ⟨xp, xh, _, q1, stp_i q2 hu1 hu3 hu4 (y2 := 668265263) (by decide), q3.trans (nS4n_s (by omega) rfl (by omega))⟩
        exact ih222 _ (msE hm222 q_586 (q_587 b2)) _ σ _ _ ((x222_15 + 4)) (z57) (rk_o (rk2_o (l222_1) rfl rfl) rfl rfl) (rk_o (rk2_o (l222_3) rfl rfl) rfl rfl) (rk_o (rk2_o (l222_4) rfl rfl) rfl rfl) (rk_o (rk2_o (l222_6) rfl rfl) rfl rfl) (rk_o (rk2_o (l222_8) rfl rfl) rfl rfl) (rk_o (rk2_o (l222_10) rfl rfl) rfl rfl) (rk_o (rk2_o (l222_12) rfl rfl) rfl rfl) (rk_s) (rk_o (rk2_s) rfl rfl) H (SF_trans (SF_trans (SF_trans (SF_trans (hS_222) hS39 (any_sub rfl)) hS44 (any_sub rfl)) hS50 (any_sub rfl)) hS55 (any_sub rfl)) (SA_trans (SA_trans (SA_trans (SA_trans (hA_222) hA40 (any_subA rfl)) hA45 (any_subA rfl)) hA51 (any_subA rfl)) hA56 (any_subA rfl))   (show inr ((x222_15 + 4)) from q_618 b2 h2 j222_0) (show inrJ (z57) from pz57_0) (show (a2) ≤ ((x222_15 + 4)) ∧ ((x222_15 + 4)) ≤ (a3) from q_584 b2 j222_2) (show ((a3) - ((x222_15 + 4))) % 4 = ((a3) - (a2)) % 4 by omega) (show ∃ xp xh x, NS1 ((w22)) ((a2)) ((a3) - (a2)) 0 xp xh ∧ (z57) = x % 4294967296 ∧ nS4n ((w22)) xp (((a3) - (a2)) % 16 / 4).toNat (adI xh ((a3) - (a2))) = nS4n ((w22)) (((x222_15 + 4))) (((a3) - ((x222_15 + 4))) / 4).toNat x by assumption) rfl
  refine Ew_of (pcₚ := 39) (fun _ => x_iload rfl (rk2_o (rk_o (rk_s) rfl rfl) rfl rfl)) ?_
  refine Ew_of (pcₚ := 41) (fun _ => x_bipush (z := 16) rfl (by decide)) ?_
  refine w_icmplt (t := 210) rfl rfl (show inr ((a3 - a2)) from q_614 h2) (show inr (16) from q_345) (fun b58 => ?_) (fun b58 => ?_)
  · have : NSm ((w22)) ((a2)) ((a3) - (a2)) 0 ((a2)) ((374761393)) := by first | exact hNS | exact NSm_n (by omega) (by omega) (by omega) (by rfl)
    exact hc210  _ σ _ _ (a2) (374761393) (rk2_o (rk_o (rk_o (rk2_o (rk2_o (rk2_o (rk2_o (rk2_o (rfl) rfl rfl) rfl rfl) rfl rfl) rfl rfl) rfl rfl) rfl rfl) rfl rfl) rfl rfl) (rk2_o (rk_o (rk_o (rk2_o (rk2_o (rk2_o (rk2_o (rk2_o (rfl) rfl rfl) rfl rfl) rfl rfl) rfl rfl) rfl rfl) rfl rfl) rfl rfl) rfl rfl) (rk2_o (rk_o (rk_o (rk2_o (rk2_o (rk2_o (rk2_o (rk2_s) rfl rfl) rfl rfl) rfl rfl) rfl rfl) rfl rfl) rfl rfl) rfl rfl) (rk2_o (rk_o (rk_o (rk2_o (rk2_o (rk2_o (rk2_s) rfl rfl) rfl rfl) rfl rfl) rfl rfl) rfl rfl) rfl rfl) (rk2_o (rk_o (rk_o (rk2_o (rk2_o (rk2_s) rfl rfl) rfl rfl) rfl rfl) rfl rfl) rfl rfl) (rk2_o (rk_o (rk_o (rk2_o (rk2_s) rfl rfl) rfl rfl) rfl rfl) rfl rfl) (rk2_o (rk_o (rk_o (rk2_s) rfl rfl) rfl rfl) rfl rfl) (rk2_o (rk_o (rk_s) rfl rfl) rfl rfl) (rk2_o (rk_s) rfl rfl) (rk2_s) H (SF_refl) (SA_refl)   (show inr (a2) from h0) (show inrJ (374761393) from q_575) (show (a2) ≤ (a2) ∧ (a2) ≤ (a3) from q_619 h2) (show NSm ((w22)) ((a2)) ((a3) - (a2)) 0 ((a2)) ((374761393)) by assumption)
  · refine Ew_of (pcₚ := 45) (fun _ => x_aload_n rfl (rk2_o (rk_o (rk_o (rk2_o (rk2_o (rk2_o (rk2_o (rk2_o (rfl) rfl rfl) rfl rfl) rfl rfl) rfl rfl) rfl rfl) rfl rfl) rfl rfl) rfl rfl)) ?_
    refine w_gT H (o := 3) (t := 17) rfl (H.perm 3 rfl) rfl rfl rfl rfl rfl rfl ?_
    refine Ew_of (pcₚ := 49) (fun _ => x_iconst rfl) ?_
    refine Ew_of (pcₚ := 51) (fun _ => x_lload rfl (rk2_o (rk_o (rk_o (rk2_o (rk2_o (rk2_o (rk2_o (rk2_s) rfl rfl) rfl rfl) rfl rfl) rfl rfl) rfl rfl) rfl rfl) rfl rfl)) ?_
    refine Ew_of (pcₚ := 53) (fun _ => x_lload rfl (rk2_o (rk_o (rk_o (rk2_o (rk2_o (rk2_o (rk2_s) rfl rfl) rfl rfl) rfl rfl) rfl rfl) rfl rfl) rfl rfl)) ?_
    refine w_ladd rfl ?_
    refine Ew_of (pcₚ := 57) (fun _ => x_ldc2 (z := 4294967295) rfl (by decide)) ?_
    refine w_landE rfl ?_
    have g59 : inrJ (anJ ((2654435761 + 2246822519)) (4294967295)) := toJ_inr _
    refine w_sJ H (o := 17) (n := 4) rfl (H.perm 17 rfl) rfl rfl (H.fix 17 rfl rfl) (show 0 ≤ 0 ∧ 0 < ((4 : Nat) : Int) from q_589) (by decide) (show (-9223372036854775808 : Int) ≤ (anJ ((2654435761 + 2246822519)) (4294967295)) ∧ (anJ ((2654435761 + 2246822519)) (4294967295)) ≤ 9223372036854775807 by omega) (fun σ H => ?_)
    refine Ew_of (pcₚ := 60) (fun _ => x_aload_n rfl (rk2_o (rk_o (rk_o (rk2_o (rk2_o (rk2_o (rk2_o (rk2_o (rfl) rfl rfl) rfl rfl) rfl rfl) rfl rfl) rfl rfl) rfl rfl) rfl rfl) rfl rfl)) ?_
    refine w_gT H (o := 3) (t := 17) rfl (H.perm 3 rfl) rfl rfl rfl rfl rfl rfl ?_
    refine Ew_of (pcₚ := 64) (fun _ => x_iconst rfl) ?_
    refine Ew_of (pcₚ := 66) (fun _ => x_lload rfl (rk2_o (rk_o (rk_o (rk2_o (rk2_o (rk2_o (rk2_s) rfl rfl) rfl rfl) rfl rfl) rfl rfl) rfl rfl) rfl rfl)) ?_
    refine w_sJ H (o := 17) (n := 4) rfl (H.perm 17 rfl) rfl rfl (H.fix 17 rfl rfl) (show 0 ≤ 1 ∧ 1 < ((4 : Nat) : Int) from q_591) (by decide) (show (-9223372036854775808 : Int) ≤ 2246822519 ∧ 2246822519 ≤ 9223372036854775807 from q_590) (fun σ H => ?_)
    refine Ew_of (pcₚ := 68) (fun _ => x_aload_n rfl (rk2_o (rk_o (rk_o (rk2_o (rk2_o (rk2_o (rk2_o (rk2_o (rfl) rfl rfl) rfl rfl) rfl rfl) rfl rfl) rfl rfl) rfl rfl) rfl rfl) rfl rfl)) ?_
    refine w_gT H (o := 3) (t := 17) rfl (H.perm 3 rfl) rfl rfl rfl rfl rfl rfl ?_
    refine Ew_of (pcₚ := 72) (fun _ => x_iconst rfl) ?_
    refine Ew_of (pcₚ := 73) (fun _ => x_lconst (z := 0) rfl (by decide)) ?_
    refine w_sJ H (o := 17) (n := 4) rfl (H.perm 17 rfl) rfl rfl (H.fix 17 rfl rfl) (show 0 ≤ 2 ∧ 2 < ((4 : Nat) : Int) from q_593) (by decide) (show (-9223372036854775808 : Int) ≤ 0 ∧ 0 ≤ 9223372036854775807 from q_592) (fun σ H => ?_)
    refine Ew_of (pcₚ := 75) (fun _ => x_aload_n rfl (rk2_o (rk_o (rk_o (rk2_o (rk2_o (rk2_o (rk2_o (rk2_o (rfl) rfl rfl) rfl rfl) rfl rfl) rfl rfl) rfl rfl) rfl rfl) rfl rfl) rfl rfl)) ?_
    refine w_gT H (o := 3) (t := 17) rfl (H.perm 3 rfl) rfl rfl rfl rfl rfl rfl ?_
    refine Ew_of (pcₚ := 79) (fun _ => x_iconst rfl) ?_
    refine Ew_of (pcₚ := 80) (fun _ => x_lconst (z := 0) rfl (by decide)) ?_
    refine Ew_of (pcₚ := 82) (fun _ => x_lload rfl (rk2_o (rk_o (rk_o (rk2_o (rk2_o (rk2_o (rk2_o (rk2_s) rfl rfl) rfl rfl) rfl rfl) rfl rfl) rfl rfl) rfl rfl) rfl rfl)) ?_
    refine w_lsub rfl ?_
    refine Ew_of (pcₚ := 86) (fun _ => x_ldc2 (z := 4294967295) rfl (by decide)) ?_
    refine w_landE rfl ?_
    have g60 : inrJ (anJ ((0 - 2654435761)) (4294967295)) := toJ_inr _
    refine w_sJ H (o := 17) (n := 4) rfl (H.perm 17 rfl) rfl rfl (H.fix 17 rfl rfl) (show 0 ≤ 3 ∧ 3 < ((4 : Nat) : Int) from q_594) (by decide) (show (-9223372036854775808 : Int) ≤ (anJ ((0 - 2654435761)) (4294967295)) ∧ (anJ ((0 - 2654435761)) (4294967295)) ≤ 9223372036854775807 by omega) (fun σ H => ?_)
    have : LQA ((w22)) ((a2)) ((a3) - (a2)) ((a2)) 0 ((upd1 (upd1 (upd1 (upd1 (A 17) (0) ((anJ ((2654435761 + 2246822519)) (4294967295)))) (1) (2246822519)) (2) (0)) (3) ((anJ ((0 - 2654435761)) (4294967295))))) := LQA_i rfl
    suffices hl88 : ∀ (m : Nat), ∀ (ls : rO) (σ : rS) (F_88 : hF) (A_88 : hA) (x88_15 : Int), rlook ls 0 = some (.ref (D 3)) → rlook ls 1 = some (.ref (D 22)) → rlook ls 3 = some (I (a3)) → rlook ls 4 = some (J (2654435761)) → rlook ls 6 = some (J (2246822519)) → rlook ls 8 = some (J (3266489917)) → rlook ls 10 = some (J (668265263)) → rlook ls 12 = some (J (374761393)) → rlook ls 14 = some (I ((a3 - a2))) → rlook ls 15 = some (I (x88_15)) → HS σ0 σ D N F_88 A_88 → SF [] F F_88 → SA [17] (updA (updA (updA (updA A 17 (0) ((anJ ((2654435761 + 2246822519)) (4294967295)))) 17 (1) (2246822519)) 17 (2) (0)) 17 (3) ((anJ ((0 - 2654435761)) (4294967295)))) A_88 → ∀ w88_17 : Int → Int, A_88 17 = w88_17 → (inr (x88_15)) → ((a2) ≤ (x88_15) ∧ (x88_15) ≤ (a3)) → (((x88_15) - (a2)) % 16 = 0) → (LQA ((w22)) ((a2)) ((a3) - (a2)) ((x88_15)) 0 ((w88_17))) → ((a3) - (x88_15)).toNat = m → Ew 359 (d + 1) 88 ls [] σ c s Q from
      hl88 _ _ σ _ _ (a2) (rk2_o (rk_o (rk_o (rk2_o (rk2_o (rk2_o (rk2_o (rk2_o (rfl) rfl rfl) rfl rfl) rfl rfl) rfl rfl) rfl rfl) rfl rfl) rfl rfl) rfl rfl) (rk2_o (rk_o (rk_o (rk2_o (rk2_o (rk2_o (rk2_o (rk2_o (rfl) rfl rfl) rfl rfl) rfl rfl) rfl rfl) rfl rfl) rfl rfl) rfl rfl) rfl rfl) (rk2_o (rk_o (rk_o (rk2_o (rk2_o (rk2_o (rk2_o (rk2_o (rfl) rfl rfl) rfl rfl) rfl rfl) rfl rfl) rfl rfl) rfl rfl) rfl rfl) rfl rfl) (rk2_o (rk_o (rk_o (rk2_o (rk2_o (rk2_o (rk2_o (rk2_s) rfl rfl) rfl rfl) rfl rfl) rfl rfl) rfl rfl) rfl rfl) rfl rfl) (rk2_o (rk_o (rk_o (rk2_o (rk2_o (rk2_o (rk2_s) rfl rfl) rfl rfl) rfl rfl) rfl rfl) rfl rfl) rfl rfl) (rk2_o (rk_o (rk_o (rk2_o (rk2_o (rk2_s) rfl rfl) rfl rfl) rfl rfl) rfl rfl) rfl rfl) (rk2_o (rk_o (rk_o (rk2_o (rk2_s) rfl rfl) rfl rfl) rfl rfl) rfl rfl) (rk2_o (rk_o (rk_o (rk2_s) rfl rfl) rfl rfl) rfl rfl) (rk2_o (rk_o (rk_s) rfl rfl) rfl rfl) (rk2_o (rk_s) rfl rfl) H (SF_refl) (SA_refl)  (upd1 (upd1 (upd1 (upd1 (A 17) (0) ((anJ ((2654435761 + 2246822519)) (4294967295)))) (1) (2246822519)) (2) (0)) (3) ((anJ ((0 - 2654435761)) (4294967295)))) (rfl) (show inr (a2) from h0) (show (a2) ≤ (a2) ∧ (a2) ≤ (a3) from q_619 h2) (show ((a2) - (a2)) % 16 = 0 by omega) (show LQA ((w22)) ((a2)) ((a3) - (a2)) ((a2)) 0 ((upd1 (upd1 (upd1 (upd1 (A 17) (0) ((anJ ((2654435761 + 2246822519)) (4294967295)))) (1) (2246822519)) (2) (0)) (3) ((anJ ((0 - 2654435761)) (4294967295))))) by assumption) rfl
    as_aux_lemma =>
    intro m
    induction m using Nat.strongRecOn with
    | _ m ih88 =>
      intro ls σ F_88 A_88 x88_15 l88_0 l88_1 l88_3 l88_4 l88_6 l88_8 l88_10 l88_12 l88_14 l88_15 H hS_88 hA_88  w88_17 ew88_17 j88_0 j88_1 j88_2 j88_3 hm88
      have j88_L : LQA ((w22)) ((a2)) ((a3) - (a2)) ((x88_15)) 0 ((w88_17)) := j88_3
      refine Ew_of (pcₚ := 89) (fun _ => x_iload_n rfl l88_3) ?_
      refine Ew_of (pcₚ := 91) (fun _ => x_iload rfl l88_15) ?_
      refine w_isub rfl ?_
      refine Ew_of (pcₚ := 94) (fun _ => x_bipush (z := 16) rfl (by decide)) ?_
      refine w_icmplt (t := 158) rfl rfl (show inr ((a3 - x88_15)) from q_615 h2 j88_1) (show inr (16) from q_345) (fun b61 => ?_) (fun b61 => ?_)
      · refine Ew_of (pcₚ := 159) (fun _ => x_aload_n rfl l88_0) ?_
        refine w_gT H (o := 3) (t := 17) rfl (H.perm 3 rfl) rfl rfl rfl rfl rfl rfl ?_
        refine Ew_of (pcₚ := 163) (fun _ => x_iconst rfl) ?_
        refine w_lJ H (o := 17) (n := 4) rfl (H.perm 17 rfl) rfl rfl (H.fix 17 rfl rfl) (show 0 ≤ 0 ∧ 0 < ((4 : Nat) : Int) from q_589) (by decide) (fun v62 ev62 qv62 => ?_)
        have qv62 : (-9223372036854775808 : Int) ≤ v62 ∧ v62 ≤ 9223372036854775807 := qv62
        have ev62 : (w88_17) (0) = v62 := (congrFun (ew88_17) (0)).symm.trans ev62
        have a0_ := ev62
        refine Ew_of (pcₚ := 165) (fun _ => x_iconst rfl) ?_
        refine w_stat24 rfl rfl (by rfl) (M356 H (show inrJ (v62) by omega) (show inr (1) from q_135) (show 1 ≤ (1) ∧ (1) ≤ 31 from q_595) (fun z67 σ F63 A64 H hS65 hA66 pz67_0 pz67_1 pz67_2 => ⟨rfl, ?_⟩))
        have b0_ := pz67_2
        refine Ew_of (pcₚ := 169) (fun _ => x_aload_n rfl l88_0) ?_
        refine w_gT H (o := 3) (t := 17) rfl (H.perm 3 rfl) rfl rfl rfl rfl rfl rfl ?_
        refine Ew_of (pcₚ := 173) (fun _ => x_iconst rfl) ?_
        refine w_lJ H (o := 17) (n := 4) rfl (H.perm 17 rfl) rfl rfl (H.fix 17 rfl rfl) (show 0 ≤ 1 ∧ 1 < ((4 : Nat) : Int) from q_591) (by decide) (fun v68 ev68 qv68 => ?_)
        have qv68 : (-9223372036854775808 : Int) ≤ v68 ∧ v68 ≤ 9223372036854775807 := qv68
        have ev68 : (w88_17) (1) = v68 := (congrFun ((funext (hA66 17 rfl)).trans (ew88_17)) (1)).symm.trans ev68
        have a1_ := ev68
        refine Ew_of (pcₚ := 176) (fun _ => x_bipush (z := 7) rfl (by decide)) ?_
        refine w_stat24 rfl rfl (by rfl) (M356 H (show inrJ (v68) by omega) (show inr (7) from q_597) (show 1 ≤ (7) ∧ (7) ≤ 31 from q_596) (fun z73 σ F69 A70 H hS71 hA72 pz73_0 pz73_1 pz73_2 => ⟨rfl, ?_⟩))
        have b1_ := pz73_2
        refine w_ladd rfl ?_
        refine Ew_of (pcₚ := 181) (fun _ => x_aload_n rfl l88_0) ?_
        refine w_gT H (o := 3) (t := 17) rfl (H.perm 3 rfl) rfl rfl rfl rfl rfl rfl ?_
        refine Ew_of (pcₚ := 185) (fun _ => x_iconst rfl) ?_
        refine w_lJ H (o := 17) (n := 4) rfl (H.perm 17 rfl) rfl rfl (H.fix 17 rfl rfl) (show 0 ≤ 2 ∧ 2 < ((4 : Nat) : Int) from q_593) (by decide) (fun v74 ev74 qv74 => ?_)
        have qv74 : (-9223372036854775808 : Int) ≤ v74 ∧ v74 ≤ 9223372036854775807 := qv74
        have ev74 : (w88_17) (2) = v74 := (congrFun ((funext (hA72 17 rfl)).trans ((funext (hA66 17 rfl)).trans (ew88_17))) (2)).symm.trans ev74
        have a2_ := ev74
        refine Ew_of (pcₚ := 188) (fun _ => x_bipush (z := 12) rfl (by decide)) ?_
        refine w_stat24 rfl rfl (by rfl) (M356 H (show inrJ (v74) by omega) (show inr (12) from q_599) (show 1 ≤ (12) ∧ (12) ≤ 31 from q_598) (fun z79 σ F75 A76 H hS77 hA78 pz79_0 pz79_1 pz79_2 => ⟨rfl, ?_⟩))
        have b2_ := pz79_2
        refine w_ladd rfl ?_
        refine Ew_of (pcₚ := 193) (fun _ => x_aload_n rfl l88_0) ?_
        refine w_gT H (o := 3) (t := 17) rfl (H.perm 3 rfl) rfl rfl rfl rfl rfl rfl ?_
        refine Ew_of (pcₚ := 197) (fun _ => x_iconst rfl) ?_
        refine w_lJ H (o := 17) (n := 4) rfl (H.perm 17 rfl) rfl rfl (H.fix 17 rfl rfl) (show 0 ≤ 3 ∧ 3 < ((4 : Nat) : Int) from q_594) (by decide) (fun v80 ev80 qv80 => ?_)
        have qv80 : (-9223372036854775808 : Int) ≤ v80 ∧ v80 ≤ 9223372036854775807 := qv80
        have ev80 : (w88_17) (3) = v80 := (congrFun ((funext (hA78 17 rfl)).trans ((funext (hA72 17 rfl)).trans ((funext (hA66 17 rfl)).trans (ew88_17)))) (3)).symm.trans ev80
        have a3_ := ev80
        refine Ew_of (pcₚ := 200) (fun _ => x_bipush (z := 18) rfl (by decide)) ?_
        refine w_stat24 rfl rfl (by rfl) (M356 H (show inrJ (v80) by omega) (show inr (18) from q_601) (show 1 ≤ (18) ∧ (18) ≤ 31 from q_600) (fun z85 σ F81 A82 H hS83 hA84 pz85_0 pz85_1 pz85_2 => ⟨rfl, ?_⟩))
        have b3_ := pz85_2
        refine w_ladd rfl ?_
        refine Ew_of (pcₚ := 207) (fun _ => x_ldc2 (z := 4294967295) rfl (by decide)) ?_
        refine w_landE rfl ?_
        have g86 : inrJ (anJ ((((z67 + z73) + z79) + z85)) (4294967295)) := toJ_inr _
        have hNS : NSm ((w22)) ((a2)) ((a3) - (a2)) 0 ((x88_15)) (((anJ ((((z67 + z73) + z79) + z85)) (4294967295)))) := NSm_y (by omega) (by omega) j88_L a0_ a1_ a2_ a3_ b0_ b1_ b2_ b3_
        refine Ew_of (pcₚ := 210) (fun _ => x_lstore rfl) ?_
        have : NSm ((w22)) ((a2)) ((a3) - (a2)) 0 ((x88_15)) (((anJ ((((z67 + z73) + z79) + z85)) (4294967295)))) := by first | exact hNS | exact NSm_n (by omega) (by omega) (by omega) (by rfl)
        exact hc210  _ σ _ _ (x88_15) ((anJ ((((z67 + z73) + z79) + z85)) (4294967295))) (rk2_o (l88_1) rfl rfl) (rk2_o (l88_3) rfl rfl) (rk2_o (l88_4) rfl rfl) (rk2_o (l88_6) rfl rfl) (rk2_o (l88_8) rfl rfl) (rk2_o (l88_10) rfl rfl) (rk2_o (l88_12) rfl rfl) (rk2_o (l88_14) rfl rfl) (rk2_o (l88_15) rfl rfl) (rk2_s) H (SF_trans (SF_trans (SF_trans (SF_trans (SF_trans (SF_refl) hS_88 (any_sub rfl)) hS65 (any_sub rfl)) hS71 (any_sub rfl)) hS77 (any_sub rfl)) hS83 (any_sub rfl)) (SA_trans (SA_trans (SA_trans (SA_trans (SA_trans (SA_upd (SA_upd (SA_upd (SA_upd (SA_refl) rfl) rfl) rfl) rfl) hA_88 (any_subA rfl)) hA66 (any_subA rfl)) hA72 (any_subA rfl)) hA78 (any_subA rfl)) hA84 (any_subA rfl))   (show inr (x88_15) from j88_0) (show inrJ ((anJ ((((z67 + z73) + z79) + z85)) (4294967295))) from g86) (show (a2) ≤ (x88_15) ∧ (x88_15) ≤ (a3) from j88_1) (hNS)
      · refine Ew_of (pcₚ := 98) (fun _ => x_iconst rfl) ?_
        refine Ew_of (pcₚ := 100) (fun _ => x_istore rfl) ?_
        suffices hl100 : ∀ (m : Nat), ∀ (ls : rO) (σ : rS) (F_100 : hF) (A_100 : hA) (x100_15 : Int) (x100_18 : Int), rlook ls 0 = some (.ref (D 3)) → rlook ls 1 = some (.ref (D 22)) → rlook ls 3 = some (I (a3)) → rlook ls 4 = some (J (2654435761)) → rlook ls 6 = some (J (2246822519)) → rlook ls 8 = some (J (3266489917)) → rlook ls 10 = some (J (668265263)) → rlook ls 12 = some (J (374761393)) → rlook ls 14 = some (I ((a3 - a2))) → rlook ls 15 = some (I (x100_15)) → rlook ls 18 = some (I (x100_18)) → HS σ0 σ D N F_100 A_100 → SF [] F_88 F_100 → SA [17] A_88 A_100 → ∀ w100_17 : Int → Int, A_100 17 = w100_17 → (inr (x100_15)) → (inr (x100_18)) → ((0) ≤ (x100_18)) → ((x100_18) ≤ (0) ∨ (x100_18) ≤ (4)) → ((x100_15) = (x88_15) + 4 * (x100_18)) → (LQA ((w22)) ((a2)) ((a3) - (a2)) ((x88_15)) ((x100_18)) ((w100_17))) → ((4) - (x100_18)).toNat = m → Ew 359 (d + 1) 100 ls [] σ c s Q from
          hl100 _ _ σ _ _ (x88_15) (0) (rk_o (l88_0) rfl rfl) (rk_o (l88_1) rfl rfl) (rk_o (l88_3) rfl rfl) (rk_o (l88_4) rfl rfl) (rk_o (l88_6) rfl rfl) (rk_o (l88_8) rfl rfl) (rk_o (l88_10) rfl rfl) (rk_o (l88_12) rfl rfl) (rk_o (l88_14) rfl rfl) (rk_o (l88_15) rfl rfl) (rk_s) H (SF_refl) (SA_refl)  (w88_17) (ew88_17) (show inr (x88_15) from j88_0) (show inr (0) from q_2) (show (0) ≤ (0) from q_1) (show (0) ≤ (0) ∨ (0) ≤ (4) from q_603) (show (x88_15) = (x88_15) + 4 * (0) from q_602) (j88_L) rfl
        as_aux_lemma =>
        intro m
        induction m using Nat.strongRecOn with
        | _ m ih100 =>
          intro ls σ F_100 A_100 x100_15 x100_18 l100_0 l100_1 l100_3 l100_4 l100_6 l100_8 l100_10 l100_12 l100_14 l100_15 l100_18 H hS_100 hA_100  w100_17 ew100_17 j100_0 j100_1 j100_2 j100_3 j100_4 j100_5 hm100
          refine Ew_of (pcₚ := 102) (fun _ => x_iload rfl l100_18) ?_
          refine Ew_of (pcₚ := 103) (fun _ => x_iconst rfl) ?_
          refine w_icmpge (t := 155) rfl rfl (show inr (x100_18) from j100_1) (show inr (4) from q_216) (fun b87 => ?_) (fun b87 => ?_)
          · refine Ew_of (pcₚ := 88) (fun _ => x_goto rfl rfl) ?_
            have : LQA ((w22)) ((a2)) ((a3) - (a2)) ((x100_15)) 0 ((w100_17)) := LQA_e j100_5 (by omega) (by omega)
            exact ih88 _ (msE hm88 (q_604 b87 j100_4) (q_354 b61)) _ σ _ _ (x100_15) (l100_0) (l100_1) (l100_3) (l100_4) (l100_6) (l100_8) (l100_10) (l100_12) (l100_14) (l100_15) H (SF_trans (hS_88) hS_100 (any_sub rfl)) (SA_trans (hA_88) hA_100 (any_subA rfl))  (w100_17) (ew100_17) (show inr (x100_15) from j100_0) (show (a2) ≤ (x100_15) ∧ (x100_15) ≤ (a3) by omega) (show ((x100_15) - (a2)) % 16 = 0 by omega) (show LQA ((w22)) ((a2)) ((a3) - (a2)) ((x100_15)) 0 ((w100_17)) by assumption) rfl
          · refine Ew_of (pcₚ := 107) (fun _ => x_aload_n rfl l100_0) ?_
            refine w_gT H (o := 3) (t := 17) rfl (H.perm 3 rfl) rfl rfl rfl rfl rfl rfl ?_
            refine Ew_of (pcₚ := 112) (fun _ => x_iload rfl l100_18) ?_
            refine Ew_of (pcₚ := 113) (fun _ => x_aload_n rfl l100_0) ?_
            refine w_gT H (o := 3) (t := 17) rfl (H.perm 3 rfl) rfl rfl rfl rfl rfl rfl ?_
            refine Ew_of (pcₚ := 118) (fun _ => x_iload rfl l100_18) ?_
            refine w_lJ H (o := 17) (n := 4) rfl (H.perm 17 rfl) rfl rfl (H.fix 17 rfl rfl) (show 0 ≤ x100_18 ∧ x100_18 < ((4 : Nat) : Int) from q_605 b87 j100_2) (by decide) (fun v88 ev88 qv88 => ?_)
            have qv88 : (-9223372036854775808 : Int) ≤ v88 ∧ v88 ≤ 9223372036854775807 := qv88
            have ev88 : (w100_17) (x100_18) = v88 := (congrFun (ew100_17) (x100_18)).symm.trans ev88
            have hlv := ev88
            refine Ew_of (pcₚ := 120) (fun _ => x_aload_n rfl l100_1) ?_
            refine Ew_of (pcₚ := 122) (fun _ => x_iload rfl l100_15) ?_
            refine w_stat24 rfl rfl (by rfl) (M358_22 H (w22) ((funext (hA_100 22 rfl)).trans ((funext (hA_88 22 rfl)).trans (ew22))) (show inr (x100_15) from j100_0) (show 0 ≤ (x100_15) ∧ (x100_15) + 3 < 65536 from q_620 b61 b87 h2 j100_2 j100_4 j88_1) (fun z93 σ F89 A90 H hS91 hA92 pz93_0 pz93_1 => ⟨rfl, ?_⟩))
            have hwd := pz93_1
            refine Ew_of (pcₚ := 127) (fun _ => x_lload rfl l100_6) ?_
            refine w_stat24 rfl rfl (by rfl) (M357 H (show inrJ (z93) from pz93_0) (show inrJ (2246822519) from q_572) (fun z98 σ F94 A95 H hS96 hA97 pz98_0 pz98_1 pz98_2 => ⟨rfl, ?_⟩))
            have ht1 := pz98_2 (wdI ((w22)) ((x100_15))) (-2048144777) (by rw [hwd]; exact wdI_m) (by decide)
            refine w_ladd rfl ?_
            refine Ew_of (pcₚ := 134) (fun _ => x_ldc2 (z := 4294967295) rfl (by decide)) ?_
            refine w_landE rfl ?_
            have g99 : inrJ (anJ ((v88 + z98)) (4294967295)) := toJ_inr _
            refine Ew_of (pcₚ := 137) (fun _ => x_bipush (z := 13) rfl (by decide)) ?_
            refine w_stat24 rfl rfl (by rfl) (M356 H (show inrJ ((anJ ((v88 + z98)) (4294967295))) from g99) (show inr (13) from q_350) (show 1 ≤ (13) ∧ (13) ≤ 31 from q_607) (fun z104 σ F100 A101 H hS102 hA103 pz104_0 pz104_1 pz104_2 => ⟨rfl, ?_⟩))
            have ht3 := pz104_2
            refine Ew_of (pcₚ := 142) (fun _ => x_lload rfl l100_4) ?_
            refine w_stat24 rfl rfl (by rfl) (M357 H (show inrJ (z104) from pz104_0) (show inrJ (2654435761) from q_578) (fun z109 σ F105 A106 H hS107 hA108 pz109_0 pz109_1 pz109_2 => ⟨rfl, ?_⟩))
            have ht4 := pz109_2
            refine w_sJ H (o := 17) (n := 4) rfl (H.perm 17 rfl) rfl rfl (H.fix 17 rfl rfl) (show 0 ≤ x100_18 ∧ x100_18 < ((4 : Nat) : Int) from q_605 b87 j100_2) (by decide) (show (-9223372036854775808 : Int) ≤ z109 ∧ z109 ≤ 9223372036854775807 by omega) (fun σ H => ?_)
            have hqa := LQA_s (k2 := (x100_18) + 1) (q := (x100_15)) j100_5 (by omega) (by omega) rfl (by omega) (fun x hx => stp_i (hlv.symm.trans hx) ht1 ht3 ht4 (y2 := -1640531535) (by decide))
            refine Ew_of (pcₚ := 149) (fun _ => x_iinc (len := 3) rfl (l100_15)) ?_
            refine Ew_of (pcₚ := 152) (fun _ => x_iinc (len := 3) rfl (rk_o (l100_18) rfl rfl)) ?_
            refine Ew_of (pcₚ := 100) (fun _ => x_goto rfl rfl) ?_
            exact ih100 _ (msE hm100 q_612 (q_613 b87)) _ σ _ _ ((x100_15 + 4)) ((x100_18 + 1)) (rk_o (rk_o (l100_0) rfl rfl) rfl rfl) (rk_o (rk_o (l100_1) rfl rfl) rfl rfl) (rk_o (rk_o (l100_3) rfl rfl) rfl rfl) (rk_o (rk_o (l100_4) rfl rfl) rfl rfl) (rk_o (rk_o (l100_6) rfl rfl) rfl rfl) (rk_o (rk_o (l100_8) rfl rfl) rfl rfl) (rk_o (rk_o (l100_10) rfl rfl) rfl rfl) (rk_o (rk_o (l100_12) rfl rfl) rfl rfl) (rk_o (rk_o (l100_14) rfl rfl) rfl rfl) (rk_o (rk_s) rfl rfl) (rk_s) H (SF_trans (SF_trans (SF_trans (SF_trans (hS_100) hS91 (any_sub rfl)) hS96 (any_sub rfl)) hS102 (any_sub rfl)) hS107 (any_sub rfl)) (SA_upd (SA_trans (SA_trans (SA_trans (SA_trans (hA_100) hA92 (any_subA rfl)) hA97 (any_subA rfl)) hA103 (any_subA rfl)) hA108 (any_subA rfl)) rfl)  (upd1 (w100_17) (x100_18) (z109)) (congrArg (fun q => upd1 q (x100_18) (z109)) ((funext (hA108 17 rfl)).trans ((funext (hA103 17 rfl)).trans ((funext (hA97 17 rfl)).trans ((funext (hA92 17 rfl)).trans (ew100_17)))))) (show inr ((x100_15 + 4)) from q_621 b61 b87 h2 j100_0 j100_4) (show inr ((x100_18 + 1)) from q_610 b87 j100_2) (show (0) ≤ ((x100_18 + 1)) from q_14 j100_2) (show ((x100_18 + 1)) ≤ (0) ∨ ((x100_18 + 1)) ≤ (4) from q_609 b87) (show ((x100_15 + 4)) = (x88_15) + 4 * ((x100_18 + 1)) from q_608 j100_4) (show LQA ((w22)) ((a2)) ((a3) - (a2)) ((x88_15)) (((x100_18 + 1))) ((upd1 (w100_17) (x100_18) (z109))) by assumption) rfl

