/-- Reader.beginFrame -/
theorem M277 {σ0 σ : rS} {D N : Nat → Nat} {F : hF} {A : hA} {d c s : Nat} {Q : wQ} (H : HS σ0 σ D N F A)  (u5_2 : Int) (eu5_2 : F 5 2 = u5_2) (u5_3 : Int) (eu5_3 : F 5 3 = u5_3) (u5_4 : Int) (eu5_4 : F 5 4 = u5_4) (w26 : Int → Int) (ew26 : A 26 = w26) (w27 : Int → Int) (ew27 : A 27 = w27) (w28 : Int → Int) (ew28 : A 28 = w28) (w29 : Int → Int) (ew29 : A 29 = w29) (w30 : Int → Int) (ew30 : A 30 = w30) (Dc : DcS) (h0 : DI ((u5_4)) ((w27)) ((w28)) ((w29)) ((w30))) (h1 : RDI Dc ((u5_4)) ((u5_3)) ((w26)) ((u5_2)) ((w27)) ((w28)) ((w29)) ((w30))) (k : ∀ σ F' A', HS σ0 σ D N F' A' → SF [(5, 10)] F F' → SA [31, 32, 33, 34, 35, 36, 37, 38, 41] A A' → ∀ y5_10 : Int, F' 5 10 = y5_10 → ∀ v31 : Int → Int, A' 31 = v31 → ∀ v32 : Int → Int, A' 32 = v32 → ∀ v34 : Int → Int, A' 34 = v34 → ∀ v35 : Int → Int, A' 35 = v35 → ∀ v36 : Int → Int, A' 36 = v36 → ∀ v37 : Int → Int, A' 37 = v37 → ∀ v38 : Int → Int, A' 38 = v38 → (RT ((v35)) ((v36)) ((v37)) ((v34))) → (1 ≤ ((v38)) 0 ∧ 1 ≤ ((v38)) 1 ∧ 1 ≤ ((v38)) 2) → (RTA ((v35)) ((v36)) ((v37)) ((v34)) Dc.2.2.2.1) → (RCO ((y5_10)) (Dc.2.2.1.2) ((v31)) ((v32))) → ((y5_10) = Dc.2.2.1.1) → (((v38)) 0 = Dc.2.2.2.2.1 ∧ ((v38)) 1 = Dc.2.2.2.2.2.1 ∧ ((v38)) 2 = Dc.2.2.2.2.2.2) → Q none σ c s) : Ew 277 (d + 3) 0 (rargs 0 [.ref (D 5)]) [] σ c s Q := by
  have r1 : (0 : Int) ≤ u5_2 ∧ u5_2 ≤ 65536 := by have h1 : (0 : Int) ≤ F 5 2 ∧ F 5 2 ≤ 65536 := H.frng 5 2; rw [show F 5 2 = u5_2 from (eu5_2)] at h1; exact h1
  have r2 : (-2147483648 : Int) ≤ u5_3 ∧ u5_3 ≤ 2147483647 := by have h1 : (-2147483648 : Int) ≤ F 5 3 ∧ F 5 3 ≤ 2147483647 := H.frng 5 3; rw [show F 5 3 = u5_3 from (eu5_3)] at h1; exact h1
  have r3 : (0 : Int) ≤ u5_4 ∧ u5_4 ≤ 1 := by have h1 : (0 : Int) ≤ F 5 4 ∧ F 5 4 ≤ 1 := H.frng 5 4; rw [show F 5 4 = u5_4 from (eu5_4)] at h1; exact h1
  have hrdi : RDI Dc ((u5_4)) ((u5_3)) ((w26)) ((u5_2)) ((w27)) ((w28)) ((w29)) ((w30)) := by assumption
  refine Ew_of (pc' := 1) (fun _ => x_aload_n rfl rfl) ?_
  refine Ew_of (pc' := 2) (fun _ => x_iconst rfl) ?_
  refine w_pI H (o := 5) rfl rfl (H.perm 5 rfl) rfl rfl rfl (fun _ => rfl) rfl (show (0 : Int) ≤ 0 ∧ 0 ≤ 11 by omega) (fun σ H => ?_)
  refine Ew_of (pc' := 6) (fun _ => x_iconst rfl) ?_
  refine Ew_of (pc' := 7) (fun _ => x_istore_n rfl) ?_
  have : ∀ t, (0 : Int) ≤ t → t < 0 → ((A 34)) t = -1 := fun t a b => absurd b (by omega)
  suffices hl7 : ∀ (m : Nat), ∀ (ls : rO) (σ : rS) (F_7 : hF) (A_7 : hA) (x7_1 : Int), rlook ls 0 = some (.ref (D 5)) → rlook ls 1 = some (I (x7_1)) → HS σ0 σ D N F_7 A_7 → SF [] (updF F 5 10 (0)) F_7 → SA [34, 38] A A_7 → ∀ w7_34 : Int → Int, A_7 34 = w7_34 → ∀ w7_38 : Int → Int, A_7 38 = w7_38 → (inr (x7_1)) → ((0) ≤ (x7_1)) → ((x7_1) ≤ (0) ∨ (x7_1) ≤ (3)) → (∀ t, 0 ≤ t → t < (x7_1) → ((w7_34)) t = -1) → (0 < (x7_1) → ((w7_38)) 0 = 1) → (1 < (x7_1) → ((w7_38)) 1 = 4) → (2 < (x7_1) → ((w7_38)) 2 = 8) → ((3) - (x7_1)).toNat = m → Ew 277 (d + 3) 7 ls [] σ c s Q from
    hl7 _ _ σ _ _ (0) (rk_o (rfl) rfl rfl) (rk_s) H (SF_refl) (SA_refl)  (A 34) (rfl) (A 38) (rfl) (show inr (0) by omega) (show (0) ≤ (0) by omega) (show (0) ≤ (0) ∨ (0) ≤ (3) by omega) (show ∀ t, 0 ≤ t → t < (0) → ((A 34)) t = -1 by assumption) (show 0 < (0) → ((A 38)) 0 = 1 by omega) (show 1 < (0) → ((A 38)) 1 = 4 by omega) (show 2 < (0) → ((A 38)) 2 = 8 by omega) rfl
  as_aux_lemma =>
  intro m
  induction m using Nat.strongRecOn with
  | _ m ih7 =>
    intro ls σ F_7 A_7 x7_1 l7_0 l7_1 H hS_7 hA_7  w7_34 ew7_34 w7_38 ew7_38 j7_0 j7_1 j7_2 j7_3 j7_4 j7_5 j7_6 hm7
    refine Ew_of (pc' := 8) (fun _ => x_iload_n rfl l7_1) ?_
    refine Ew_of (pc' := 9) (fun _ => x_iconst rfl) ?_
    refine w_icmpge (t := 45) rfl rfl (show inr (x7_1) by omega) (show inr (3) by omega) (fun b4 => ?_) (fun b4 => ?_)
    · have : RT ((A 35)) ((A 36)) ((A 37)) ((w7_34)) := RT_neg (fun t a b => by have := j7_3 t a (by omega); omega)
      refine Ew_of (pc' := 46) (fun _ => x_aload_n rfl l7_0) ?_
      refine w_gI H (o := 5) (w := u5_4) rfl (H.perm 5 rfl) rfl rfl rfl (fun _ => rfl) ((hS_7 5 4 rfl).trans (eu5_4)) ?_
      refine w_ifne (t := 53) rfl rfl (show inr (u5_4) by omega) (fun b5 => ?_) (fun b5 => ?_)
      · obtain ⟨_, hcG, hdG, hRX, hla0, hla1, hla2⟩ := hrdi.2.2.resolve_left (fun q => by have := q.1; omega)
        refine Ew_of (pc' := 54) (fun _ => x_iconst rfl) ?_
        refine Ew_of (pc' := 55) (fun _ => x_istore_n rfl) ?_
        have hdi : DI ((u5_4)) ((w27)) ((w28)) ((w29)) ((w30)) := by assumption
        have hdi := hdi (by omega)
        obtain ⟨⟨T, hT⟩, hPS, hla⟩ := hdi
        have : ∀ i, (0 : Int) ≤ i → i < 0 → ((A 31)) i = ((w27)) i := fun i a b => absurd b (by omega)
        have : ∀ i, (0 : Int) ≤ i → i < 0 → ((w27)) i ≤ 0 := fun i a b => absurd b (by omega)
        have hT0 := hT.1
        suffices hl55 : ∀ (m : Nat), ∀ (ls : rO) (σ : rS) (F_55 : hF) (A_55 : hA) (x55_1 : Int), rlook ls 0 = some (.ref (D 5)) → rlook ls 1 = some (I (x55_1)) → HS σ0 σ D N F_55 A_55 → SF [(5, 10)] F_7 F_55 → SA [31] A_7 A_55 → ∀ y55_5_10 : Int, F_55 5 10 = y55_5_10 → ∀ w55_31 : Int → Int, A_55 31 = w55_31 → (inr (x55_1)) → ((0) ≤ (x55_1)) → ((x55_1) ≤ (0) ∨ (x55_1) ≤ ((256))) → (∀ i, 0 ≤ i → i < (x55_1) → ((w55_31)) i = ((w27)) i) → (∀ i, 0 ≤ i → i < (x55_1) → ((w27)) i ≤ (y55_5_10)) → ((y55_5_10) ≤ T) → (((256)) - (x55_1)).toNat = m → Ew 277 (d + 3) 55 ls [] σ c s Q from
          hl55 _ _ σ _ _ (0) (rk_o (l7_0) rfl rfl) (rk_s) H (SF_refl) (SA_refl) (0) ((hS_7 5 10 rfl)) (A 31) (funext (hA_7 31 rfl)) (show inr (0) by omega) (show (0) ≤ (0) by omega) (show (0) ≤ (0) ∨ (0) ≤ ((256)) by omega) (show ∀ i, 0 ≤ i → i < (0) → ((A 31)) i = ((w27)) i by assumption) (show ∀ i, 0 ≤ i → i < (0) → ((w27)) i ≤ (0) by assumption) (show (0) ≤ T by omega) rfl
        as_aux_lemma =>
        intro m
        induction m using Nat.strongRecOn with
        | _ m ih55 =>
          intro ls σ F_55 A_55 x55_1 l55_0 l55_1 H hS_55 hA_55 y55_5_10 ey55_5_10 w55_31 ew55_31 j55_0 j55_1 j55_2 j55_3 j55_4 j55_5 hm55
          have r6 : (0 : Int) ≤ y55_5_10 ∧ y55_5_10 ≤ 11 := by have h1 : (0 : Int) ≤ F_55 5 10 ∧ F_55 5 10 ≤ 11 := H.frng 5 10; rw [show F_55 5 10 = y55_5_10 from (ey55_5_10)] at h1; exact h1
          refine Ew_of (pc' := 56) (fun _ => x_iload_n rfl l55_1) ?_
          refine Ew_of (pc' := 59) (fun _ => x_sipush (z := 256) rfl (by decide)) ?_
          refine w_icmpge (t := 110) rfl rfl (show inr (x55_1) by omega) (show inr (256) by omega) (fun b7 => ?_) (fun b7 => ?_)
          · have htt : (y55_5_10) = T := by obtain ⟨i, a, b, c⟩ := hT.2.2.2.2; have := j55_4 i a (by omega); omega
            have hciL : CI ((w55_31)) ((y55_5_10)) := by rw [htt]; exact CI_congr hT (fun i a b => j55_3 i a (by omega))
            refine Ew_of (pc' := 111) (fun _ => x_aload_n rfl l55_0) ?_
            refine w_inv H (o := 5) rfl rfl rfl (H.perm 5 rfl) rfl rfl (by rfl) (M269 H (y55_5_10) ((ey55_5_10)) (w55_31) (ew55_31) (show CI ((w55_31)) ((y55_5_10)) by assumption) (fun σ F8 A9 H hS10 hA11 wq13 ewq14 pz12_0 => ⟨rfl, ?_⟩))
            have hflc := pz12_0
            refine Ew_of (pc' := 115) (fun _ => x_iconst rfl) ?_
            refine Ew_of (pc' := 116) (fun _ => x_istore_n rfl) ?_
            have : ∀ i, (0 : Int) ≤ i → i < 0 → ((A 33)) i = ((w28)) i := fun i a b => absurd b (by omega)
            suffices hl116 : ∀ (m : Nat), ∀ (ls : rO) (σ : rS) (F_116 : hF) (A_116 : hA) (x116_1 : Int), rlook ls 0 = some (.ref (D 5)) → rlook ls 1 = some (I (x116_1)) → HS σ0 σ D N F_116 A_116 → SF [] F8 F_116 → SA [33] A9 A_116 → ∀ w116_33 : Int → Int, A_116 33 = w116_33 → (inr (x116_1)) → ((0) ≤ (x116_1)) → ((x116_1) ≤ (0) ∨ (x116_1) ≤ ((192))) → (∀ i, 0 ≤ i → i < (x116_1) → ((w116_33)) i = ((w28)) i) → (((192)) - (x116_1)).toNat = m → Ew 277 (d + 3) 116 ls [] σ c s Q from
              hl116 _ _ σ _ _ (0) (rk_o (l55_0) rfl rfl) (rk_s) H (SF_refl) (SA_refl)  (A 33) ((funext (hA11 33 rfl)).trans ((funext (hA_55 33 rfl)).trans (funext (hA_7 33 rfl)))) (show inr (0) by omega) (show (0) ≤ (0) by omega) (show (0) ≤ (0) ∨ (0) ≤ ((192)) by omega) (show ∀ i, 0 ≤ i → i < (0) → ((A 33)) i = ((w28)) i by assumption) rfl
            as_aux_lemma =>
            intro m
            induction m using Nat.strongRecOn with
            | _ m ih116 =>
              intro ls σ F_116 A_116 x116_1 l116_0 l116_1 H hS_116 hA_116  w116_33 ew116_33 j116_0 j116_1 j116_2 j116_3 hm116
              refine Ew_of (pc' := 117) (fun _ => x_iload_n rfl l116_1) ?_
              refine Ew_of (pc' := 120) (fun _ => x_sipush (z := 192) rfl (by decide)) ?_
              refine w_icmpge (t := 141) rfl rfl (show inr (x116_1) by omega) (show inr (192) by omega) (fun b15 => ?_) (fun b15 => ?_)
              · refine Ew_of (pc' := 142) (fun _ => x_iconst rfl) ?_
                refine Ew_of (pc' := 143) (fun _ => x_istore_n rfl) ?_
                have : ∀ t, 0 ≤ t → t < (0 : Int) → RTL ((A 35)) ((A 36)) ((A 37)) ((w7_34)) t (Dc.2.2.2.1 t) := fun t a b => absurd b (by omega)
                suffices hl143 : ∀ (m : Nat), ∀ (ls : rO) (σ : rS) (F_143 : hF) (A_143 : hA) (x143_1 : Int), rlook ls 0 = some (.ref (D 5)) → rlook ls 1 = some (I (x143_1)) → HS σ0 σ D N F_143 A_143 → SF [] F_116 F_143 → SA [34, 35, 36, 37, 38, 41] A_116 A_143 → ∀ w143_34 : Int → Int, A_143 34 = w143_34 → ∀ w143_35 : Int → Int, A_143 35 = w143_35 → ∀ w143_36 : Int → Int, A_143 36 = w143_36 → ∀ w143_37 : Int → Int, A_143 37 = w143_37 → ∀ w143_38 : Int → Int, A_143 38 = w143_38 → (inr (x143_1)) → ((0) ≤ (x143_1)) → ((x143_1) ≤ (0) ∨ (x143_1) ≤ (3)) → (RT ((w143_35)) ((w143_36)) ((w143_37)) ((w143_34))) → (0 < (x143_1) → 1 ≤ ((w143_38)) 0 ∧ ((w143_38)) 0 = Dc.2.2.2.2.1) → (1 < (x143_1) → 1 ≤ ((w143_38)) 1 ∧ ((w143_38)) 1 = Dc.2.2.2.2.2.1) → (2 < (x143_1) → 1 ≤ ((w143_38)) 2 ∧ ((w143_38)) 2 = Dc.2.2.2.2.2.2) → (∀ t, 0 ≤ t → t < (x143_1) → RTL ((w143_35)) ((w143_36)) ((w143_37)) ((w143_34)) t (Dc.2.2.2.1 t)) → ((3) - (x143_1)).toNat = m → Ew 277 (d + 3) 143 ls [] σ c s Q from
                  hl143 _ _ σ _ _ (0) (rk_o (l116_0) rfl rfl) (rk_s) H (SF_refl) (SA_refl)  (w7_34) ((funext (hA_116 34 rfl)).trans ((funext (hA11 34 rfl)).trans ((funext (hA_55 34 rfl)).trans (ew7_34)))) (A 35) ((funext (hA_116 35 rfl)).trans ((funext (hA11 35 rfl)).trans ((funext (hA_55 35 rfl)).trans (funext (hA_7 35 rfl))))) (A 36) ((funext (hA_116 36 rfl)).trans ((funext (hA11 36 rfl)).trans ((funext (hA_55 36 rfl)).trans (funext (hA_7 36 rfl))))) (A 37) ((funext (hA_116 37 rfl)).trans ((funext (hA11 37 rfl)).trans ((funext (hA_55 37 rfl)).trans (funext (hA_7 37 rfl))))) (w7_38) ((funext (hA_116 38 rfl)).trans ((funext (hA11 38 rfl)).trans ((funext (hA_55 38 rfl)).trans (ew7_38)))) (show inr (0) by omega) (show (0) ≤ (0) by omega) (show (0) ≤ (0) ∨ (0) ≤ (3) by omega) (show RT ((A 35)) ((A 36)) ((A 37)) ((w7_34)) by assumption) (show 0 < (0) → 1 ≤ ((w7_38)) 0 ∧ ((w7_38)) 0 = Dc.2.2.2.2.1 by omega) (show 1 < (0) → 1 ≤ ((w7_38)) 1 ∧ ((w7_38)) 1 = Dc.2.2.2.2.2.1 by omega) (show 2 < (0) → 1 ≤ ((w7_38)) 2 ∧ ((w7_38)) 2 = Dc.2.2.2.2.2.2 by omega) (show ∀ t, 0 ≤ t → t < (0) → RTL ((A 35)) ((A 36)) ((A 37)) ((w7_34)) t (Dc.2.2.2.1 t) by assumption) rfl
                as_aux_lemma =>
                intro m
                induction m using Nat.strongRecOn with
                | _ m ih143 =>
                  intro ls σ F_143 A_143 x143_1 l143_0 l143_1 H hS_143 hA_143  w143_34 ew143_34 w143_35 ew143_35 w143_36 ew143_36 w143_37 ew143_37 w143_38 ew143_38 j143_0 j143_1 j143_2 j143_3 j143_4 j143_5 j143_6 j143_7 hm143
                  have j143_t : ∀ t, 0 ≤ t → t < (x143_1) → RTL ((w143_35)) ((w143_36)) ((w143_37)) ((w143_34)) t (Dc.2.2.2.1 t) := by assumption
                  refine Ew_of (pc' := 144) (fun _ => x_iload_n rfl l143_1) ?_
                  refine Ew_of (pc' := 145) (fun _ => x_iconst rfl) ?_
                  refine w_icmpge (t := 183) rfl rfl (show inr (x143_1) by omega) (show inr (3) by omega) (fun b16 => ?_) (fun b16 => ?_)
                  · have : RTA ((w143_35)) ((w143_36)) ((w143_37)) ((w143_34)) Dc.2.2.2.1 := fun t a b => j143_t t a (by omega)
                    have hTT : (y55_5_10) = Dc.2.2.1.1 := CI_top hciL hcG (fun i a b => (j55_3 i a (by omega)).trans (hdG i a b))
                    have : RCO ((y55_5_10)) (Dc.2.2.1.2) ((w55_31)) ((wq13)) := .inr ⟨by rw [hTT]; exact hcG, fun i a b => (j55_3 i a (by omega)).trans (hdG i a b), hflc.trans (by rw [hTT]; exact CELS_c (fun i a b => (j55_3 i a (by omega)).trans (hdG i a b)))⟩
                    have : ((w143_38)) 0 = Dc.2.2.2.2.1 ∧ ((w143_38)) 1 = Dc.2.2.2.2.2.1 ∧ ((w143_38)) 2 = Dc.2.2.2.2.2.2 := by omega
                    exact w_ret rfl (k σ _ _ H (SF_trans (SF_trans (SF_trans (SF_trans (SF_trans (SF_upd (SF_refl) rfl) hS_7 (any_sub rfl)) hS_55 (any_sub rfl)) hS10 (any_sub rfl)) hS_116 (any_sub rfl)) hS_143 (any_sub rfl)) (SA_trans (SA_trans (SA_trans (SA_trans (SA_trans (SA_refl) hA_7 (any_subA rfl)) hA_55 (any_subA rfl)) hA11 (any_subA rfl)) hA_116 (any_subA rfl)) hA_143 (any_subA rfl)) (y55_5_10) (((((hS_143 5 10 rfl).trans (hS_116 5 10 rfl)).trans (hS10 5 10 rfl)).trans (ey55_5_10))) (w55_31) ((funext (hA_143 31 rfl)).trans ((funext (hA_116 31 rfl)).trans ((funext (hA11 31 rfl)).trans (ew55_31)))) (wq13) ((funext (hA_143 32 rfl)).trans ((funext (hA_116 32 rfl)).trans (ewq14))) (w143_34) (ew143_34) (w143_35) (ew143_35) (w143_36) (ew143_36) (w143_37) (ew143_37) (w143_38) (ew143_38) (show RT ((w143_35)) ((w143_36)) ((w143_37)) ((w143_34)) by assumption) (show 1 ≤ ((w143_38)) 0 ∧ 1 ≤ ((w143_38)) 1 ∧ 1 ≤ ((w143_38)) 2 by omega) (show RTA ((w143_35)) ((w143_36)) ((w143_37)) ((w143_34)) Dc.2.2.2.1 by assumption) (show RCO ((y55_5_10)) (Dc.2.2.1.2) ((w55_31)) ((wq13)) by assumption) (show (y55_5_10) = Dc.2.2.1.1 by assumption) (show ((w143_38)) 0 = Dc.2.2.2.2.1 ∧ ((w143_38)) 1 = Dc.2.2.2.2.2.1 ∧ ((w143_38)) 2 = Dc.2.2.2.2.2.2 by assumption))
                  · have hps : PS ((w116_33)) (upd1 ((w143_34)) ((x143_1)) (((w29)) ((x143_1)))) ((x143_1)) := PS_congr (hPS ((x143_1)) (by omega) (by omega)) (by omega) (fun i a b => j116_3 i a (by omega)) upd1_s
                    have hrx : RX ((w143_35)) ((w143_36)) ((w143_37)) (upd1 ((w143_34)) ((x143_1)) (((w29)) ((x143_1)))) ((x143_1)) := RX_of (by assumption)
                    have hx0 : (x143_1) = 0 → ((w30)) ((x143_1)) = ((w30)) 0 := fun e => by rw [e]
                    have hx1 : (x143_1) = 1 → ((w30)) ((x143_1)) = ((w30)) 1 := fun e => by rw [e]
                    have hx2 : (x143_1) = 2 → ((w30)) ((x143_1)) = ((w30)) 2 := fun e => by rw [e]
                    refine Ew_of (pc' := 149) (fun _ => x_aload_n rfl l143_0) ?_
                    refine w_gT H (o := 5) (t := 34) rfl (H.perm 5 rfl) rfl rfl rfl rfl rfl rfl ?_
                    refine Ew_of (pc' := 153) (fun _ => x_iload_n rfl l143_1) ?_
                    refine Ew_of (pc' := 154) (fun _ => x_aload_n rfl l143_0) ?_
                    refine w_gT H (o := 5) (t := 29) rfl (H.perm 5 rfl) rfl rfl rfl rfl rfl rfl ?_
                    refine Ew_of (pc' := 158) (fun _ => x_iload_n rfl l143_1) ?_
                    refine w_lI H (o := 29) (n := 3) rfl (H.perm 29 rfl) rfl rfl (H.fix 29 rfl rfl) (show 0 ≤ x143_1 ∧ x143_1 < ((3 : Nat) : Int) by omega) (by decide) (fun v17 ev17 qv17 => ?_)
                    have qv17 : (-1 : Int) ≤ v17 ∧ v17 ≤ 9 := qv17
                    have ev17 : (w29) (x143_1) = v17 := (congrFun ((funext (hA_143 29 rfl)).trans ((funext (hA_116 29 rfl)).trans ((funext (hA11 29 rfl)).trans ((funext (hA_55 29 rfl)).trans ((funext (hA_7 29 rfl)).trans (ew29)))))) (x143_1)).symm.trans ev17
                    rw [ev17] at hps hrx
                    have hor : (upd1 ((w143_34)) ((x143_1)) ((v17))) ((x143_1)) = ((w29)) ((x143_1)) := by rw [upd1_s]; exact ev17.symm
                    refine w_sI H (o := 34) (n := 3) rfl (H.perm 34 rfl) rfl rfl (H.fix 34 rfl rfl) (show 0 ≤ x143_1 ∧ x143_1 < ((3 : Nat) : Int) by omega) (by decide) (show (-1 : Int) ≤ v17 ∧ v17 ≤ 9 by omega) (fun σ H => ?_)
                    refine Ew_of (pc' := 161) (fun _ => x_aload_n rfl l143_0) ?_
                    refine w_gT H (o := 5) (t := 38) rfl (H.perm 5 rfl) rfl rfl rfl rfl rfl rfl ?_
                    refine Ew_of (pc' := 165) (fun _ => x_iload_n rfl l143_1) ?_
                    refine Ew_of (pc' := 166) (fun _ => x_aload_n rfl l143_0) ?_
                    refine w_gT H (o := 5) (t := 30) rfl (H.perm 5 rfl) rfl rfl rfl rfl rfl rfl ?_
                    refine Ew_of (pc' := 170) (fun _ => x_iload_n rfl l143_1) ?_
                    refine w_lJ H (o := 30) (n := 3) rfl (H.perm 30 rfl) rfl rfl (H.fix 30 rfl rfl) (show 0 ≤ x143_1 ∧ x143_1 < ((3 : Nat) : Int) by omega) (by decide) (fun v18 ev18 qv18 => ?_)
                    have qv18 : (-9223372036854775808 : Int) ≤ v18 ∧ v18 ≤ 9223372036854775807 := qv18
                    have ev18 : (w30) (x143_1) = v18 := (congrFun ((funext (hA_143 30 rfl)).trans ((funext (hA_116 30 rfl)).trans ((funext (hA11 30 rfl)).trans ((funext (hA_55 30 rfl)).trans ((funext (hA_7 30 rfl)).trans (ew30)))))) (x143_1)).symm.trans ev18
                    refine w_sJ H (o := 38) (n := 3) rfl (H.perm 38 rfl) rfl rfl (H.fix 38 rfl rfl) (show 0 ≤ x143_1 ∧ x143_1 < ((3 : Nat) : Int) by omega) (by decide) (show (-9223372036854775808 : Int) ≤ v18 ∧ v18 ≤ 9223372036854775807 by omega) (fun σ H => ?_)
                    refine Ew_of (pc' := 173) (fun _ => x_aload_n rfl l143_0) ?_
                    refine Ew_of (pc' := 174) (fun _ => x_iload_n rfl l143_1) ?_
                    refine w_inv H (o := 5) rfl rfl rfl (H.perm 5 rfl) rfl rfl (by rfl) (M263 H (w116_33) ((funext (hA_143 33 rfl)).trans (ew116_33)) (upd1 (w143_34) (x143_1) (v17)) (congrArg (fun q => upd1 q (x143_1) (v17)) (ew143_34)) (w143_35) (ew143_35) (w143_36) (ew143_36) (w143_37) (ew143_37) (show inr (x143_1) by omega) (show 0 ≤ (x143_1) ∧ (x143_1) ≤ 2 by omega) (show PS ((w116_33)) ((upd1 (w143_34) (x143_1) (v17))) ((x143_1)) by assumption) (show RX ((w143_35)) ((w143_36)) ((w143_37)) ((upd1 (w143_34) (x143_1) (v17))) ((x143_1)) by assumption) (fun σ F19 A20 H hS21 hA22 wq24 ewq25 wq26 ewq27 wq28 ewq29 pz23_0 pz23_1 pz23_2 pz23_3 pz23_4 => ⟨rfl, ?_⟩))
                    refine Ew_of (pc' := 180) (fun _ => x_iinc (len := 3) rfl (l143_1)) ?_
                    refine Ew_of (pc' := 143) (fun _ => x_goto rfl rfl) ?_
                    have hu0 : 0 < ((x143_1 + 1)) → 1 ≤ ((upd1 (w143_38) (x143_1) (v18))) 0 ∧ ((upd1 (w143_38) (x143_1) (v18))) 0 = Dc.2.2.2.2.1 := by simp only [upd1]; omega
                    have hu1 : 1 < ((x143_1 + 1)) → 1 ≤ ((upd1 (w143_38) (x143_1) (v18))) 1 ∧ ((upd1 (w143_38) (x143_1) (v18))) 1 = Dc.2.2.2.2.2.1 := by simp only [upd1]; omega
                    have hu2 : 2 < ((x143_1 + 1)) → 1 ≤ ((upd1 (w143_38) (x143_1) (v18))) 2 ∧ ((upd1 (w143_38) (x143_1) (v18))) 2 = Dc.2.2.2.2.2.2 := by simp only [upd1]; omega
                    have : ∀ t, 0 ≤ t → t < ((x143_1 + 1)) → RTL ((wq24)) ((wq26)) ((wq28)) ((upd1 (w143_34) (x143_1) (v17))) t (Dc.2.2.2.1 t) := RDX_s hRX j143_t (by omega) (fun i a b => j116_3 i a (by omega)) pz23_1 hor pz23_2 pz23_3 pz23_4 (FRM_upd FRM_refl (by omega) (by omega)) rfl
                    exact ih143 _ (by omega) _ σ _ _ ((x143_1 + 1)) (rk_o (l143_0) rfl rfl) (rk_s) H (SF_trans (hS_143) hS21 (any_sub rfl)) (SA_trans (SA_upd (SA_upd (hA_143) rfl) rfl) hA22 (any_subA rfl))  (upd1 (w143_34) (x143_1) (v17)) ((funext (hA22 34 rfl)).trans (congrArg (fun q => upd1 q (x143_1) (v17)) (ew143_34))) (wq24) (ewq25) (wq26) (ewq27) (wq28) (ewq29) (upd1 (w143_38) (x143_1) (v18)) ((funext (hA22 38 rfl)).trans (congrArg (fun q => upd1 q (x143_1) (v18)) (ew143_38))) (show inr ((x143_1 + 1)) by omega) (show (0) ≤ ((x143_1 + 1)) by omega) (show ((x143_1 + 1)) ≤ (0) ∨ ((x143_1 + 1)) ≤ (3) by omega) (show RT ((wq24)) ((wq26)) ((wq28)) ((upd1 (w143_34) (x143_1) (v17))) by assumption) (show 0 < ((x143_1 + 1)) → 1 ≤ ((upd1 (w143_38) (x143_1) (v18))) 0 ∧ ((upd1 (w143_38) (x143_1) (v18))) 0 = Dc.2.2.2.2.1 by omega) (show 1 < ((x143_1 + 1)) → 1 ≤ ((upd1 (w143_38) (x143_1) (v18))) 1 ∧ ((upd1 (w143_38) (x143_1) (v18))) 1 = Dc.2.2.2.2.2.1 by omega) (show 2 < ((x143_1 + 1)) → 1 ≤ ((upd1 (w143_38) (x143_1) (v18))) 2 ∧ ((upd1 (w143_38) (x143_1) (v18))) 2 = Dc.2.2.2.2.2.2 by omega) (show ∀ t, 0 ≤ t → t < ((x143_1 + 1)) → RTL ((wq24)) ((wq26)) ((wq28)) ((upd1 (w143_34) (x143_1) (v17))) t (Dc.2.2.2.1 t) by assumption) rfl
              · refine Ew_of (pc' := 124) (fun _ => x_aload_n rfl l116_0) ?_
                refine w_gT H (o := 5) (t := 33) rfl (H.perm 5 rfl) rfl rfl rfl rfl rfl rfl ?_
                refine Ew_of (pc' := 128) (fun _ => x_iload_n rfl l116_1) ?_
                refine Ew_of (pc' := 129) (fun _ => x_aload_n rfl l116_0) ?_
                refine w_gT H (o := 5) (t := 28) rfl (H.perm 5 rfl) rfl rfl rfl rfl rfl rfl ?_
                refine Ew_of (pc' := 133) (fun _ => x_iload_n rfl l116_1) ?_
                refine w_lI H (o := 28) (n := 192) rfl (H.perm 28 rfl) rfl rfl (H.fix 28 rfl rfl) (show 0 ≤ x116_1 ∧ x116_1 < ((192 : Nat) : Int) by omega) (by decide) (fun v30 ev30 qv30 => ?_)
                have qv30 : (-1 : Int) ≤ v30 ∧ v30 ≤ 512 := qv30
                have ev30 : (w28) (x116_1) = v30 := (congrFun ((funext (hA_116 28 rfl)).trans ((funext (hA11 28 rfl)).trans ((funext (hA_55 28 rfl)).trans ((funext (hA_7 28 rfl)).trans (ew28))))) (x116_1)).symm.trans ev30
                refine w_sI H (o := 33) (n := 192) rfl (H.perm 33 rfl) rfl rfl (H.fix 33 rfl rfl) (show 0 ≤ x116_1 ∧ x116_1 < ((192 : Nat) : Int) by omega) (by decide) (show (-1 : Int) ≤ v30 ∧ v30 ≤ 512 by omega) (fun σ H => ?_)
                refine Ew_of (pc' := 138) (fun _ => x_iinc (len := 3) rfl (l116_1)) ?_
                refine Ew_of (pc' := 116) (fun _ => x_goto rfl rfl) ?_
                have : ∀ i, (0 : Int) ≤ i → i < ((x116_1 + 1)) → ((upd1 (w116_33) (x116_1) (v30))) i = ((w28)) i := pt_copy j116_3 (by omega)
                exact ih116 _ (by omega) _ σ _ _ ((x116_1 + 1)) (rk_o (l116_0) rfl rfl) (rk_s) H (hS_116) (SA_upd (hA_116) rfl)  (upd1 (w116_33) (x116_1) (v30)) (congrArg (fun q => upd1 q (x116_1) (v30)) (ew116_33)) (show inr ((x116_1 + 1)) by omega) (show (0) ≤ ((x116_1 + 1)) by omega) (show ((x116_1 + 1)) ≤ (0) ∨ ((x116_1 + 1)) ≤ ((192)) by omega) (show ∀ i, 0 ≤ i → i < ((x116_1 + 1)) → ((upd1 (w116_33) (x116_1) (v30))) i = ((w28)) i by assumption) rfl
          · have hTl := hT.2.2.1 ((x55_1)) (by omega) (by omega)
            refine Ew_of (pc' := 63) (fun _ => x_aload_n rfl l55_0) ?_
            refine w_gT H (o := 5) (t := 31) rfl (H.perm 5 rfl) rfl rfl rfl rfl rfl rfl ?_
            refine Ew_of (pc' := 67) (fun _ => x_iload_n rfl l55_1) ?_
            refine Ew_of (pc' := 68) (fun _ => x_aload_n rfl l55_0) ?_
            refine w_gT H (o := 5) (t := 27) rfl (H.perm 5 rfl) rfl rfl rfl rfl rfl rfl ?_
            refine Ew_of (pc' := 72) (fun _ => x_iload_n rfl l55_1) ?_
            refine w_lI H (o := 27) (n := 256) rfl (H.perm 27 rfl) rfl rfl (H.fix 27 rfl rfl) (show 0 ≤ x55_1 ∧ x55_1 < ((256 : Nat) : Int) by omega) (by decide) (fun v31 ev31 qv31 => ?_)
            have qv31 : (0 : Int) ≤ v31 ∧ v31 ≤ 11 := qv31
            have ev31 : (w27) (x55_1) = v31 := (congrFun ((funext (hA_55 27 rfl)).trans ((funext (hA_7 27 rfl)).trans (ew27))) (x55_1)).symm.trans ev31
            refine w_sI H (o := 31) (n := 256) rfl (H.perm 31 rfl) rfl rfl (H.fix 31 rfl rfl) (show 0 ≤ x55_1 ∧ x55_1 < ((256 : Nat) : Int) by omega) (by decide) (show (0 : Int) ≤ v31 ∧ v31 ≤ 11 by omega) (fun σ H => ?_)
            refine Ew_of (pc' := 75) (fun _ => x_aload_n rfl l55_0) ?_
            refine Ew_of (pc' := 76) (fun _ => x_aload_n rfl l55_0) ?_
            refine w_gT H (o := 5) (t := 31) rfl (H.perm 5 rfl) rfl rfl rfl rfl rfl rfl ?_
            refine Ew_of (pc' := 80) (fun _ => x_iload_n rfl l55_1) ?_
            refine w_lI H (o := 31) (n := 256) rfl (H.perm 31 rfl) rfl rfl (H.fix 31 rfl rfl) (show 0 ≤ x55_1 ∧ x55_1 < ((256 : Nat) : Int) by omega) (by decide) (fun v32 ev32 qv32 => ?_)
            have qv32 : (0 : Int) ≤ v32 ∧ v32 ≤ 11 := qv32
            have ev32 : (upd1 (w55_31) (x55_1) (v31)) (x55_1) = v32 := (congrFun (congrArg (fun q => upd1 q (x55_1) (v31)) (ew55_31)) (x55_1)).symm.trans ev32
            refine Ew_of (pc' := 82) (fun _ => x_aload_n rfl l55_0) ?_
            refine w_gI H (o := 5) (w := y55_5_10) rfl (H.perm 5 rfl) rfl rfl rfl (fun _ => rfl) (ey55_5_10) ?_
            have hls : ((upd1 (w55_31) (x55_1) (v31))) ((x55_1)) = ((w27)) ((x55_1)) := by rw [upd1_s]; omega
            refine w_icmple (t := 97) rfl rfl (show inr (v32) by omega) (show inr (y55_5_10) by omega) (fun b33 => ?_) (fun b33 => ?_)
            · refine Ew_of (pc' := 98) (fun _ => x_aload_n rfl l55_0) ?_
              refine w_gI H (o := 5) (w := y55_5_10) rfl (H.perm 5 rfl) rfl rfl rfl (fun _ => rfl) (ey55_5_10) ?_
              refine w_pI H (o := 5) rfl rfl (H.perm 5 rfl) rfl rfl rfl (fun _ => rfl) rfl (show (0 : Int) ≤ y55_5_10 ∧ y55_5_10 ≤ 11 by omega) (fun σ H => ?_)
              have hdx : ((w27)) ((x55_1) + 1 - 1) = ((w27)) ((x55_1)) := by congr 1; omega
              refine Ew_of (pc' := 107) (fun _ => x_iinc (len := 3) rfl (l55_1)) ?_
              refine Ew_of (pc' := 55) (fun _ => x_goto rfl rfl) ?_
              have : ∀ i, (0 : Int) ≤ i → i < ((x55_1 + 1)) → ((upd1 (w55_31) (x55_1) (v31))) i = ((w27)) i := pt_copy j55_3 (by omega)
              have : ∀ i, (0 : Int) ≤ i → i < ((x55_1 + 1)) → ((w27)) i ≤ (y55_5_10) := fun i a b => by by_cases e : i = ((x55_1 + 1)) - 1; rw [e]; omega; have := j55_4 i a (by omega); omega
              exact ih55 _ (by omega) _ σ _ _ ((x55_1 + 1)) (rk_o (l55_0) rfl rfl) (rk_s) H (SF_upd (hS_55) rfl) (SA_upd (hA_55) rfl) (y55_5_10) (rfl) (upd1 (w55_31) (x55_1) (v31)) (congrArg (fun q => upd1 q (x55_1) (v31)) (ew55_31)) (show inr ((x55_1 + 1)) by omega) (show (0) ≤ ((x55_1 + 1)) by omega) (show ((x55_1 + 1)) ≤ (0) ∨ ((x55_1 + 1)) ≤ ((256)) by omega) (show ∀ i, 0 ≤ i → i < ((x55_1 + 1)) → ((upd1 (w55_31) (x55_1) (v31))) i = ((w27)) i by assumption) (show ∀ i, 0 ≤ i → i < ((x55_1 + 1)) → ((w27)) i ≤ (y55_5_10) by assumption) (show (y55_5_10) ≤ T by omega) rfl
            · refine Ew_of (pc' := 89) (fun _ => x_aload_n rfl l55_0) ?_
              refine w_gT H (o := 5) (t := 31) rfl (H.perm 5 rfl) rfl rfl rfl rfl rfl rfl ?_
              refine Ew_of (pc' := 93) (fun _ => x_iload_n rfl l55_1) ?_
              refine w_lI H (o := 31) (n := 256) rfl (H.perm 31 rfl) rfl rfl (H.fix 31 rfl rfl) (show 0 ≤ x55_1 ∧ x55_1 < ((256 : Nat) : Int) by omega) (by decide) (fun v34 ev34 qv34 => ?_)
              have qv34 : (0 : Int) ≤ v34 ∧ v34 ≤ 11 := qv34
              have ev34 : (upd1 (w55_31) (x55_1) (v31)) (x55_1) = v34 := (congrFun (congrArg (fun q => upd1 q (x55_1) (v31)) (ew55_31)) (x55_1)).symm.trans ev34
              refine Ew_of (pc' := 101) (fun _ => x_goto rfl rfl) ?_
              refine w_pI H (o := 5) rfl rfl (H.perm 5 rfl) rfl rfl rfl (fun _ => rfl) rfl (show (0 : Int) ≤ v34 ∧ v34 ≤ 11 by omega) (fun σ H => ?_)
              have hdx : ((w27)) ((x55_1) + 1 - 1) = ((w27)) ((x55_1)) := by congr 1; omega
              refine Ew_of (pc' := 107) (fun _ => x_iinc (len := 3) rfl (l55_1)) ?_
              refine Ew_of (pc' := 55) (fun _ => x_goto rfl rfl) ?_
              have : ∀ i, (0 : Int) ≤ i → i < ((x55_1 + 1)) → ((upd1 (w55_31) (x55_1) (v31))) i = ((w27)) i := pt_copy j55_3 (by omega)
              have : ∀ i, (0 : Int) ≤ i → i < ((x55_1 + 1)) → ((w27)) i ≤ (v34) := fun i a b => by by_cases e : i = ((x55_1 + 1)) - 1; rw [e]; omega; have := j55_4 i a (by omega); omega
              exact ih55 _ (by omega) _ σ _ _ ((x55_1 + 1)) (rk_o (l55_0) rfl rfl) (rk_s) H (SF_upd (hS_55) rfl) (SA_upd (hA_55) rfl) (v34) (rfl) (upd1 (w55_31) (x55_1) (v31)) (congrArg (fun q => upd1 q (x55_1) (v31)) (ew55_31)) (show inr ((x55_1 + 1)) by omega) (show (0) ≤ ((x55_1 + 1)) by omega) (show ((x55_1 + 1)) ≤ (0) ∨ ((x55_1 + 1)) ≤ ((256)) by omega) (show ∀ i, 0 ≤ i → i < ((x55_1 + 1)) → ((upd1 (w55_31) (x55_1) (v31))) i = ((w27)) i by assumption) (show ∀ i, 0 ≤ i → i < ((x55_1 + 1)) → ((w27)) i ≤ (v34) by assumption) (show (v34) ≤ T by omega) rfl
      · have hrd0 := (hrdi.2.2.resolve_right (fun q => by have := q.1; omega))
        have : RTA ((A 35)) ((A 36)) ((A 37)) ((w7_34)) Dc.2.2.2.1 := fun t a b => ⟨by rw [j7_3 t a (by omega), hrd0.2.2.1 t a b], .inl (by rw [hrd0.2.2.1 t a b]; decide)⟩
        have : RCO ((0)) (Dc.2.2.1.2) ((A 31)) ((A 32)) := .inl (by omega)
        have : (0) = Dc.2.2.1.1 := hrd0.2.1.symm
        have : ((w7_38)) 0 = Dc.2.2.2.2.1 ∧ ((w7_38)) 1 = Dc.2.2.2.2.2.1 ∧ ((w7_38)) 2 = Dc.2.2.2.2.2.2 := ⟨by rw [hrd0.2.2.2.1]; omega, by rw [hrd0.2.2.2.2.1]; omega, by rw [hrd0.2.2.2.2.2]; omega⟩
        exact w_ret rfl (k σ _ _ H (SF_trans (SF_upd (SF_refl) rfl) hS_7 (any_sub rfl)) (SA_trans (SA_refl) hA_7 (any_subA rfl)) (0) ((hS_7 5 10 rfl)) (A 31) (funext (hA_7 31 rfl)) (A 32) (funext (hA_7 32 rfl)) (w7_34) (ew7_34) (A 35) (funext (hA_7 35 rfl)) (A 36) (funext (hA_7 36 rfl)) (A 37) (funext (hA_7 37 rfl)) (w7_38) (ew7_38) (show RT ((A 35)) ((A 36)) ((A 37)) ((w7_34)) by assumption) (show 1 ≤ ((w7_38)) 0 ∧ 1 ≤ ((w7_38)) 1 ∧ 1 ≤ ((w7_38)) 2 by omega) (show RTA ((A 35)) ((A 36)) ((A 37)) ((w7_34)) Dc.2.2.2.1 by assumption) (show RCO ((0)) (Dc.2.2.1.2) ((A 31)) ((A 32)) by assumption) (show (0) = Dc.2.2.1.1 by assumption) (show ((w7_38)) 0 = Dc.2.2.2.2.1 ∧ ((w7_38)) 1 = Dc.2.2.2.2.2.1 ∧ ((w7_38)) 2 = Dc.2.2.2.2.2.2 by assumption))
    · refine Ew_of (pc' := 13) (fun _ => x_aload_n rfl l7_0) ?_
      refine w_gT H (o := 5) (t := 34) rfl (H.perm 5 rfl) rfl rfl rfl rfl rfl rfl ?_
      refine Ew_of (pc' := 17) (fun _ => x_iload_n rfl l7_1) ?_
      refine Ew_of (pc' := 18) (fun _ => x_iconst rfl) ?_
      refine w_sI H (o := 34) (n := 3) rfl (H.perm 34 rfl) rfl rfl (H.fix 34 rfl rfl) (show 0 ≤ x7_1 ∧ x7_1 < ((3 : Nat) : Int) by omega) (by decide) (show (-1 : Int) ≤ (-1) ∧ (-1) ≤ 9 by omega) (fun σ H => ?_)
      refine Ew_of (pc' := 20) (fun _ => x_aload_n rfl l7_0) ?_
      refine w_gT H (o := 5) (t := 38) rfl (H.perm 5 rfl) rfl rfl rfl rfl rfl rfl ?_
      refine Ew_of (pc' := 24) (fun _ => x_iload_n rfl l7_1) ?_
      refine Ew_of (pc' := 25) (fun _ => x_iload_n rfl l7_1) ?_
      refine w_ifne (t := 32) rfl rfl (show inr (x7_1) by omega) (fun b35 => ?_) (fun b35 => ?_)
      · refine Ew_of (pc' := 35) (fun _ => x_ldc2 (z := 4) rfl (by decide)) ?_
        refine Ew_of (pc' := 36) (fun _ => x_iload_n rfl l7_1) ?_
        refine w_i2l rfl (show inr (x7_1) by omega) ?_
        refine w_lmul rfl ?_
        refine w_sJ H (o := 38) (n := 3) rfl (H.perm 38 rfl) rfl rfl (H.fix 38 rfl rfl) (show 0 ≤ x7_1 ∧ x7_1 < ((3 : Nat) : Int) by omega) (by decide) (show (-9223372036854775808 : Int) ≤ (4 * x7_1) ∧ (4 * x7_1) ≤ 9223372036854775807 by omega) (fun σ H => ?_)
        refine Ew_of (pc' := 42) (fun _ => x_iinc (len := 3) rfl (l7_1)) ?_
        refine Ew_of (pc' := 7) (fun _ => x_goto rfl rfl) ?_
        have : ∀ t, (0 : Int) ≤ t → t < ((x7_1 + 1)) → ((upd1 (w7_34) (x7_1) ((-1)))) t = -1 := fun t a b => by simp only [upd1]; split; omega; exact j7_3 t a (by omega)
        have hu0 : 0 < ((x7_1 + 1)) → ((upd1 (w7_38) (x7_1) ((4 * x7_1)))) 0 = 1 := by simp only [upd1]; omega
        have hu1 : 1 < ((x7_1 + 1)) → ((upd1 (w7_38) (x7_1) ((4 * x7_1)))) 1 = 4 := by simp only [upd1]; omega
        have hu2 : 2 < ((x7_1 + 1)) → ((upd1 (w7_38) (x7_1) ((4 * x7_1)))) 2 = 8 := by simp only [upd1]; omega
        exact ih7 _ (by omega) _ σ _ _ ((x7_1 + 1)) (rk_o (l7_0) rfl rfl) (rk_s) H (hS_7) (SA_upd (SA_upd (hA_7) rfl) rfl)  (upd1 (w7_34) (x7_1) ((-1))) (congrArg (fun q => upd1 q (x7_1) ((-1))) (ew7_34)) (upd1 (w7_38) (x7_1) ((4 * x7_1))) (congrArg (fun q => upd1 q (x7_1) ((4 * x7_1))) (ew7_38)) (show inr ((x7_1 + 1)) by omega) (show (0) ≤ ((x7_1 + 1)) by omega) (show ((x7_1 + 1)) ≤ (0) ∨ ((x7_1 + 1)) ≤ (3) by omega) (show ∀ t, 0 ≤ t → t < ((x7_1 + 1)) → ((upd1 (w7_34) (x7_1) ((-1)))) t = -1 by assumption) (show 0 < ((x7_1 + 1)) → ((upd1 (w7_38) (x7_1) ((4 * x7_1)))) 0 = 1 by omega) (show 1 < ((x7_1 + 1)) → ((upd1 (w7_38) (x7_1) ((4 * x7_1)))) 1 = 4 by omega) (show 2 < ((x7_1 + 1)) → ((upd1 (w7_38) (x7_1) ((4 * x7_1)))) 2 = 8 by omega) rfl
      · refine Ew_of (pc' := 29) (fun _ => x_lconst (z := 1) rfl (by decide)) ?_
        refine Ew_of (pc' := 38) (fun _ => x_goto rfl rfl) ?_
        refine w_sJ H (o := 38) (n := 3) rfl (H.perm 38 rfl) rfl rfl (H.fix 38 rfl rfl) (show 0 ≤ x7_1 ∧ x7_1 < ((3 : Nat) : Int) by omega) (by decide) (show (-9223372036854775808 : Int) ≤ 1 ∧ 1 ≤ 9223372036854775807 by omega) (fun σ H => ?_)
        refine Ew_of (pc' := 42) (fun _ => x_iinc (len := 3) rfl (l7_1)) ?_
        refine Ew_of (pc' := 7) (fun _ => x_goto rfl rfl) ?_
        have : ∀ t, (0 : Int) ≤ t → t < ((x7_1 + 1)) → ((upd1 (w7_34) (x7_1) ((-1)))) t = -1 := fun t a b => by simp only [upd1]; split; omega; exact j7_3 t a (by omega)
        have hu0 : 0 < ((x7_1 + 1)) → ((upd1 (w7_38) (x7_1) (1))) 0 = 1 := by simp only [upd1]; omega
        have hu1 : 1 < ((x7_1 + 1)) → ((upd1 (w7_38) (x7_1) (1))) 1 = 4 := by simp only [upd1]; omega
        have hu2 : 2 < ((x7_1 + 1)) → ((upd1 (w7_38) (x7_1) (1))) 2 = 8 := by simp only [upd1]; omega
        exact ih7 _ (by omega) _ σ _ _ ((x7_1 + 1)) (rk_o (l7_0) rfl rfl) (rk_s) H (hS_7) (SA_upd (SA_upd (hA_7) rfl) rfl)  (upd1 (w7_34) (x7_1) ((-1))) (congrArg (fun q => upd1 q (x7_1) ((-1))) (ew7_34)) (upd1 (w7_38) (x7_1) (1)) (congrArg (fun q => upd1 q (x7_1) (1)) (ew7_38)) (show inr ((x7_1 + 1)) by omega) (show (0) ≤ ((x7_1 + 1)) by omega) (show ((x7_1 + 1)) ≤ (0) ∨ ((x7_1 + 1)) ≤ (3) by omega) (show ∀ t, 0 ≤ t → t < ((x7_1 + 1)) → ((upd1 (w7_34) (x7_1) ((-1)))) t = -1 by assumption) (show 0 < ((x7_1 + 1)) → ((upd1 (w7_38) (x7_1) (1))) 0 = 1 by omega) (show 1 < ((x7_1 + 1)) → ((upd1 (w7_38) (x7_1) (1))) 1 = 4 by omega) (show 2 < ((x7_1 + 1)) → ((upd1 (w7_38) (x7_1) (1))) 2 = 8 by omega) rfl
