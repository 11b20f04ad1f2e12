/-- Writer.layCells -/
theorem M430_53 {σ0 σ : rS} {D N : Nat → Nat} {F : hF} {A : hA} {d c s : Nat} {Q : wQ} (H : HS σ0 σ D N F A) {a2 : Int} (w53 : Int → Int) (ew53 : A 53 = w53) (h0 : inr (a2)) (h1 : CI ((w53)) ((a2))) (k : ∀ σ F' A', HS σ0 σ D N F' A' → SF [] F F' → SA [83] A A' → ∀ v83 : Int → Int, A' 83 = v83 → (CX ((v83)) ((w53))) → (fl ((v83)) (p2 ((a2))) = CELS ((w53)) ((a2))) → Q none σ c s) : Ew 430 (d + 0) 0 (rargs 0 [.ref (D 6), .ref (D 53), I a2]) [] σ c s Q := by
  refine Ew_of (pc' := 1) (fun _ => x_iconst rfl) ?_
  refine Ew_of (pc' := 2) (fun _ => x_istore_n rfl) ?_
  refine Ew_of (pc' := 3) (fun _ => x_iconst rfl) ?_
  refine Ew_of (pc' := 5) (fun _ => x_istore rfl) ?_
  have hci : CI ((w53)) ((a2)) := by assumption
  have := kq_1 hci.2.2.1
  have := p2_11 hci.2.1
  have : CP ((A 83)) ((w53)) ((a2)) 1 0 0 := CP_0 hci.2.2.1
  have hcT := hci.1
  have hcU := hci.2.1
  have : fl ((A 83)) 0 = CLa ((w53)) ((a2)) (1 - 1 : Int).toNat := rfl
  suffices hl5 : ∀ (m : Nat), ∀ (ls : rO) (σ : rS) (F_5 : hF) (A_5 : hA) (x5_3 : Int) (x5_4 : Int), rlook ls 0 = some (.ref (D 6)) → rlook ls 1 = some (.ref (D 53)) → rlook ls 2 = some (I (a2)) → rlook ls 3 = some (I (x5_3)) → rlook ls 4 = some (I (x5_4)) → HS σ0 σ D N F_5 A_5 → SF [] F F_5 → SA [83] A A_5 → ∀ w5_83 : Int → Int, A_5 83 = w5_83 → (inr (x5_3)) → (inr (x5_4)) → ((1) ≤ (x5_4)) → ((x5_4) ≤ (1) ∨ (x5_4) ≤ (((a2) + 1))) → (1 ≤ (x5_4)) → ((x5_3) = su (kq ((w53)) ((a2)) ((x5_4))) 256) → (CP ((w5_83)) ((w53)) ((a2)) ((x5_4)) (0) ((x5_3))) → (fl ((w5_83)) ((x5_3)) = CLa ((w53)) ((a2)) ((x5_4) - 1 : Int).toNat) → ((((a2) + 1)) - (x5_4)).toNat = m → Ew 430 (d + 0) 5 ls [] σ c s Q from
    hl5 _ _ σ _ _ (0) (1) (rk_o (rk_o (rfl) rfl rfl) rfl rfl) (rk_o (rk_o (rfl) rfl rfl) rfl rfl) (rk_o (rk_o (rfl) rfl rfl) rfl rfl) (rk_o (rk_s) rfl rfl) (rk_s) H (SF_refl) (SA_refl)  (A 83) (rfl) (show inr (0) by omega) (show inr (1) by omega) (show (1) ≤ (1) by omega) (show (1) ≤ (1) ∨ (1) ≤ (((a2) + 1)) by omega) (show 1 ≤ (1) by omega) (show (0) = su (kq ((w53)) ((a2)) ((1))) 256 by omega) (show CP ((A 83)) ((w53)) ((a2)) ((1)) (0) ((0)) by assumption) (show fl ((A 83)) ((0)) = CLa ((w53)) ((a2)) ((1) - 1 : Int).toNat by assumption) rfl
  as_aux_lemma =>
  intro m
  induction m using Nat.strongRecOn with
  | _ m ih5 =>
    intro ls σ F_5 A_5 x5_3 x5_4 l5_0 l5_1 l5_2 l5_3 l5_4 H hS_5 hA_5  w5_83 ew5_83 j5_0 j5_1 j5_2 j5_3 j5_4 j5_5 j5_6 j5_7 hm5
    have j5_k : (x5_3) = su (kq ((w53)) ((a2)) ((x5_4))) 256 := by assumption
    have j5_c : fl ((w5_83)) ((x5_3)) = CLa ((w53)) ((a2)) ((x5_4) - 1 : Int).toNat := by assumption
    refine Ew_of (pc' := 7) (fun _ => x_iload rfl l5_4) ?_
    refine Ew_of (pc' := 8) (fun _ => x_iload_n rfl l5_2) ?_
    refine w_icmpgt (t := 78) rfl rfl (show inr (x5_4) by omega) (show inr (a2) by omega) (fun b1 => ?_) (fun b1 => ?_)
    · have hall := CI_all hci
      have : fl ((w5_83)) (p2 ((a2))) = CELS ((w53)) ((a2)) := by rw [show (x5_4) = (a2) + 1 by omega] at j5_c j5_k; rw [← hall, ← j5_k, j5_c]; unfold CELS; rw [show (a2) + 1 - 1 = (a2) by omega]
      have hro3 := CI_room (w := (x5_4)) (s := 0) hci (by omega) (by omega)
      have : CX ((w5_83)) ((w53)) := CX_of (by assumption) (by omega) (by have : su (ke ((w53)) ((a2)) ((x5_4))) (0 : Int).toNat = 0 := rfl; omega) hci.2.2.1
      exact w_ret rfl (k σ _ _ H (SF_trans (SF_refl) hS_5 (any_sub rfl)) (SA_trans (SA_refl) hA_5 (any_subA rfl)) (w5_83) (ew5_83) (show CX ((w5_83)) ((w53)) by assumption) (show fl ((w5_83)) (p2 (a2)) = CELS ((w53)) (a2) by assumption))
    · refine Ew_of (pc' := 12) (fun _ => x_iconst rfl) ?_
      refine Ew_of (pc' := 14) (fun _ => x_istore rfl) ?_
      have : su (ke ((w53)) ((a2)) ((x5_4))) (0 : Int).toNat = 0 := rfl
      have : fl ((w5_83)) ((x5_3)) = CLa ((w53)) ((a2)) ((x5_4) - 1 : Int).toNat ++ CLw ((w53)) ((a2)) ((x5_4)) (0 : Int).toNat := by rw [j5_c]; exact (List.append_nil _).symm
      suffices hl14 : ∀ (m : Nat), ∀ (ls : rO) (σ : rS) (F_14 : hF) (A_14 : hA) (x14_3 : Int) (x14_5 : Int), rlook ls 0 = some (.ref (D 6)) → rlook ls 1 = some (.ref (D 53)) → rlook ls 2 = some (I (a2)) → rlook ls 3 = some (I (x14_3)) → rlook ls 4 = some (I (x5_4)) → rlook ls 5 = some (I (x14_5)) → HS σ0 σ D N F_14 A_14 → SF [] F_5 F_14 → SA [83] A_5 A_14 → ∀ w14_83 : Int → Int, A_14 83 = w14_83 → (inr (x14_3)) → (inr (x14_5)) → ((0) ≤ (x14_5)) → ((x14_5) ≤ (0) ∨ (x14_5) ≤ ((256))) → ((x14_3) = su (kq ((w53)) ((a2)) ((x5_4))) 256 + su (ke ((w53)) ((a2)) ((x5_4))) ((x14_5) : Int).toNat) → (CP ((w14_83)) ((w53)) ((a2)) ((x5_4)) ((x14_5)) ((x14_3))) → (fl ((w14_83)) ((x14_3)) = CLa ((w53)) ((a2)) ((x5_4) - 1 : Int).toNat ++ CLw ((w53)) ((a2)) ((x5_4)) ((x14_5) : Int).toNat) → (((256)) - (x14_5)).toNat = m → Ew 430 (d + 0) 14 ls [] σ c s Q from
        hl14 _ _ σ _ _ (x5_3) (0) (rk_o (l5_0) rfl rfl) (rk_o (l5_1) rfl rfl) (rk_o (l5_2) rfl rfl) (rk_o (l5_3) rfl rfl) (rk_o (l5_4) rfl rfl) (rk_s) H (SF_refl) (SA_refl)  (w5_83) (ew5_83) (show inr (x5_3) by omega) (show inr (0) by omega) (show (0) ≤ (0) by omega) (show (0) ≤ (0) ∨ (0) ≤ ((256)) by omega) (show (x5_3) = su (kq ((w53)) ((a2)) ((x5_4))) 256 + su (ke ((w53)) ((a2)) ((x5_4))) ((0) : Int).toNat by omega) (show CP ((w5_83)) ((w53)) ((a2)) ((x5_4)) ((0)) ((x5_3)) by assumption) (show fl ((w5_83)) ((x5_3)) = CLa ((w53)) ((a2)) ((x5_4) - 1 : Int).toNat ++ CLw ((w53)) ((a2)) ((x5_4)) ((0) : Int).toNat by assumption) rfl
      as_aux_lemma =>
      intro m
      induction m using Nat.strongRecOn with
      | _ m ih14 =>
        intro ls σ F_14 A_14 x14_3 x14_5 l14_0 l14_1 l14_2 l14_3 l14_4 l14_5 H hS_14 hA_14  w14_83 ew14_83 j14_0 j14_1 j14_2 j14_3 j14_4 j14_5 j14_6 hm14
        have j14_c : fl ((w14_83)) ((x14_3)) = CLa ((w53)) ((a2)) ((x5_4) - 1 : Int).toNat ++ CLw ((w53)) ((a2)) ((x5_4)) ((x14_5) : Int).toNat := by assumption
        refine Ew_of (pc' := 16) (fun _ => x_iload rfl l14_5) ?_
        refine Ew_of (pc' := 19) (fun _ => x_sipush (z := 256) rfl (by decide)) ?_
        refine w_icmpge (t := 72) rfl rfl (show inr (x14_5) by omega) (show inr (256) by omega) (fun b2 => ?_) (fun b2 => ?_)
        · have : su (ke ((w53)) ((a2)) ((x5_4))) ((x14_5) : Int).toNat = su (ke ((w53)) ((a2)) ((x5_4))) 256 := by rw [show (x14_5) = 256 by omega]; rfl
          have := kq_s (g := (w53)) (T := (a2)) (w := (x5_4)) (n := 256)
          have : fl ((w14_83)) ((x14_3)) = CLa ((w53)) ((a2)) ((x5_4) + 1 - 1 : Int).toNat := CEL_a j14_c (by omega) (by omega) rfl
          refine Ew_of (pc' := 75) (fun _ => x_iinc (len := 3) rfl (l14_4)) ?_
          refine Ew_of (pc' := 5) (fun _ => x_goto rfl rfl) ?_
          have : CP ((w14_83)) ((w53)) ((a2)) (((x5_4 + 1))) 0 ((x14_3)) := CP_w (by rw [show (256 : Int) = x14_5 by omega]; assumption) rfl
          exact ih5 _ (by omega) _ σ _ _ (x14_3) ((x5_4 + 1)) (rk_o (l14_0) rfl rfl) (rk_o (l14_1) rfl rfl) (rk_o (l14_2) rfl rfl) (rk_o (l14_3) rfl rfl) (rk_s) H (SF_trans (hS_5) hS_14 (any_sub rfl)) (SA_trans (hA_5) hA_14 (any_subA rfl))  (w14_83) (ew14_83) (show inr (x14_3) by omega) (show inr ((x5_4 + 1)) by omega) (show (1) ≤ ((x5_4 + 1)) by omega) (show ((x5_4 + 1)) ≤ (1) ∨ ((x5_4 + 1)) ≤ (((a2) + 1)) by omega) (show 1 ≤ ((x5_4 + 1)) by omega) (show (x14_3) = su (kq ((w53)) ((a2)) (((x5_4 + 1)))) 256 by omega) (show CP ((w14_83)) ((w53)) ((a2)) (((x5_4 + 1))) (0) ((x14_3)) by assumption) (show fl ((w14_83)) ((x14_3)) = CLa ((w53)) ((a2)) (((x5_4 + 1)) - 1 : Int).toNat by assumption) rfl
        · have hks := su_s (f := ke ((w53)) ((a2)) ((x5_4))) (i := (x14_5)) (by omega)
          have hke := ke_eq ((w53)) ((a2)) ((x5_4)) ((x14_5))
          have hro := CI_room (w := (x5_4)) (s := (x14_5) + 1) hci (by omega) (by omega)
          have hpp := p2_pos ((x5_4) - 1)
          have hro2 := CI_room (w := (x5_4)) (s := (x14_5)) hci (by omega) (by omega)
          have hgl := hci.2.2.1 ((x14_5)) (by omega) (by omega)
          refine Ew_of (pc' := 23) (fun _ => x_iconst rfl) ?_
          refine Ew_of (pc' := 25) (fun _ => x_istore rfl) ?_
          have : (0 : Int) < 0 → EXC ((w14_83)) ((x14_5)) ((x14_3)) := fun q => absurd q (by decide)
          have : fl ((w14_83)) ((x14_3)) = (CLa ((w53)) ((a2)) ((x5_4) - 1 : Int).toNat ++ CLw ((w53)) ((a2)) ((x5_4)) ((x14_5) : Int).toNat) ++ List.replicate (0 : Int).toNat ((x14_5)) := by rw [j14_c]; exact (List.append_nil _).symm
          suffices hl25 : ∀ (m : Nat), ∀ (ls : rO) (σ : rS) (F_25 : hF) (A_25 : hA) (x25_3 : Int) (x25_6 : Int), rlook ls 0 = some (.ref (D 6)) → rlook ls 1 = some (.ref (D 53)) → rlook ls 2 = some (I (a2)) → rlook ls 3 = some (I (x25_3)) → rlook ls 4 = some (I (x5_4)) → rlook ls 5 = some (I (x14_5)) → rlook ls 6 = some (I (x25_6)) → HS σ0 σ D N F_25 A_25 → SF [] F_14 F_25 → SA [83] A_14 A_25 → ∀ w25_83 : Int → Int, A_25 83 = w25_83 → (inr (x25_3)) → (inr (x25_6)) → (0 ≤ (x25_6) ∧ (x25_6) ≤ p2 ((x5_4) - 1)) → ((x25_3) = (x14_3) + (x25_6)) → ((x25_6) = 0 ∨ ((w53)) ((x14_5)) = (a2) + 1 - (x5_4)) → (CP ((w25_83)) ((w53)) ((a2)) ((x5_4)) ((x14_5)) ((x25_3))) → (0 < (x25_6) → EXC ((w25_83)) ((x14_5)) ((x25_3))) → (fl ((w25_83)) ((x25_3)) = (CLa ((w53)) ((a2)) ((x5_4) - 1 : Int).toNat ++ CLw ((w53)) ((a2)) ((x5_4)) ((x14_5) : Int).toNat) ++ List.replicate ((x25_6) : Int).toNat ((x14_5))) → (p2 ((x5_4) - 1) - (x25_6)).toNat = m → Ew 430 (d + 0) 25 ls [] σ c s Q from
            hl25 _ _ σ _ _ (x14_3) (0) (rk_o (l14_0) rfl rfl) (rk_o (l14_1) rfl rfl) (rk_o (l14_2) rfl rfl) (rk_o (l14_3) rfl rfl) (rk_o (l14_4) rfl rfl) (rk_o (l14_5) rfl rfl) (rk_s) H (SF_refl) (SA_refl)  (w14_83) (ew14_83) (show inr (x14_3) by omega) (show inr (0) by omega) (show 0 ≤ (0) ∧ (0) ≤ p2 ((x5_4) - 1) by omega) (show (x14_3) = (x14_3) + (0) by omega) (show (0) = 0 ∨ ((w53)) ((x14_5)) = (a2) + 1 - (x5_4) by omega) (show CP ((w14_83)) ((w53)) ((a2)) ((x5_4)) ((x14_5)) ((x14_3)) by assumption) (show 0 < (0) → EXC ((w14_83)) ((x14_5)) ((x14_3)) by assumption) (show fl ((w14_83)) ((x14_3)) = (CLa ((w53)) ((a2)) ((x5_4) - 1 : Int).toNat ++ CLw ((w53)) ((a2)) ((x5_4)) ((x14_5) : Int).toNat) ++ List.replicate ((0) : Int).toNat ((x14_5)) by assumption) rfl
          as_aux_lemma =>
          intro m
          induction m using Nat.strongRecOn with
          | _ m ih25 =>
            intro ls σ F_25 A_25 x25_3 x25_6 l25_0 l25_1 l25_2 l25_3 l25_4 l25_5 l25_6 H hS_25 hA_25  w25_83 ew25_83 j25_0 j25_1 j25_2 j25_3 j25_4 j25_5 j25_6 j25_7 hm25
            have j25_c : fl ((w25_83)) ((x25_3)) = (CLa ((w53)) ((a2)) ((x5_4) - 1 : Int).toNat ++ CLw ((w53)) ((a2)) ((x5_4)) ((x14_5) : Int).toNat) ++ List.replicate ((x25_6) : Int).toNat ((x14_5)) := by assumption
            obtain ⟨q6, hq6⟩ : ∃ q : Int, q = (x25_6) := ⟨_, rfl⟩
            have j25_cp : CP ((w25_83)) ((w53)) ((a2)) ((x5_4)) ((x14_5)) ((x25_3)) := by assumption
            have j25_ex : 0 < (x25_6) → EXC ((w25_83)) ((x14_5)) ((x25_3)) := by assumption
            have hpb := p2_mono (show (x5_4) - 1 ≤ 11 by omega)
            have : p2 11 = 2048 := by decide
            refine Ew_of (pc' := 26) (fun _ => x_aload_n rfl l25_1) ?_
            refine Ew_of (pc' := 28) (fun _ => x_iload rfl l25_5) ?_
            refine w_lI H (o := 53) (n := 256) rfl (H.perm 53 rfl) rfl rfl (H.fix 53 rfl rfl) (show 0 ≤ x14_5 ∧ x14_5 < ((256 : Nat) : Int) by omega) (by decide) (fun v3 ev3 qv3 => ?_)
            have qv3 : (0 : Int) ≤ v3 ∧ v3 ≤ 11 := qv3
            have ev3 : (w53) (x14_5) = v3 := (congrFun ((funext (hA_25 53 rfl)).trans ((funext (hA_14 53 rfl)).trans ((funext (hA_5 53 rfl)).trans (ew53)))) (x14_5)).symm.trans ev3
            have hl29 := ev3
            refine Ew_of (pc' := 30) (fun _ => x_iload_n rfl l25_2) ?_
            refine Ew_of (pc' := 31) (fun _ => x_iconst rfl) ?_
            refine w_iadd rfl ?_
            refine Ew_of (pc' := 34) (fun _ => x_iload rfl l25_4) ?_
            refine w_isub rfl ?_
            refine w_icmpne (t := 66) rfl rfl (show inr (v3) by omega) (show inr (((a2 + 1) - x5_4)) by omega) (fun b4 => ?_) (fun b4 => ?_)
            · refine Ew_of (pc' := 69) (fun _ => x_iinc (len := 3) rfl (l25_5)) ?_
              refine Ew_of (pc' := 14) (fun _ => x_goto rfl rfl) ?_
              have : CP ((w25_83)) ((w53)) ((a2)) ((x5_4)) (((x14_5 + 1))) ((x25_3)) := CP_end j25_cp rfl (by omega) (by first | exact (fun b => absurd b (by omega)) | exact (fun _ => j25_ex (by omega)))
              have : fl ((w25_83)) ((x25_3)) = CLa ((w53)) ((a2)) ((x5_4) - 1 : Int).toNat ++ CLw ((w53)) ((a2)) ((x5_4)) (((x14_5 + 1)) : Int).toNat := by first | exact CEL_y (k := q6) (by rw [hq6]; exact j25_c) (by omega) (by omega) rfl (by omega) | exact CEL_n (by have h := j25_c; rw [← hq6, show q6 = 0 by omega] at h; rw [h]; exact List.append_nil _) (by omega) rfl (by omega)
              exact ih14 _ (by omega) _ σ _ _ (x25_3) ((x14_5 + 1)) (rk_o (l25_0) rfl rfl) (rk_o (l25_1) rfl rfl) (rk_o (l25_2) rfl rfl) (rk_o (l25_3) rfl rfl) (rk_o (l25_4) rfl rfl) (rk_s) H (SF_trans (hS_14) hS_25 (any_sub rfl)) (SA_trans (hA_14) hA_25 (any_subA rfl))  (w25_83) (ew25_83) (show inr (x25_3) by omega) (show inr ((x14_5 + 1)) by omega) (show (0) ≤ ((x14_5 + 1)) by omega) (show ((x14_5 + 1)) ≤ (0) ∨ ((x14_5 + 1)) ≤ ((256)) by omega) (show (x25_3) = su (kq ((w53)) ((a2)) ((x5_4))) 256 + su (ke ((w53)) ((a2)) ((x5_4))) (((x14_5 + 1)) : Int).toNat by omega) (show CP ((w25_83)) ((w53)) ((a2)) ((x5_4)) (((x14_5 + 1))) ((x25_3)) by assumption) (show fl ((w25_83)) ((x25_3)) = CLa ((w53)) ((a2)) ((x5_4) - 1 : Int).toNat ++ CLw ((w53)) ((a2)) ((x5_4)) (((x14_5 + 1)) : Int).toNat by assumption) rfl
            · refine Ew_of (pc' := 40) (fun _ => x_iload rfl l25_6) ?_
              refine Ew_of (pc' := 41) (fun _ => x_iconst rfl) ?_
              refine Ew_of (pc' := 43) (fun _ => x_iload rfl l25_4) ?_
              refine Ew_of (pc' := 44) (fun _ => x_iconst rfl) ?_
              refine w_isub rfl ?_
              refine w_ishl1 rfl (show 0 ≤ (x5_4 - 1) ∧ (x5_4 - 1) ≤ 31 by omega) ?_
              refine w_icmpge (t := 66) rfl rfl (show inr (x25_6) by omega) (show inr (p2 ((x5_4 - 1))) by omega) (fun b6 => ?_) (fun b6 => ?_)
              · refine Ew_of (pc' := 69) (fun _ => x_iinc (len := 3) rfl (l25_5)) ?_
                refine Ew_of (pc' := 14) (fun _ => x_goto rfl rfl) ?_
                have : CP ((w25_83)) ((w53)) ((a2)) ((x5_4)) (((x14_5 + 1))) ((x25_3)) := CP_end j25_cp rfl (by omega) (by first | exact (fun b => absurd b (by omega)) | exact (fun _ => j25_ex (by omega)))
                have : fl ((w25_83)) ((x25_3)) = CLa ((w53)) ((a2)) ((x5_4) - 1 : Int).toNat ++ CLw ((w53)) ((a2)) ((x5_4)) (((x14_5 + 1)) : Int).toNat := by first | exact CEL_y (k := q6) (by rw [hq6]; exact j25_c) (by omega) (by omega) rfl (by omega) | exact CEL_n (by have h := j25_c; rw [← hq6, show q6 = 0 by omega] at h; rw [h]; exact List.append_nil _) (by omega) rfl (by omega)
                exact ih14 _ (by omega) _ σ _ _ (x25_3) ((x14_5 + 1)) (rk_o (l25_0) rfl rfl) (rk_o (l25_1) rfl rfl) (rk_o (l25_2) rfl rfl) (rk_o (l25_3) rfl rfl) (rk_o (l25_4) rfl rfl) (rk_s) H (SF_trans (hS_14) hS_25 (any_sub rfl)) (SA_trans (hA_14) hA_25 (any_subA rfl))  (w25_83) (ew25_83) (show inr (x25_3) by omega) (show inr ((x14_5 + 1)) by omega) (show (0) ≤ ((x14_5 + 1)) by omega) (show ((x14_5 + 1)) ≤ (0) ∨ ((x14_5 + 1)) ≤ ((256)) by omega) (show (x25_3) = su (kq ((w53)) ((a2)) ((x5_4))) 256 + su (ke ((w53)) ((a2)) ((x5_4))) (((x14_5 + 1)) : Int).toNat by omega) (show CP ((w25_83)) ((w53)) ((a2)) ((x5_4)) (((x14_5 + 1))) ((x25_3)) by assumption) (show fl ((w25_83)) ((x25_3)) = CLa ((w53)) ((a2)) ((x5_4) - 1 : Int).toNat ++ CLw ((w53)) ((a2)) ((x5_4)) (((x14_5 + 1)) : Int).toNat by assumption) rfl
              · have : CP (upd1 ((w25_83)) ((x25_3)) ((x14_5))) ((w53)) ((a2)) ((x5_4)) ((x14_5)) ((x25_3) + 1) := CP_upd j25_cp rfl
                have : 0 < (x25_6) + 1 → EXC (upd1 ((w25_83)) ((x25_3)) ((x14_5))) ((x14_5)) ((x25_3) + 1) := fun _ => EXC_new (by omega) rfl
                refine Ew_of (pc' := 50) (fun _ => x_aload_n rfl l25_0) ?_
                refine w_gT H (o := 6) (t := 83) rfl (H.perm 6 rfl) rfl rfl rfl rfl rfl rfl ?_
                refine Ew_of (pc' := 54) (fun _ => x_iload_n rfl l25_3) ?_
                refine Ew_of (pc' := 56) (fun _ => x_iload rfl l25_5) ?_
                refine w_sI H (o := 83) (n := 2048) rfl (H.perm 83 rfl) rfl rfl (H.fix 83 rfl rfl) (show 0 ≤ x25_3 ∧ x25_3 < ((2048 : Nat) : Int) by omega) (by decide) (show (0 : Int) ≤ x14_5 ∧ x14_5 ≤ 255 by omega) (fun σ H => ?_)
                refine Ew_of (pc' := 60) (fun _ => x_iinc (len := 3) rfl (l25_3)) ?_
                refine Ew_of (pc' := 63) (fun _ => x_iinc (len := 3) rfl (rk_o (l25_6) rfl rfl)) ?_
                refine Ew_of (pc' := 25) (fun _ => x_goto rfl rfl) ?_
                have : fl ((upd1 (w25_83) (x25_3) (x14_5))) (((x25_3 + 1))) = (CLa ((w53)) ((a2)) ((x5_4) - 1 : Int).toNat ++ CLw ((w53)) ((a2)) ((x5_4)) ((x14_5) : Int).toNat) ++ List.replicate (((x25_6 + 1)) : Int).toNat ((x14_5)) := CEL_k j25_c (by omega) (by omega) rfl rfl
                exact ih25 _ (by omega) _ σ _ _ ((x25_3 + 1)) ((x25_6 + 1)) (rk_o (rk_o (l25_0) rfl rfl) rfl rfl) (rk_o (rk_o (l25_1) rfl rfl) rfl rfl) (rk_o (rk_o (l25_2) rfl rfl) rfl rfl) (rk_o (rk_s) rfl rfl) (rk_o (rk_o (l25_4) rfl rfl) rfl rfl) (rk_o (rk_o (l25_5) rfl rfl) rfl rfl) (rk_s) H (hS_25) (SA_upd (hA_25) rfl)  (upd1 (w25_83) (x25_3) (x14_5)) (congrArg (fun q => upd1 q (x25_3) (x14_5)) (ew25_83)) (show inr ((x25_3 + 1)) by omega) (show inr ((x25_6 + 1)) by omega) (show 0 ≤ ((x25_6 + 1)) ∧ ((x25_6 + 1)) ≤ p2 ((x5_4) - 1) by omega) (show ((x25_3 + 1)) = (x14_3) + ((x25_6 + 1)) by omega) (show ((x25_6 + 1)) = 0 ∨ ((w53)) ((x14_5)) = (a2) + 1 - (x5_4) by omega) (show CP ((upd1 (w25_83) (x25_3) (x14_5))) ((w53)) ((a2)) ((x5_4)) ((x14_5)) (((x25_3 + 1))) by assumption) (show 0 < ((x25_6 + 1)) → EXC ((upd1 (w25_83) (x25_3) (x14_5))) ((x14_5)) (((x25_3 + 1))) by assumption) (show fl ((upd1 (w25_83) (x25_3) (x14_5))) (((x25_3 + 1))) = (CLa ((w53)) ((a2)) ((x5_4) - 1 : Int).toNat ++ CLw ((w53)) ((a2)) ((x5_4)) ((x14_5) : Int).toNat) ++ List.replicate (((x25_6 + 1)) : Int).toNat ((x14_5)) by assumption) rfl
/-- Writer.putStream -/
theorem M431 {σ0 σ : rS} {D N : Nat → Nat} {F : hF} {A : hA} {d c s : Nat} {Q : wQ} (H : HS σ0 σ D N F A) {a1 a2 : Int} (u6_12 : Int) (eu6_12 : F 6 12 = u6_12) (u6_35 : Int) (eu6_35 : F 6 35 = u6_35) (w53 : Int → Int) (ew53 : A 53 = w53) (w65 : Int → Int) (ew65 : A 65 = w65) (w69 : Int → Int) (ew69 : A 69 = w69) (w83 : Int → Int) (ew83 : A 83 = w83) (h0 : inr (a1)) (h1 : inr (a2)) (h2 : 0 ≤ (a1) ∧ (a1) ≤ (a2) ∧ (a2) ≤ 16385) (h3 : CX ((w83)) ((w53))) (h4 : ∀ k, (a1) ≤ k → k < (a2) → ((w53)) (((w65)) k) ≠ 0) (h5 : 0 ≤ (u6_35) ∧ (u6_35) ≤ 1000000) (h6 : fl ((w83)) (p2 ((u6_12))) = CELS ((w53)) ((u6_12))) (h7 : CI ((w53)) ((u6_12))) (k : ∀ σ F' A', HS σ0 σ D N F' A' → SF [(6, 35)] F F' → SA [69] A A' → ∀ y6_35 : Int, F' 6 35 = y6_35 → ∀ v69 : Int → Int, A' 69 = v69 → ((u6_35) ≤ (y6_35) ∧ (y6_35) ≤ (u6_35) + 11 * ((a2) - (a1)) + 8) → (IMP ((u6_35) + 11 * ((a2) - (a1)) + 8 ≤ 192000) (MDS ((w69)) ((u6_35)) ((v69)) ((y6_35)) (stm ((w53)) ((u6_12)) ((w65)) ((a1)) ((a2))))) → ((y6_35) % 8 = 0) → Q none σ c s) : Ew 431 (d + 1) 0 (rargs 0 [.ref (D 6), I a1, I a2]) [] σ c s Q := by
  have r1 : (0 : Int) ≤ u6_12 ∧ u6_12 ≤ 11 := by have h1 : (0 : Int) ≤ F 6 12 ∧ F 6 12 ≤ 11 := H.frng 6 12; rw [show F 6 12 = u6_12 from (eu6_12)] at h1; exact h1
  have r2 : (0 : Int) ≤ u6_35 ∧ u6_35 ≤ 100000000 := by have h1 : (0 : Int) ≤ F 6 35 ∧ F 6 35 ≤ 100000000 := H.frng 6 35; rw [show F 6 35 = u6_35 from (eu6_35)] at h1; exact h1
  have hcw : fl ((w83)) (p2 ((u6_12))) = CELS ((w53)) ((u6_12)) := by assumption
  have hci : CI ((w53)) ((u6_12)) := by assumption
  refine Ew_of (pc' := 1) (fun _ => x_iload_n rfl rfl) ?_
  refine Ew_of (pc' := 2) (fun _ => x_iconst rfl) ?_
  refine w_isub rfl ?_
  refine Ew_of (pc' := 4) (fun _ => x_istore_n rfl) ?_
  have : IMP ((u6_35) + 11 * ((a2) - (a1)) + 8 ≤ 192000) (MDA ((w69)) ((u6_35)) ((w69)) ((u6_35)) (smB ((w53)) ((u6_12)) ((w65)) ((a2)) ((a2) - 1 - ((a2 - 1)) : Int).toNat)) := fun _ => by rw [smB_0 (by omega)]; exact MDA_0
  suffices hl4 : ∀ (m : Nat), ∀ (ls : rO) (σ : rS) (F_4 : hF) (A_4 : hA) (x4_3 : Int), rlook ls 0 = some (.ref (D 6)) → rlook ls 1 = some (I (a1)) → rlook ls 3 = some (I (x4_3)) → HS σ0 σ D N F_4 A_4 → SF [(6, 35)] F F_4 → SA [69] A A_4 → ∀ y4_6_35 : Int, F_4 6 35 = y4_6_35 → ∀ w4_69 : Int → Int, A_4 69 = w4_69 → (inr (x4_3)) → ((x4_3) ≤ ((a2 - 1))) → (((a2 - 1)) ≤ (x4_3) ∨ (((a1) - 1)) ≤ (x4_3)) → ((a1) - 1 ≤ (x4_3)) → ((u6_35) ≤ (y4_6_35) ∧ (y4_6_35) ≤ (u6_35) + 11 * ((a2) - 1 - (x4_3))) → (IMP ((u6_35) + 11 * ((a2) - (a1)) + 8 ≤ 192000) (MDA ((w69)) ((u6_35)) ((w4_69)) ((y4_6_35)) (smB ((w53)) ((u6_12)) ((w65)) ((a2)) ((a2) - 1 - (x4_3) : Int).toNat))) → ((x4_3) - (((a1) - 1))).toNat = m → Ew 431 (d + 1) 4 ls [] σ c s Q from
    hl4 _ _ σ _ _ ((a2 - 1)) (rk_o (rfl) rfl rfl) (rk_o (rfl) rfl rfl) (rk_s) H (SF_refl) (SA_refl) (u6_35) ((eu6_35)) (w69) (ew69) (show inr ((a2 - 1)) by omega) (show ((a2 - 1)) ≤ ((a2 - 1)) by omega) (show ((a2 - 1)) ≤ ((a2 - 1)) ∨ (((a1) - 1)) ≤ ((a2 - 1)) by omega) (show (a1) - 1 ≤ ((a2 - 1)) by omega) (show (u6_35) ≤ (u6_35) ∧ (u6_35) ≤ (u6_35) + 11 * ((a2) - 1 - ((a2 - 1))) by omega) (show IMP ((u6_35) + 11 * ((a2) - (a1)) + 8 ≤ 192000) (MDA ((w69)) ((u6_35)) ((w69)) ((u6_35)) (smB ((w53)) ((u6_12)) ((w65)) ((a2)) ((a2) - 1 - ((a2 - 1)) : Int).toNat)) by assumption) rfl
  as_aux_lemma =>
  intro m
  induction m using Nat.strongRecOn with
  | _ m ih4 =>
    intro ls σ F_4 A_4 x4_3 l4_0 l4_1 l4_3 H hS_4 hA_4 y4_6_35 ey4_6_35 w4_69 ew4_69 j4_0 j4_1 j4_2 j4_3 j4_4 j4_5 hm4
    have r3 : (0 : Int) ≤ y4_6_35 ∧ y4_6_35 ≤ 100000000 := by have h1 : (0 : Int) ≤ F_4 6 35 ∧ F_4 6 35 ≤ 100000000 := H.frng 6 35; rw [show F_4 6 35 = y4_6_35 from (ey4_6_35)] at h1; exact h1
    have j4_m : IMP ((u6_35) + 11 * ((a2) - (a1)) + 8 ≤ 192000) (MDA ((w69)) ((u6_35)) ((w4_69)) ((y4_6_35)) (smB ((w53)) ((u6_12)) ((w65)) ((a2)) ((a2) - 1 - (x4_3) : Int).toNat)) := by assumption
    refine Ew_of (pc' := 5) (fun _ => x_iload_n rfl l4_3) ?_
    refine Ew_of (pc' := 6) (fun _ => x_iload_n rfl l4_1) ?_
    refine w_icmplt (t := 70) rfl rfl (show inr (x4_3) by omega) (show inr (a1) by omega) (fun b4 => ?_) (fun b4 => ?_)
    · refine Ew_of (pc' := 71) (fun _ => x_aload_n rfl l4_0) ?_
      refine Ew_of (pc' := 72) (fun _ => x_iconst rfl) ?_
      refine Ew_of (pc' := 73) (fun _ => x_iconst rfl) ?_
      refine w_inv H (o := 6) rfl rfl rfl (H.perm 6 rfl) rfl rfl (by rfl) (M389 H (y4_6_35) ((ey4_6_35)) (w4_69) (ew4_69) (show inr (1) by omega) (show inr (1) by omega) (show 0 ≤ (1) ∧ (1) ≤ 31 by omega) (show 0 ≤ (y4_6_35) ∧ (y4_6_35) ≤ 90000000 by omega) (fun σ F5 A6 H hS7 hA8 y10 ey11 wq12 ewq13 pz9_0 pz9_1 => ⟨rfl, ?_⟩))
      have r14 : (0 : Int) ≤ y10 ∧ y10 ≤ 100000000 := by have h1 : (0 : Int) ≤ F5 6 35 ∧ F5 6 35 ≤ 100000000 := H.frng 6 35; rw [show F5 6 35 = y10 from (ey11)] at h1; exact h1
      have hp76 : IMP ((u6_35) + 11 * ((a2) - (a1)) + 8 ≤ 192000) (MDA ((w69)) ((u6_35)) ((wq12)) ((y10)) (stm ((w53)) ((u6_12)) ((w65)) ((a1)) ((a2)))) := fun q => by unfold stm; rw [show ((a2) - (a1) : Int).toNat = ((a2) - 1 - (x4_3) : Int).toNat by omega]; exact MDA_t (j4_m q) (pz9_1 (by omega))
      refine Ew_of (pc' := 77) (fun _ => x_aload_n rfl l4_0) ?_
      refine w_inv H (o := 6) rfl rfl rfl (H.perm 6 rfl) rfl rfl (by rfl) (M390 H (y10) ((ey11)) (wq12) (ewq13) (show 0 ≤ (y10) ∧ (y10) ≤ 99000000 by omega) (fun σ F15 A16 H hS17 hA18 y20 ey21 pz19_0 pz19_1 pz19_2 => ⟨rfl, ?_⟩))
      have r22 : (0 : Int) ≤ y20 ∧ y20 ≤ 100000000 := by have h1 : (0 : Int) ≤ F15 6 35 ∧ F15 6 35 ≤ 100000000 := H.frng 6 35; rw [show F15 6 35 = y20 from (ey21)] at h1; exact h1
      have : IMP ((u6_35) + 11 * ((a2) - (a1)) + 8 ≤ 192000) (MDS ((w69)) ((u6_35)) ((wq12)) ((y20)) (stm ((w53)) ((u6_12)) ((w65)) ((a1)) ((a2)))) := fun q => MDS_of (hp76 q) pz19_1
      exact w_ret rfl (k σ _ _ H (SF_trans (SF_trans (SF_trans (SF_refl) hS_4 (any_sub rfl)) hS7 (any_sub rfl)) hS17 (any_sub rfl)) (SA_trans (SA_trans (SA_trans (SA_refl) hA_4 (any_subA rfl)) hA8 (any_subA rfl)) hA18 (any_subA rfl)) (y20) ((ey21)) (wq12) ((funext (hA18 69 rfl)).trans (ewq13)) (show (u6_35) ≤ (y20) ∧ (y20) ≤ (u6_35) + 11 * (a2 - a1) + 8 by omega) (show IMP ((u6_35) + 11 * (a2 - a1) + 8 ≤ 192000) (MDS ((w69)) ((u6_35)) ((wq12)) ((y20)) (stm ((w53)) ((u6_12)) ((w65)) (a1) (a2))) by assumption) (show (y20) % 8 = 0 by omega))
    · obtain ⟨ql3, hql3⟩ : ∃ q : Int, q = (x4_3) := ⟨_, rfl⟩
      refine Ew_of (pc' := 10) (fun _ => x_aload_n rfl l4_0) ?_
      refine w_gT H (o := 6) (t := 65) rfl (H.perm 6 rfl) rfl rfl rfl rfl rfl rfl ?_
      refine Ew_of (pc' := 14) (fun _ => x_iload_n rfl l4_3) ?_
      refine w_lI H (o := 65) (n := 16385) rfl (H.perm 65 rfl) rfl rfl (H.fix 65 rfl rfl) (show 0 ≤ x4_3 ∧ x4_3 < ((16385 : Nat) : Int) by omega) (by decide) (fun v23 ev23 qv23 => ?_)
      have qv23 : (0 : Int) ≤ v23 ∧ v23 ≤ 255 := qv23
      have ev23 : (w65) (x4_3) = v23 := (congrFun ((funext (hA_4 65 rfl)).trans (ew65)) (x4_3)).symm.trans ev23
      have hl15 : ((w65)) ((a2) - 1 - ((a2) - 1 - ql3)) = (v23) := by rw [show (a2) - 1 - ((a2) - 1 - ql3) = (x4_3) by omega]; exact ev23
      refine Ew_of (pc' := 17) (fun _ => x_istore rfl) ?_
      refine Ew_of (pc' := 18) (fun _ => x_iconst rfl) ?_
      refine Ew_of (pc' := 20) (fun _ => x_istore rfl) ?_
      have : ∀ i, 0 ≤ i → i < (0) → ((w83)) i ≠ (v23) := fun i a b => absurd b (by omega)
      have hco := (show ∀ k, (a1) ≤ k → k < (a2) → ((w53)) (((w65)) k) ≠ 0 from by assumption) ((x4_3)) (by omega) (by omega)
      rw [ev23] at hco
      obtain ⟨m0, hm0⟩ := FC_ex (show CX ((w83)) ((w53)) from by assumption) (s := (v23)) (by omega) (by omega) hco
      suffices hl20 : ∀ (m : Nat), ∀ (ls : rO) (σ : rS) (F_20 : hF) (A_20 : hA) (x20_5 : Int), rlook ls 0 = some (.ref (D 6)) → rlook ls 1 = some (I (a1)) → rlook ls 3 = some (I (x4_3)) → rlook ls 4 = some (I (v23)) → rlook ls 5 = some (I (x20_5)) → HS σ0 σ D N F_20 A_20 → SF [] F_4 F_20 → SA [] A_4 A_20 → (inr (x20_5)) → (0 ≤ (x20_5)) → (∀ i, 0 ≤ i → i < (x20_5) → ((w83)) i ≠ (v23)) → (FC ((w83)) ((v23)) ((x20_5)) m) → Ew 431 (d + 1) 20 ls [] σ c s Q from
        hl20 (m0) _ σ _ _ (0) (rk_o (rk_o (l4_0) rfl rfl) rfl rfl) (rk_o (rk_o (l4_1) rfl rfl) rfl rfl) (rk_o (rk_o (l4_3) rfl rfl) rfl rfl) (rk_o (rk_s) rfl rfl) (rk_s) H (SF_refl) (SA_refl)   (show inr (0) by omega) (show 0 ≤ (0) by omega) (show ∀ i, 0 ≤ i → i < (0) → ((w83)) i ≠ (v23) by assumption) (by assumption)
      as_aux_lemma =>
      intro m
      induction m using Nat.strongRecOn with
      | _ m ih20 =>
        intro ls σ F_20 A_20 x20_5 l20_0 l20_1 l20_3 l20_4 l20_5 H hS_20 hA_20   j20_0 j20_1 j20_2 hm20
        have hfl := FC_lt (show FC ((w83)) ((v23)) ((x20_5)) m from by assumption)
        have j20_n : ∀ i, 0 ≤ i → i < (x20_5) → ((w83)) i ≠ (v23) := by assumption
        refine Ew_of (pc' := 21) (fun _ => x_aload_n rfl l20_0) ?_
        refine w_gT H (o := 6) (t := 83) rfl (H.perm 6 rfl) rfl rfl rfl rfl rfl rfl ?_
        refine Ew_of (pc' := 26) (fun _ => x_iload rfl l20_5) ?_
        refine w_lI H (o := 83) (n := 2048) rfl (H.perm 83 rfl) rfl rfl (H.fix 83 rfl rfl) (show 0 ≤ x20_5 ∧ x20_5 < ((2048 : Nat) : Int) by omega) (by decide) (fun v24 ev24 qv24 => ?_)
        have qv24 : (0 : Int) ≤ v24 ∧ v24 ≤ 255 := qv24
        have ev24 : (w83) (x20_5) = v24 := (congrFun ((funext (hA_20 83 rfl)).trans ((funext (hA_4 83 rfl)).trans (ew83))) (x20_5)).symm.trans ev24
        have he27 := ev24
        obtain ⟨ql5, hql5⟩ : ∃ q : Int, q = (x20_5) := ⟨_, rfl⟩
        have he27q : ((w83)) ql5 = (v24) := by rw [hql5]; exact he27
        refine Ew_of (pc' := 29) (fun _ => x_iload rfl l20_4) ?_
        refine w_icmpeq (t := 38) rfl rfl (show inr (v24) by omega) (show inr (v23) by omega) (fun b25 => ?_) (fun b25 => ?_)
        · have hcf : (x20_5) = cdF ((w53)) ((u6_12)) ((v23)) := CEF_is hcw hci (by omega) (by omega) hco (by omega) (by rw [he27]; omega) j20_n
          have hgl := hci.2.2.1 ((v23)) (by omega) (by omega)
          have hgT := hci.2.1
          refine Ew_of (pc' := 39) (fun _ => x_aload_n rfl l20_0) ?_
          refine Ew_of (pc' := 41) (fun _ => x_iload rfl l20_5) ?_
          refine Ew_of (pc' := 42) (fun _ => x_aload_n rfl l20_0) ?_
          refine w_gI H (o := 6) (w := u6_12) rfl (H.perm 6 rfl) rfl rfl rfl (fun _ => rfl) (((hS_20 6 12 rfl).trans (hS_4 6 12 rfl)).trans (eu6_12)) ?_
          refine Ew_of (pc' := 46) (fun _ => x_aload_n rfl l20_0) ?_
          refine w_gT H (o := 6) (t := 53) rfl (H.perm 6 rfl) rfl rfl rfl rfl rfl rfl ?_
          refine Ew_of (pc' := 51) (fun _ => x_iload rfl l20_4) ?_
          refine w_lI H (o := 53) (n := 256) rfl (H.perm 53 rfl) rfl rfl (H.fix 53 rfl rfl) (show 0 ≤ v23 ∧ v23 < ((256 : Nat) : Int) by omega) (by decide) (fun v26 ev26 qv26 => ?_)
          have qv26 : (0 : Int) ≤ v26 ∧ v26 ≤ 11 := qv26
          have ev26 : (w53) (v23) = v26 := (congrFun ((funext (hA_20 53 rfl)).trans ((funext (hA_4 53 rfl)).trans (ew53))) (v23)).symm.trans ev26
          have he52 := ev26
          refine w_isub rfl ?_
          refine w_ishrG rfl ?_
          have g27 : inr (srI (x20_5) ((u6_12 - v26))) := toI_inr _
          obtain ⟨qc, hqc⟩ : ∃ q : Int, q = ((srI (x20_5) ((u6_12 - v26)))) := ⟨_, rfl⟩
          rw [← hqc]
          have gqc : inr qc := by rw [hqc]; first | assumption | omega
          replace hqc : IMP True (qc = ((srI (x20_5) ((u6_12 - v26))))) := fun _ => hqc
          try clear g27
          refine Ew_of (pc' := 55) (fun _ => x_aload_n rfl l20_0) ?_
          refine w_gT H (o := 6) (t := 53) rfl (H.perm 6 rfl) rfl rfl rfl rfl rfl rfl ?_
          refine Ew_of (pc' := 60) (fun _ => x_iload rfl l20_4) ?_
          refine w_lI H (o := 53) (n := 256) rfl (H.perm 53 rfl) rfl rfl (H.fix 53 rfl rfl) (show 0 ≤ v23 ∧ v23 < ((256 : Nat) : Int) by omega) (by decide) (fun v28 ev28 qv28 => ?_)
          have qv28 : (0 : Int) ≤ v28 ∧ v28 ≤ 11 := qv28
          have ev28 : (w53) (v23) = v28 := (congrFun ((funext (hA_20 53 rfl)).trans ((funext (hA_4 53 rfl)).trans (ew53))) (v23)).symm.trans ev28
          have he61 := ev28
          have hqc1 : qc = cdF ((w53)) ((u6_12)) ((v23)) / p2 ((u6_12) - ((w53)) ((v23))) := (hqc trivial).trans (by rw [srI_g (by omega) (by omega), ← he52, hcf])
          refine w_inv H (o := 6) rfl rfl rfl (H.perm 6 rfl) rfl rfl (by rfl) (M389 H (y4_6_35) (((hS_20 6 35 rfl).trans (ey4_6_35))) (w4_69) ((funext (hA_20 69 rfl)).trans (ew4_69)) (show inr (qc) by omega) (show inr (v28) by omega) (show 0 ≤ (v28) ∧ (v28) ≤ 31 by omega) (show 0 ≤ (y4_6_35) ∧ (y4_6_35) ≤ 90000000 by omega) (fun σ F29 A30 H hS31 hA32 y34 ey35 wq36 ewq37 pz33_0 pz33_1 => ⟨rfl, ?_⟩))
          have r38 : (0 : Int) ≤ y34 ∧ y34 ≤ 100000000 := by have h1 : (0 : Int) ≤ F29 6 35 ∧ F29 6 35 ≤ 100000000 := H.frng 6 35; rw [show F29 6 35 = y34 from (ey35)] at h1; exact h1
          have hp64 : IMP ((u6_35) + 11 * ((a2) - (a1)) + 8 ≤ 192000) (MDA ((w69)) ((u6_35)) ((wq36)) ((y34)) (smB ((w53)) ((u6_12)) ((w65)) ((a2)) ((a2) - 1 - ((x4_3) - 1) : Int).toNat)) := fun q => by rw [smB_s (n := (a2) - 1 - ql3) (by omega) (by omega) hl15 hqc1 he61, hql3]; exact MDA_t (j4_m q) (pz33_1 (by omega))
          refine Ew_of (pc' := 67) (fun _ => x_iinc (len := 3) rfl (l20_3)) ?_
          refine Ew_of (pc' := 4) (fun _ => x_goto rfl rfl) ?_
          have : IMP ((u6_35) + 11 * ((a2) - (a1)) + 8 ≤ 192000) (MDA ((w69)) ((u6_35)) ((wq36)) ((y34)) (smB ((w53)) ((u6_12)) ((w65)) ((a2)) ((a2) - 1 - ((x4_3 + (-1))) : Int).toNat)) := hp64
          exact ih4 _ (by omega) _ σ _ _ ((x4_3 + (-1))) (rk_o (l20_0) rfl rfl) (rk_o (l20_1) rfl rfl) (rk_s) H (SF_trans (SF_trans (hS_4) hS_20 (any_sub rfl)) hS31 (any_sub rfl)) (SA_trans (SA_trans (hA_4) hA_20 (any_subA rfl)) hA32 (any_subA rfl)) (y34) ((ey35)) (wq36) (ewq37) (show inr ((x4_3 + (-1))) by omega) (show ((x4_3 + (-1))) ≤ ((a2 - 1)) by omega) (show ((a2 - 1)) ≤ ((x4_3 + (-1))) ∨ (((a1) - 1)) ≤ ((x4_3 + (-1))) by omega) (show (a1) - 1 ≤ ((x4_3 + (-1))) by omega) (show (u6_35) ≤ (y34) ∧ (y34) ≤ (u6_35) + 11 * ((a2) - 1 - ((x4_3 + (-1)))) by omega) (show IMP ((u6_35) + 11 * ((a2) - (a1)) + 8 ≤ 192000) (MDA ((w69)) ((u6_35)) ((wq36)) ((y34)) (smB ((w53)) ((u6_12)) ((w65)) ((a2)) ((a2) - 1 - ((x4_3 + (-1))) : Int).toNat)) by assumption) rfl
        · refine Ew_of (pc' := 35) (fun _ => x_iinc (len := 3) rfl (l20_5)) ?_
          refine Ew_of (pc' := 20) (fun _ => x_goto rfl rfl) ?_
          have hfm := FC_next (show FC ((w83)) ((v23)) _ m from by assumption) (by omega) (show ((x20_5 + 1)) = _ + 1 from rfl)
          have := hfm.1
          have := hfm.2
          have : ∀ i, 0 ≤ i → i < ((x20_5 + 1)) → ((w83)) i ≠ (v23) := fun i a b => by by_cases q : i = ql5; (rw [q, he27q]; omega); exact j20_n i a (by omega)
          exact ih20 (m - 1) (by omega) _ σ _ _ ((x20_5 + 1)) (rk_o (l20_0) rfl rfl) (rk_o (l20_1) rfl rfl) (rk_o (l20_3) rfl rfl) (rk_o (l20_4) rfl rfl) (rk_s) H (hS_20) (hA_20)   (show inr ((x20_5 + 1)) by omega) (show 0 ≤ ((x20_5 + 1)) by omega) (show ∀ i, 0 ≤ i → i < ((x20_5 + 1)) → ((w83)) i ≠ (v23) by assumption) (by assumption)
/-- Writer.putFour -/
theorem M436 {σ0 σ : rS} {D N : Nat → Nat} {F : hF} {A : hA} {d c s : Nat} {Q : wQ} (H : HS σ0 σ D N F A)  (u6_12 : Int) (eu6_12 : F 6 12 = u6_12) (u6_30 : Int) (eu6_30 : F 6 30 = u6_30) (u6_35 : Int) (eu6_35 : F 6 35 = u6_35) (w53 : Int → Int) (ew53 : A 53 = w53) (w65 : Int → Int) (ew65 : A 65 = w65) (w69 : Int → Int) (ew69 : A 69 = w69) (w83 : Int → Int) (ew83 : A 83 = w83) (h0 : 1024 ≤ (u6_30)) (h1 : CX ((w83)) ((w53))) (h2 : ∀ k, 0 ≤ k → k < (u6_30) → ((w53)) (((w65)) k) ≠ 0) (h3 : 0 ≤ (u6_35) ∧ (u6_35) ≤ 1000) (h4 : fl ((w83)) (p2 ((u6_12))) = CELS ((w53)) ((u6_12))) (h5 : CI ((w53)) ((u6_12))) (k : ∀ σ F' A', HS σ0 σ D N F' A' → SF [(6, 35)] F F' → SA [69] A A' → ∀ y6_35 : Int, F' 6 35 = y6_35 → ∀ v69 : Int → Int, A' 69 = v69 → (MBA ((w69)) ((u6_35)) ((v69)) ((y6_35)) (F4 ((w53)) ((u6_12)) ((w65)) ((u6_30)))) → ((u6_35) ≤ (y6_35) ∧ (y6_35) ≤ (u6_35) + 11 * (u6_30) + 100) → Q none σ c s) : Ew 436 (d + 2) 0 (rargs 0 [.ref (D 6)]) [] σ c s Q := by
  have r1 : (0 : Int) ≤ u6_12 ∧ u6_12 ≤ 11 := by have h1 : (0 : Int) ≤ F 6 12 ∧ F 6 12 ≤ 11 := H.frng 6 12; rw [show F 6 12 = u6_12 from (eu6_12)] at h1; exact h1
  have r2 : (0 : Int) ≤ u6_30 ∧ u6_30 ≤ 16385 := by have h1 : (0 : Int) ≤ F 6 30 ∧ F 6 30 ≤ 16385 := H.frng 6 30; rw [show F 6 30 = u6_30 from (eu6_30)] at h1; exact h1
  have r3 : (0 : Int) ≤ u6_35 ∧ u6_35 ≤ 100000000 := by have h1 : (0 : Int) ≤ F 6 35 ∧ F 6 35 ≤ 100000000 := H.frng 6 35; rw [show F 6 35 = u6_35 from (eu6_35)] at h1; exact h1
  refine Ew_of (pc' := 1) (fun _ => x_aload_n rfl rfl) ?_
  refine w_gI H (o := 6) (w := u6_30) rfl (H.perm 6 rfl) rfl rfl rfl (fun _ => rfl) (eu6_30) ?_
  refine Ew_of (pc' := 5) (fun _ => x_iconst rfl) ?_
  refine w_iadd rfl ?_
  refine Ew_of (pc' := 7) (fun _ => x_iconst rfl) ?_
  refine w_idiv rfl (show inr ((u6_30 + 3)) ∧ 0 ≤ (u6_30 + 3) by omega) (show inr (4) ∧ 0 < 4 by omega) ?_
  refine Ew_of (pc' := 9) (fun _ => x_istore_n rfl) ?_
  have hB : ∀ i, (0 : Int) ≤ (w53) i ∧ (w53) i ≤ 11 := fun i => by have h1 : (0 : Int) ≤ A 53 i ∧ A 53 i ≤ 11 := H.arng 53 i; rw [show A 53 = w53 from ew53] at h1; exact h1
  have hbd : BD ((w53)) := fun i _ _ => hB i
  have hcod : ∀ k, 0 ≤ k → k < (u6_30) → ((w53)) (((w65)) k) ≠ 0 := by assumption
  refine Ew_of (pc' := 10) (fun _ => x_iconst rfl) ?_
  refine Ew_of (pc' := 11) (fun _ => x_istore_n rfl) ?_
  have : MBA ((w69)) ((u6_35)) ((w69)) ((u6_35)) (N4 ((w53)) ((w65)) (((u6_30) + 3) / 4) (0 : Int).toNat) := by rw [N4_0 (by omega)]; exact MBA_0
  suffices hl11 : ∀ (m : Nat), ∀ (ls : rO) (σ : rS) (F_11 : hF) (A_11 : hA) (x11_2 : Int), rlook ls 0 = some (.ref (D 6)) → rlook ls 1 = some (I (((u6_30 + 3) / 4))) → rlook ls 2 = some (I (x11_2)) → HS σ0 σ D N F_11 A_11 → SF [(6, 35)] F F_11 → SA [69] A A_11 → ∀ y11_6_35 : Int, F_11 6 35 = y11_6_35 → ∀ w11_69 : Int → Int, A_11 69 = w11_69 → (inr (x11_2)) → ((0) ≤ (x11_2)) → ((x11_2) ≤ (0) ∨ (x11_2) ≤ (3)) → ((y11_6_35) = (u6_35) + 16 * (x11_2)) → (MBA ((w69)) ((u6_35)) ((w11_69)) ((y11_6_35)) (N4 ((w53)) ((w65)) (((u6_30) + 3) / 4) ((x11_2) : Int).toNat)) → ((3) - (x11_2)).toNat = m → Ew 436 (d + 2) 11 ls [] σ c s Q from
    hl11 _ _ σ _ _ (0) (rk_o (rk_o (rfl) rfl rfl) rfl rfl) (rk_o (rk_s) rfl rfl) (rk_s) H (SF_refl) (SA_refl) (u6_35) ((eu6_35)) (w69) (ew69) (show inr (0) by omega) (show (0) ≤ (0) by omega) (show (0) ≤ (0) ∨ (0) ≤ (3) by omega) (show (u6_35) = (u6_35) + 16 * (0) by omega) (show MBA ((w69)) ((u6_35)) ((w69)) ((u6_35)) (N4 ((w53)) ((w65)) (((u6_30) + 3) / 4) ((0) : Int).toNat) by assumption) rfl
  as_aux_lemma =>
  intro m
  induction m using Nat.strongRecOn with
  | _ m ih11 =>
    intro ls σ F_11 A_11 x11_2 l11_0 l11_1 l11_2 H hS_11 hA_11 y11_6_35 ey11_6_35 w11_69 ew11_69 j11_0 j11_1 j11_2 j11_3 j11_4 hm11
    have r4 : (0 : Int) ≤ y11_6_35 ∧ y11_6_35 ≤ 100000000 := by have h1 : (0 : Int) ≤ F_11 6 35 ∧ F_11 6 35 ≤ 100000000 := H.frng 6 35; rw [show F_11 6 35 = y11_6_35 from (ey11_6_35)] at h1; exact h1
    have j11_m : MBA ((w69)) ((u6_35)) ((w11_69)) ((y11_6_35)) (N4 ((w53)) ((w65)) (((u6_30) + 3) / 4) ((x11_2) : Int).toNat) := by assumption
    refine Ew_of (pc' := 12) (fun _ => x_iload_n rfl l11_2) ?_
    refine Ew_of (pc' := 13) (fun _ => x_iconst rfl) ?_
    refine w_icmpge (t := 44) rfl rfl (show inr (x11_2) by omega) (show inr (3) by omega) (fun b5 => ?_) (fun b5 => ?_)
    · have hn44 : MBA ((w69)) ((u6_35)) ((w11_69)) ((y11_6_35)) (N4 ((w53)) ((w65)) (((u6_30) + 3) / 4) (3 : Int).toNat) := by have h := j11_m; rw [show (x11_2) = (3 : Int) by omega] at h; exact h
      refine Ew_of (pc' := 45) (fun _ => x_iconst rfl) ?_
      refine Ew_of (pc' := 46) (fun _ => x_istore_n rfl) ?_
      have : MBA ((w69)) ((u6_35)) ((w11_69)) ((y11_6_35)) (N4 ((w53)) ((w65)) (((u6_30) + 3) / 4) (3 : Int).toNat ++ S4 ((w53)) ((u6_12)) ((w65)) (((u6_30) + 3) / 4) (0 : Int).toNat) := by rw [S4_0 (by omega), List.append_nil]; exact hn44
      have : (0 : Int) * (((u6_30 + 3) / 4)) = 0 := Int.zero_mul _
      suffices hl46 : ∀ (m : Nat), ∀ (ls : rO) (σ : rS) (F_46 : hF) (A_46 : hA) (x46_2 : Int), rlook ls 0 = some (.ref (D 6)) → rlook ls 1 = some (I (((u6_30 + 3) / 4))) → rlook ls 2 = some (I (x46_2)) → HS σ0 σ D N F_46 A_46 → SF [(6, 35)] F_11 F_46 → SA [69] A_11 A_46 → ∀ y46_6_35 : Int, F_46 6 35 = y46_6_35 → ∀ w46_69 : Int → Int, A_46 69 = w46_69 → (inr (x46_2)) → ((0) ≤ (x46_2)) → ((x46_2) ≤ (0) ∨ (x46_2) ≤ (3)) → ((y11_6_35) ≤ (y46_6_35) ∧ (y46_6_35) ≤ (y11_6_35) + 11 * ((x46_2) * (((u6_30 + 3) / 4))) + 8 * (x46_2)) → (MBA ((w69)) ((u6_35)) ((w46_69)) ((y46_6_35)) (N4 ((w53)) ((w65)) (((u6_30) + 3) / 4) (3 : Int).toNat ++ S4 ((w53)) ((u6_12)) ((w65)) (((u6_30) + 3) / 4) ((x46_2) : Int).toNat)) → ((3) - (x46_2)).toNat = m → Ew 436 (d + 2) 46 ls [] σ c s Q from
        hl46 _ _ σ _ _ (0) (rk_o (l11_0) rfl rfl) (rk_o (l11_1) rfl rfl) (rk_s) H (SF_refl) (SA_refl) (y11_6_35) ((ey11_6_35)) (w11_69) (ew11_69) (show inr (0) by omega) (show (0) ≤ (0) by omega) (show (0) ≤ (0) ∨ (0) ≤ (3) by omega) (show (y11_6_35) ≤ (y11_6_35) ∧ (y11_6_35) ≤ (y11_6_35) + 11 * ((0) * (((u6_30 + 3) / 4))) + 8 * (0) by omega) (show MBA ((w69)) ((u6_35)) ((w11_69)) ((y11_6_35)) (N4 ((w53)) ((w65)) (((u6_30) + 3) / 4) (3 : Int).toNat ++ S4 ((w53)) ((u6_12)) ((w65)) (((u6_30) + 3) / 4) ((0) : Int).toNat) by assumption) rfl
      as_aux_lemma =>
      intro m
      induction m using Nat.strongRecOn with
      | _ m ih46 =>
        intro ls σ F_46 A_46 x46_2 l46_0 l46_1 l46_2 H hS_46 hA_46 y46_6_35 ey46_6_35 w46_69 ew46_69 j46_0 j46_1 j46_2 j46_3 j46_4 hm46
        have r6 : (0 : Int) ≤ y46_6_35 ∧ y46_6_35 ≤ 100000000 := by have h1 : (0 : Int) ≤ F_46 6 35 ∧ F_46 6 35 ≤ 100000000 := H.frng 6 35; rw [show F_46 6 35 = y46_6_35 from (ey46_6_35)] at h1; exact h1
        have j46_m : MBA ((w69)) ((u6_35)) ((w46_69)) ((y46_6_35)) (N4 ((w53)) ((w65)) (((u6_30) + 3) / 4) (3 : Int).toNat ++ S4 ((w53)) ((u6_12)) ((w65)) (((u6_30) + 3) / 4) ((x46_2) : Int).toNat) := by assumption
        refine Ew_of (pc' := 47) (fun _ => x_iload_n rfl l46_2) ?_
        refine Ew_of (pc' := 48) (fun _ => x_iconst rfl) ?_
        refine w_icmpge (t := 69) rfl rfl (show inr (x46_2) by omega) (show inr (3) by omega) (fun b7 => ?_) (fun b7 => ?_)
        · have hm5 : (x46_2) * (((u6_30 + 3) / 4)) = 3 * (((u6_30 + 3) / 4)) := by rw [show (x46_2) = 3 by omega]
          have : ∀ k, 3 * (((u6_30 + 3) / 4)) ≤ k → k < (u6_30) → ((w53)) (((w65)) k) ≠ 0 := fun k a b => hcod k (by omega) b
          refine Ew_of (pc' := 70) (fun _ => x_aload_n rfl l46_0) ?_
          refine Ew_of (pc' := 71) (fun _ => x_iconst rfl) ?_
          refine Ew_of (pc' := 72) (fun _ => x_iload_n rfl l46_1) ?_
          refine w_imul rfl ?_
          refine Ew_of (pc' := 74) (fun _ => x_aload_n rfl l46_0) ?_
          refine w_gI H (o := 6) (w := u6_30) rfl (H.perm 6 rfl) rfl rfl rfl (fun _ => rfl) (((hS_46 6 30 rfl).trans (hS_11 6 30 rfl)).trans (eu6_30)) ?_
          refine w_inv H (o := 6) rfl rfl rfl (H.perm 6 rfl) rfl rfl (by rfl) (M431 H (u6_12) ((((hS_46 6 12 rfl).trans (hS_11 6 12 rfl)).trans (eu6_12))) (y46_6_35) ((ey46_6_35)) (w53) ((funext (hA_46 53 rfl)).trans ((funext (hA_11 53 rfl)).trans (ew53))) (w65) ((funext (hA_46 65 rfl)).trans ((funext (hA_11 65 rfl)).trans (ew65))) (w46_69) (ew46_69) (w83) ((funext (hA_46 83 rfl)).trans ((funext (hA_11 83 rfl)).trans (ew83))) (show inr ((3 * ((u6_30 + 3) / 4))) by omega) (show inr (u6_30) by omega) (show 0 ≤ ((3 * ((u6_30 + 3) / 4))) ∧ ((3 * ((u6_30 + 3) / 4))) ≤ (u6_30) ∧ (u6_30) ≤ 16385 by omega) (show CX ((w83)) ((w53)) by assumption) (show ∀ k, ((3 * ((u6_30 + 3) / 4))) ≤ k → k < (u6_30) → ((w53)) (((w65)) k) ≠ 0 by assumption) (show 0 ≤ (y46_6_35) ∧ (y46_6_35) ≤ 1000000 by omega) (show fl ((w83)) (p2 ((u6_12))) = CELS ((w53)) ((u6_12)) by assumption) (show CI ((w53)) ((u6_12)) by assumption) (fun σ F8 A9 H hS10 hA11 y13 ey14 wq15 ewq16 pz12_0 pz12_1 pz12_2 => ⟨rfl, ?_⟩))
          have r17 : (0 : Int) ≤ y13 ∧ y13 ≤ 100000000 := by have h1 : (0 : Int) ≤ F8 6 35 ∧ F8 6 35 ≤ 100000000 := H.frng 6 35; rw [show F8 6 35 = y13 from (ey14)] at h1; exact h1
          have : MBA ((w69)) ((u6_35)) ((wq15)) ((y13)) (F4 ((w53)) ((u6_12)) ((w65)) ((u6_30))) := by have h := MBA_t j46_m (MBA_s (pz12_1 (by omega))); rw [show (x46_2) = 3 by omega, List.append_assoc] at h; exact h
          exact w_ret rfl (k σ _ _ H (SF_trans (SF_trans (SF_trans (SF_refl) hS_11 (any_sub rfl)) hS_46 (any_sub rfl)) hS10 (any_sub rfl)) (SA_trans (SA_trans (SA_trans (SA_refl) hA_11 (any_subA rfl)) hA_46 (any_subA rfl)) hA11 (any_subA rfl)) (y13) ((ey14)) (wq15) (ewq16) (show MBA ((w69)) ((u6_35)) ((wq15)) ((y13)) (F4 ((w53)) ((u6_12)) ((w65)) ((u6_30))) by assumption) (show (u6_35) ≤ (y13) ∧ (y13) ≤ (u6_35) + 11 * (u6_30) + 100 by omega))
        · have hm3 := mul_le3 (k := (x46_2)) (c := (((u6_30 + 3) / 4))) (by omega) (by omega) (by omega)
          have hm4 : ((x46_2) + 1) * (((u6_30 + 3) / 4)) ≤ 3 * (((u6_30 + 3) / 4)) := Int.mul_le_mul_of_nonneg_right (by omega) (by omega)
          have : ∀ k, (x46_2) * (((u6_30 + 3) / 4)) ≤ k → k < (x46_2) * (((u6_30 + 3) / 4)) + (((u6_30 + 3) / 4)) → ((w53)) (((w65)) k) ≠ 0 := fun k a b => hcod k (by omega) (by omega)
          refine Ew_of (pc' := 52) (fun _ => x_aload_n rfl l46_0) ?_
          refine Ew_of (pc' := 53) (fun _ => x_iload_n rfl l46_2) ?_
          refine Ew_of (pc' := 54) (fun _ => x_iload_n rfl l46_1) ?_
          refine w_imul rfl ?_
          refine Ew_of (pc' := 56) (fun _ => x_iload_n rfl l46_2) ?_
          refine Ew_of (pc' := 57) (fun _ => x_iload_n rfl l46_1) ?_
          refine w_imul rfl ?_
          refine Ew_of (pc' := 59) (fun _ => x_iload_n rfl l46_1) ?_
          refine w_iadd rfl ?_
          refine w_inv H (o := 6) rfl rfl rfl (H.perm 6 rfl) rfl rfl (by rfl) (M431 H (u6_12) ((((hS_46 6 12 rfl).trans (hS_11 6 12 rfl)).trans (eu6_12))) (y46_6_35) ((ey46_6_35)) (w53) ((funext (hA_46 53 rfl)).trans ((funext (hA_11 53 rfl)).trans (ew53))) (w65) ((funext (hA_46 65 rfl)).trans ((funext (hA_11 65 rfl)).trans (ew65))) (w46_69) (ew46_69) (w83) ((funext (hA_46 83 rfl)).trans ((funext (hA_11 83 rfl)).trans (ew83))) (show inr ((x46_2 * ((u6_30 + 3) / 4))) by omega) (show inr (((x46_2 * ((u6_30 + 3) / 4)) + ((u6_30 + 3) / 4))) by omega) (show 0 ≤ ((x46_2 * ((u6_30 + 3) / 4))) ∧ ((x46_2 * ((u6_30 + 3) / 4))) ≤ (((x46_2 * ((u6_30 + 3) / 4)) + ((u6_30 + 3) / 4))) ∧ (((x46_2 * ((u6_30 + 3) / 4)) + ((u6_30 + 3) / 4))) ≤ 16385 by omega) (show CX ((w83)) ((w53)) by assumption) (show ∀ k, ((x46_2 * ((u6_30 + 3) / 4))) ≤ k → k < (((x46_2 * ((u6_30 + 3) / 4)) + ((u6_30 + 3) / 4))) → ((w53)) (((w65)) k) ≠ 0 by assumption) (show 0 ≤ (y46_6_35) ∧ (y46_6_35) ≤ 1000000 by omega) (show fl ((w83)) (p2 ((u6_12))) = CELS ((w53)) ((u6_12)) by assumption) (show CI ((w53)) ((u6_12)) by assumption) (fun σ F18 A19 H hS20 hA21 y23 ey24 wq25 ewq26 pz22_0 pz22_1 pz22_2 => ⟨rfl, ?_⟩))
          have r27 : (0 : Int) ≤ y23 ∧ y23 ≤ 100000000 := by have h1 : (0 : Int) ≤ F18 6 35 ∧ F18 6 35 ≤ 100000000 := H.frng 6 35; rw [show F18 6 35 = y23 from (ey24)] at h1; exact h1
          have hm63 : MBA ((w69)) ((u6_35)) ((wq25)) ((y23)) (N4 ((w53)) ((w65)) (((u6_30) + 3) / 4) (3 : Int).toNat ++ S4 ((w53)) ((u6_12)) ((w65)) (((u6_30) + 3) / 4) ((x46_2) + 1 : Int).toNat) := by rw [S4_s (k := (x46_2)) (m := (x46_2) + 1) (a := (x46_2) * (((u6_30 + 3) / 4))) (b := (x46_2) * (((u6_30 + 3) / 4)) + (((u6_30 + 3) / 4))) (by omega) rfl rfl rfl, ← List.append_assoc]; exact MBA_t j46_m (MBA_s (pz22_1 (by omega)))
          refine Ew_of (pc' := 66) (fun _ => x_iinc (len := 3) rfl (l46_2)) ?_
          refine Ew_of (pc' := 46) (fun _ => x_goto rfl rfl) ?_
          exact ih46 _ (by omega) _ σ _ _ ((x46_2 + 1)) (rk_o (l46_0) rfl rfl) (rk_o (l46_1) rfl rfl) (rk_s) H (SF_trans (hS_46) hS20 (any_sub rfl)) (SA_trans (hA_46) hA21 (any_subA rfl)) (y23) ((ey24)) (wq25) (ewq26) (show inr ((x46_2 + 1)) by omega) (show (0) ≤ ((x46_2 + 1)) by omega) (show ((x46_2 + 1)) ≤ (0) ∨ ((x46_2 + 1)) ≤ (3) by omega) (show (y11_6_35) ≤ (y23) ∧ (y23) ≤ (y11_6_35) + 11 * (((x46_2 + 1)) * (((u6_30 + 3) / 4))) + 8 * ((x46_2 + 1)) by omega) (show MBA ((w69)) ((u6_35)) ((wq25)) ((y23)) (N4 ((w53)) ((w65)) (((u6_30) + 3) / 4) (3 : Int).toNat ++ S4 ((w53)) ((u6_12)) ((w65)) (((u6_30) + 3) / 4) (((x46_2 + 1)) : Int).toNat) by assumption) rfl
    · have hm3 := mul_le3 (k := (x11_2)) (c := (((u6_30 + 3) / 4))) (by omega) (by omega) (by omega)
      have hm4 : ((x11_2) + 1) * (((u6_30 + 3) / 4)) ≤ 3 * (((u6_30 + 3) / 4)) := Int.mul_le_mul_of_nonneg_right (by omega) (by omega)
      refine Ew_of (pc' := 17) (fun _ => x_aload_n rfl l11_0) ?_
      refine Ew_of (pc' := 18) (fun _ => x_aload_n rfl l11_0) ?_
      refine Ew_of (pc' := 19) (fun _ => x_aload_n rfl l11_0) ?_
      refine w_gT H (o := 6) (t := 53) rfl (H.perm 6 rfl) rfl rfl rfl rfl rfl rfl ?_
      refine Ew_of (pc' := 23) (fun _ => x_iload_n rfl l11_2) ?_
      refine Ew_of (pc' := 24) (fun _ => x_iload_n rfl l11_1) ?_
      refine w_imul rfl ?_
      refine Ew_of (pc' := 26) (fun _ => x_iload_n rfl l11_2) ?_
      refine Ew_of (pc' := 27) (fun _ => x_iload_n rfl l11_1) ?_
      refine w_imul rfl ?_
      refine Ew_of (pc' := 29) (fun _ => x_iload_n rfl l11_1) ?_
      refine w_iadd rfl ?_
      refine w_inv H (o := 6) rfl rfl rfl (H.perm 6 rfl) rfl rfl (by rfl) (M424_53 H (w53) ((funext (hA_11 53 rfl)).trans (ew53)) (w65) ((funext (hA_11 65 rfl)).trans (ew65)) (show inr ((x11_2 * ((u6_30 + 3) / 4))) by omega) (show inr (((x11_2 * ((u6_30 + 3) / 4)) + ((u6_30 + 3) / 4))) by omega) (show 0 ≤ ((x11_2 * ((u6_30 + 3) / 4))) ∧ ((x11_2 * ((u6_30 + 3) / 4))) ≤ (((x11_2 * ((u6_30 + 3) / 4)) + ((u6_30 + 3) / 4))) ∧ (((x11_2 * ((u6_30 + 3) / 4)) + ((u6_30 + 3) / 4))) ≤ 16385 by omega) (show BD ((w53)) by assumption) (fun z32 σ F28 A29 H hS30 hA31 pz32_0 pz32_1 pz32_2 => ⟨rfl, ?_⟩))
      have e30 : z32 = z1F ((w53)) ((w65)) ((x11_2) * (((u6_30 + 3) / 4))) ((x11_2) * (((u6_30 + 3) / 4)) + (((u6_30 + 3) / 4))) := pz32_2
      refine Ew_of (pc' := 35) (fun _ => x_bipush (z := 16) rfl (by decide)) ?_
      refine w_inv H (o := 6) rfl rfl rfl (H.perm 6 rfl) rfl rfl (by rfl) (M389 H (y11_6_35) (((hS30 6 35 rfl).trans (ey11_6_35))) (w11_69) ((funext (hA31 69 rfl)).trans (ew11_69)) (show inr (z32) by omega) (show inr (16) by omega) (show 0 ≤ (16) ∧ (16) ≤ 31 by omega) (show 0 ≤ (y11_6_35) ∧ (y11_6_35) ≤ 90000000 by omega) (fun σ F33 A34 H hS35 hA36 y38 ey39 wq40 ewq41 pz37_0 pz37_1 => ⟨rfl, ?_⟩))
      have r42 : (0 : Int) ≤ y38 ∧ y38 ≤ 100000000 := by have h1 : (0 : Int) ≤ F33 6 35 ∧ F33 6 35 ≤ 100000000 := H.frng 6 35; rw [show F33 6 35 = y38 from (ey39)] at h1; exact h1
      have hm38 : MBA ((w69)) ((u6_35)) ((wq40)) ((y38)) (N4 ((w53)) ((w65)) (((u6_30) + 3) / 4) ((x11_2) + 1 : Int).toNat) := by rw [N4_s (k := (x11_2)) (m := (x11_2) + 1) (by omega) rfl e30]; exact MBA_t j11_m (MBA_p (pz37_1 (by omega)) (by omega))
      refine Ew_of (pc' := 41) (fun _ => x_iinc (len := 3) rfl (l11_2)) ?_
      refine Ew_of (pc' := 11) (fun _ => x_goto rfl rfl) ?_
      exact ih11 _ (by omega) _ σ _ _ ((x11_2 + 1)) (rk_o (l11_0) rfl rfl) (rk_o (l11_1) rfl rfl) (rk_s) H (SF_trans (SF_trans (hS_11) hS30 (any_sub rfl)) hS35 (any_sub rfl)) (SA_trans (SA_trans (hA_11) hA31 (any_subA rfl)) hA36 (any_subA rfl)) (y38) ((ey39)) (wq40) (ewq41) (show inr ((x11_2 + 1)) by omega) (show (0) ≤ ((x11_2 + 1)) by omega) (show ((x11_2 + 1)) ≤ (0) ∨ ((x11_2 + 1)) ≤ (3) by omega) (show (y38) = (u6_35) + 16 * ((x11_2 + 1)) by omega) (show MBA ((w69)) ((u6_35)) ((wq40)) ((y38)) (N4 ((w53)) ((w65)) (((u6_30) + 3) / 4) (((x11_2 + 1)) : Int).toNat) by assumption) rfl
/-- Writer.beginFrame -/
theorem M447 {σ0 σ : rS} {D N : Nat → Nat} {F : hF} {A : hA} {d c s : Nat} {Q : wQ} (H : HS σ0 σ D N F A)  (u6_6 : Int) (eu6_6 : F 6 6 = u6_6) (w49 : Int → Int) (ew49 : A 49 = w49) (w50 : Int → Int) (ew50 : A 50 = w50) (w51 : Int → Int) (ew51 : A 51 = w51) (h0 : DW ((u6_6)) ((w49)) ((w50)) ((w51))) (k : ∀ σ F' A', HS σ0 σ D N F' A' → SF [(6, 12)] F F' → SA [53, 54, 55, 56] A A' → ∀ y6_12 : Int, F' 6 12 = y6_12 → ∀ v53 : Int → Int, A' 53 = v53 → ∀ v54 : Int → Int, A' 54 = v54 → ∀ v55 : Int → Int, A' 55 = v55 → (WC ((y6_12)) ((v53))) → (WO ((v54)) ((v55))) → Q none σ c s) : Ew 447 (d + 0) 0 (rargs 0 [.ref (D 6)]) [] σ c s Q := by
  have r1 : (0 : Int) ≤ u6_6 ∧ u6_6 ≤ 1 := by have h1 : (0 : Int) ≤ F 6 6 ∧ F 6 6 ≤ 1 := H.frng 6 6; rw [show F 6 6 = u6_6 from (eu6_6)] at h1; exact h1
  refine Ew_of (pc' := 1) (fun _ => x_aload_n rfl rfl) ?_
  refine Ew_of (pc' := 2) (fun _ => x_iconst rfl) ?_
  refine w_pI H (o := 6) rfl rfl (H.perm 6 rfl) rfl rfl rfl (fun _ => rfl) rfl (show (0 : Int) ≤ 0 ∧ 0 ≤ 11 by omega) (fun σ H => ?_)
  refine Ew_of (pc' := 6) (fun _ => x_iconst rfl) ?_
  refine Ew_of (pc' := 7) (fun _ => x_istore_n rfl) ?_
  have : ∀ t, (0 : Int) ≤ t → t < 0 → ((A 55)) t < 0 := fun t a b => absurd b (by omega)
  suffices hl7 : ∀ (m : Nat), ∀ (ls : rO) (σ : rS) (F_7 : hF) (A_7 : hA) (x7_1 : Int), rlook ls 0 = some (.ref (D 6)) → rlook ls 1 = some (I (x7_1)) → HS σ0 σ D N F_7 A_7 → SF [] (updF F 6 12 (0)) F_7 → SA [55, 56] A A_7 → ∀ w7_55 : Int → Int, A_7 55 = w7_55 → (inr (x7_1)) → ((0) ≤ (x7_1)) → ((x7_1) ≤ (0) ∨ (x7_1) ≤ (3)) → (∀ t, 0 ≤ t → t < (x7_1) → ((w7_55)) t < 0) → ((3) - (x7_1)).toNat = m → Ew 447 (d + 0) 7 ls [] σ c s Q from
    hl7 _ _ σ _ _ (0) (rk_o (rfl) rfl rfl) (rk_s) H (SF_refl) (SA_refl)  (A 55) (rfl) (show inr (0) by omega) (show (0) ≤ (0) by omega) (show (0) ≤ (0) ∨ (0) ≤ (3) by omega) (show ∀ t, 0 ≤ t → t < (0) → ((A 55)) t < 0 by assumption) rfl
  as_aux_lemma =>
  intro m
  induction m using Nat.strongRecOn with
  | _ m ih7 =>
    intro ls σ F_7 A_7 x7_1 l7_0 l7_1 H hS_7 hA_7  w7_55 ew7_55 j7_0 j7_1 j7_2 j7_3 hm7
    refine Ew_of (pc' := 8) (fun _ => x_iload_n rfl l7_1) ?_
    refine Ew_of (pc' := 9) (fun _ => x_iconst rfl) ?_
    refine w_icmpge (t := 42) rfl rfl (show inr (x7_1) by omega) (show inr (3) by omega) (fun b2 => ?_) (fun b2 => ?_)
    · have : WO ((A 54)) ((w7_55)) := fun t a b => .inl (by have := j7_3 t a (by omega); omega)
      have : WC 0 ((A 53)) := .inl rfl
      refine Ew_of (pc' := 43) (fun _ => x_aload_n rfl l7_0) ?_
      refine w_gI H (o := 6) (w := u6_6) rfl (H.perm 6 rfl) rfl rfl rfl (fun _ => rfl) ((hS_7 6 6 rfl).trans (eu6_6)) ?_
      refine w_ifne (t := 50) rfl rfl (show inr (u6_6) by omega) (fun b3 => ?_) (fun b3 => ?_)
      · refine Ew_of (pc' := 51) (fun _ => x_iconst rfl) ?_
        refine Ew_of (pc' := 52) (fun _ => x_istore_n rfl) ?_
        have hdi : DW ((u6_6)) ((w49)) ((w50)) ((w51)) := by assumption
        have hdi := hdi (by omega)
        obtain ⟨⟨T, hT⟩, hPS⟩ := hdi
        have : ∀ i, (0 : Int) ≤ i → i < 0 → ((A 53)) i = ((w49)) i := fun i a b => absurd b (by omega)
        have : ∀ i, (0 : Int) ≤ i → i < 0 → ((w49)) i ≤ 0 := fun i a b => absurd b (by omega)
        have hT0 := hT.1
        suffices hl52 : ∀ (m : Nat), ∀ (ls : rO) (σ : rS) (F_52 : hF) (A_52 : hA) (x52_1 : Int), rlook ls 0 = some (.ref (D 6)) → rlook ls 1 = some (I (x52_1)) → HS σ0 σ D N F_52 A_52 → SF [(6, 12)] F_7 F_52 → SA [53] A_7 A_52 → ∀ y52_6_12 : Int, F_52 6 12 = y52_6_12 → ∀ w52_53 : Int → Int, A_52 53 = w52_53 → (inr (x52_1)) → ((0) ≤ (x52_1)) → ((x52_1) ≤ (0) ∨ (x52_1) ≤ ((256))) → (∀ i, 0 ≤ i → i < (x52_1) → ((w52_53)) i = ((w49)) i) → (∀ i, 0 ≤ i → i < (x52_1) → ((w49)) i ≤ (y52_6_12)) → ((y52_6_12) ≤ T) → (((256)) - (x52_1)).toNat = m → Ew 447 (d + 0) 52 ls [] σ c s Q from
          hl52 _ _ σ _ _ (0) (rk_o (l7_0) rfl rfl) (rk_s) H (SF_refl) (SA_refl) (0) ((hS_7 6 12 rfl)) (A 53) (funext (hA_7 53 rfl)) (show inr (0) by omega) (show (0) ≤ (0) by omega) (show (0) ≤ (0) ∨ (0) ≤ ((256)) by omega) (show ∀ i, 0 ≤ i → i < (0) → ((A 53)) i = ((w49)) i by assumption) (show ∀ i, 0 ≤ i → i < (0) → ((w49)) i ≤ (0) by assumption) (show (0) ≤ T by omega) rfl
        as_aux_lemma =>
        intro m
        induction m using Nat.strongRecOn with
        | _ m ih52 =>
          intro ls σ F_52 A_52 x52_1 l52_0 l52_1 H hS_52 hA_52 y52_6_12 ey52_6_12 w52_53 ew52_53 j52_0 j52_1 j52_2 j52_3 j52_4 j52_5 hm52
          have r4 : (0 : Int) ≤ y52_6_12 ∧ y52_6_12 ≤ 11 := by have h1 : (0 : Int) ≤ F_52 6 12 ∧ F_52 6 12 ≤ 11 := H.frng 6 12; rw [show F_52 6 12 = y52_6_12 from (ey52_6_12)] at h1; exact h1
          refine Ew_of (pc' := 53) (fun _ => x_iload_n rfl l52_1) ?_
          refine Ew_of (pc' := 56) (fun _ => x_sipush (z := 256) rfl (by decide)) ?_
          refine w_icmpge (t := 107) rfl rfl (show inr (x52_1) by omega) (show inr (256) by omega) (fun b5 => ?_) (fun b5 => ?_)
          · have htt : (y52_6_12) = T := by obtain ⟨i, a, b, c⟩ := hT.2.2.2.2; have := j52_4 i a (by omega); omega
            have : WC ((y52_6_12)) ((w52_53)) := .inr (by rw [htt]; exact CI_congr hT (fun i a b => j52_3 i a (by omega)))
            refine Ew_of (pc' := 108) (fun _ => x_iconst rfl) ?_
            refine Ew_of (pc' := 109) (fun _ => x_istore_n rfl) ?_
            have : ∀ i, (0 : Int) ≤ i → i < 0 → ((A 54)) i = ((w50)) i := fun i a b => absurd b (by omega)
            suffices hl109 : ∀ (m : Nat), ∀ (ls : rO) (σ : rS) (F_109 : hF) (A_109 : hA) (x109_1 : Int), rlook ls 0 = some (.ref (D 6)) → rlook ls 1 = some (I (x109_1)) → HS σ0 σ D N F_109 A_109 → SF [] F_52 F_109 → SA [54] A_52 A_109 → ∀ w109_54 : Int → Int, A_109 54 = w109_54 → (inr (x109_1)) → ((0) ≤ (x109_1)) → ((x109_1) ≤ (0) ∨ (x109_1) ≤ ((192))) → (∀ i, 0 ≤ i → i < (x109_1) → ((w109_54)) i = ((w50)) i) → (((192)) - (x109_1)).toNat = m → Ew 447 (d + 0) 109 ls [] σ c s Q from
              hl109 _ _ σ _ _ (0) (rk_o (l52_0) rfl rfl) (rk_s) H (SF_refl) (SA_refl)  (A 54) ((funext (hA_52 54 rfl)).trans (funext (hA_7 54 rfl))) (show inr (0) by omega) (show (0) ≤ (0) by omega) (show (0) ≤ (0) ∨ (0) ≤ ((192)) by omega) (show ∀ i, 0 ≤ i → i < (0) → ((A 54)) i = ((w50)) i by assumption) rfl
            as_aux_lemma =>
            intro m
            induction m using Nat.strongRecOn with
            | _ m ih109 =>
              intro ls σ F_109 A_109 x109_1 l109_0 l109_1 H hS_109 hA_109  w109_54 ew109_54 j109_0 j109_1 j109_2 j109_3 hm109
              refine Ew_of (pc' := 110) (fun _ => x_iload_n rfl l109_1) ?_
              refine Ew_of (pc' := 113) (fun _ => x_sipush (z := 192) rfl (by decide)) ?_
              refine w_icmpge (t := 134) rfl rfl (show inr (x109_1) by omega) (show inr (192) by omega) (fun b6 => ?_) (fun b6 => ?_)
              · refine Ew_of (pc' := 135) (fun _ => x_iconst rfl) ?_
                refine Ew_of (pc' := 136) (fun _ => x_istore_n rfl) ?_
                have : ∀ i, (0 : Int) ≤ i → i < 0 → ((w7_55)) i = ((w51)) i := fun i a b => absurd b (by omega)
                suffices hl136 : ∀ (m : Nat), ∀ (ls : rO) (σ : rS) (F_136 : hF) (A_136 : hA) (x136_1 : Int), rlook ls 0 = some (.ref (D 6)) → rlook ls 1 = some (I (x136_1)) → HS σ0 σ D N F_136 A_136 → SF [] F_109 F_136 → SA [55, 56] A_109 A_136 → ∀ w136_55 : Int → Int, A_136 55 = w136_55 → (inr (x136_1)) → ((0) ≤ (x136_1)) → ((x136_1) ≤ (0) ∨ (x136_1) ≤ (3)) → (∀ i, 0 ≤ i → i < (x136_1) → ((w136_55)) i = ((w51)) i) → ((3) - (x136_1)).toNat = m → Ew 447 (d + 0) 136 ls [] σ c s Q from
                  hl136 _ _ σ _ _ (0) (rk_o (l109_0) rfl rfl) (rk_s) H (SF_refl) (SA_refl)  (w7_55) ((funext (hA_109 55 rfl)).trans ((funext (hA_52 55 rfl)).trans (ew7_55))) (show inr (0) by omega) (show (0) ≤ (0) by omega) (show (0) ≤ (0) ∨ (0) ≤ (3) by omega) (show ∀ i, 0 ≤ i → i < (0) → ((w7_55)) i = ((w51)) i by assumption) rfl
                as_aux_lemma =>
                intro m
                induction m using Nat.strongRecOn with
                | _ m ih136 =>
                  intro ls σ F_136 A_136 x136_1 l136_0 l136_1 H hS_136 hA_136  w136_55 ew136_55 j136_0 j136_1 j136_2 j136_3 hm136
                  refine Ew_of (pc' := 137) (fun _ => x_iload_n rfl l136_1) ?_
                  refine Ew_of (pc' := 138) (fun _ => x_iconst rfl) ?_
                  refine w_icmpge (t := 171) rfl rfl (show inr (x136_1) by omega) (show inr (3) by omega) (fun b7 => ?_) (fun b7 => ?_)
                  · have : WO ((w109_54)) ((w136_55)) := fun t a b => .inr (PS_congr (hPS t a b) ⟨a, b⟩ (fun i c e => j109_3 i c (by omega)) (j136_3 t a (by omega)))
                    exact w_ret rfl (k σ _ _ H (SF_trans (SF_trans (SF_trans (SF_trans (SF_upd (SF_refl) rfl) hS_7 (any_sub rfl)) hS_52 (any_sub rfl)) hS_109 (any_sub rfl)) hS_136 (any_sub rfl)) (SA_trans (SA_trans (SA_trans (SA_trans (SA_refl) hA_7 (any_subA rfl)) hA_52 (any_subA rfl)) hA_109 (any_subA rfl)) hA_136 (any_subA rfl)) (y52_6_12) ((((hS_136 6 12 rfl).trans (hS_109 6 12 rfl)).trans (ey52_6_12))) (w52_53) ((funext (hA_136 53 rfl)).trans ((funext (hA_109 53 rfl)).trans (ew52_53))) (w109_54) ((funext (hA_136 54 rfl)).trans (ew109_54)) (w136_55) (ew136_55) (show WC ((y52_6_12)) ((w52_53)) by assumption) (show WO ((w109_54)) ((w136_55)) by assumption))
                  · refine Ew_of (pc' := 142) (fun _ => x_aload_n rfl l136_0) ?_
                    refine w_gT H (o := 6) (t := 55) rfl (H.perm 6 rfl) rfl rfl rfl rfl rfl rfl ?_
                    refine Ew_of (pc' := 146) (fun _ => x_iload_n rfl l136_1) ?_
                    refine Ew_of (pc' := 147) (fun _ => x_aload_n rfl l136_0) ?_
                    refine w_gT H (o := 6) (t := 51) rfl (H.perm 6 rfl) rfl rfl rfl rfl rfl rfl ?_
                    refine Ew_of (pc' := 151) (fun _ => x_iload_n rfl l136_1) ?_
                    refine w_lI H (o := 51) (n := 3) rfl (H.perm 51 rfl) rfl rfl (H.fix 51 rfl rfl) (show 0 ≤ x136_1 ∧ x136_1 < ((3 : Nat) : Int) by omega) (by decide) (fun v8 ev8 qv8 => ?_)
                    have qv8 : (-1 : Int) ≤ v8 ∧ v8 ≤ 9 := qv8
                    have ev8 : (w51) (x136_1) = v8 := (congrFun ((funext (hA_136 51 rfl)).trans ((funext (hA_109 51 rfl)).trans ((funext (hA_52 51 rfl)).trans ((funext (hA_7 51 rfl)).trans (ew51))))) (x136_1)).symm.trans ev8
                    refine w_sI H (o := 55) (n := 3) rfl (H.perm 55 rfl) rfl rfl (H.fix 55 rfl rfl) (show 0 ≤ x136_1 ∧ x136_1 < ((3 : Nat) : Int) by omega) (by decide) (show (-1 : Int) ≤ v8 ∧ v8 ≤ 9 by omega) (fun σ H => ?_)
                    refine Ew_of (pc' := 154) (fun _ => x_aload_n rfl l136_0) ?_
                    refine w_gT H (o := 6) (t := 56) rfl (H.perm 6 rfl) rfl rfl rfl rfl rfl rfl ?_
                    refine Ew_of (pc' := 158) (fun _ => x_iload_n rfl l136_1) ?_
                    refine Ew_of (pc' := 159) (fun _ => x_aload_n rfl l136_0) ?_
                    refine w_gT H (o := 6) (t := 52) rfl (H.perm 6 rfl) rfl rfl rfl rfl rfl rfl ?_
                    refine Ew_of (pc' := 163) (fun _ => x_iload_n rfl l136_1) ?_
                    refine w_lI H (o := 52) (n := 3) rfl (H.perm 52 rfl) rfl rfl (H.fix 52 rfl rfl) (show 0 ≤ x136_1 ∧ x136_1 < ((3 : Nat) : Int) by omega) (by decide) (fun v9 ev9 qv9 => ?_)
                    have qv9 : (-2147483648 : Int) ≤ v9 ∧ v9 ≤ 2147483647 := qv9
                    have ev9 : (A 52) (x136_1) = v9 := (congrFun ((funext (hA_136 52 rfl)).trans ((funext (hA_109 52 rfl)).trans ((funext (hA_52 52 rfl)).trans (funext (hA_7 52 rfl))))) (x136_1)).symm.trans ev9
                    refine w_sI H (o := 56) (n := 3) rfl (H.perm 56 rfl) rfl rfl (H.fix 56 rfl rfl) (show 0 ≤ x136_1 ∧ x136_1 < ((3 : Nat) : Int) by omega) (by decide) (show (-2147483648 : Int) ≤ v9 ∧ v9 ≤ 2147483647 by omega) (fun σ H => ?_)
                    refine Ew_of (pc' := 168) (fun _ => x_iinc (len := 3) rfl (l136_1)) ?_
                    refine Ew_of (pc' := 136) (fun _ => x_goto rfl rfl) ?_
                    have : ∀ i, (0 : Int) ≤ i → i < ((x136_1 + 1)) → ((upd1 (w136_55) (x136_1) (v8))) i = ((w51)) i := pt_copy j136_3 (by omega)
                    exact ih136 _ (by omega) _ σ _ _ ((x136_1 + 1)) (rk_o (l136_0) rfl rfl) (rk_s) H (hS_136) (SA_upd (SA_upd (hA_136) rfl) rfl)  (upd1 (w136_55) (x136_1) (v8)) (congrArg (fun q => upd1 q (x136_1) (v8)) (ew136_55)) (show inr ((x136_1 + 1)) by omega) (show (0) ≤ ((x136_1 + 1)) by omega) (show ((x136_1 + 1)) ≤ (0) ∨ ((x136_1 + 1)) ≤ (3) by omega) (show ∀ i, 0 ≤ i → i < ((x136_1 + 1)) → ((upd1 (w136_55) (x136_1) (v8))) i = ((w51)) i by assumption) rfl
              · refine Ew_of (pc' := 117) (fun _ => x_aload_n rfl l109_0) ?_
                refine w_gT H (o := 6) (t := 54) rfl (H.perm 6 rfl) rfl rfl rfl rfl rfl rfl ?_
                refine Ew_of (pc' := 121) (fun _ => x_iload_n rfl l109_1) ?_
                refine Ew_of (pc' := 122) (fun _ => x_aload_n rfl l109_0) ?_
                refine w_gT H (o := 6) (t := 50) rfl (H.perm 6 rfl) rfl rfl rfl rfl rfl rfl ?_
                refine Ew_of (pc' := 126) (fun _ => x_iload_n rfl l109_1) ?_
                refine w_lI H (o := 50) (n := 192) rfl (H.perm 50 rfl) rfl rfl (H.fix 50 rfl rfl) (show 0 ≤ x109_1 ∧ x109_1 < ((192 : Nat) : Int) by omega) (by decide) (fun v10 ev10 qv10 => ?_)
                have qv10 : (-1 : Int) ≤ v10 ∧ v10 ≤ 512 := qv10
                have ev10 : (w50) (x109_1) = v10 := (congrFun ((funext (hA_109 50 rfl)).trans ((funext (hA_52 50 rfl)).trans ((funext (hA_7 50 rfl)).trans (ew50)))) (x109_1)).symm.trans ev10
                refine w_sI H (o := 54) (n := 192) rfl (H.perm 54 rfl) rfl rfl (H.fix 54 rfl rfl) (show 0 ≤ x109_1 ∧ x109_1 < ((192 : Nat) : Int) by omega) (by decide) (show (-1 : Int) ≤ v10 ∧ v10 ≤ 512 by omega) (fun σ H => ?_)
                refine Ew_of (pc' := 131) (fun _ => x_iinc (len := 3) rfl (l109_1)) ?_
                refine Ew_of (pc' := 109) (fun _ => x_goto rfl rfl) ?_
                have : ∀ i, (0 : Int) ≤ i → i < ((x109_1 + 1)) → ((upd1 (w109_54) (x109_1) (v10))) i = ((w50)) i := pt_copy j109_3 (by omega)
                exact ih109 _ (by omega) _ σ _ _ ((x109_1 + 1)) (rk_o (l109_0) rfl rfl) (rk_s) H (hS_109) (SA_upd (hA_109) rfl)  (upd1 (w109_54) (x109_1) (v10)) (congrArg (fun q => upd1 q (x109_1) (v10)) (ew109_54)) (show inr ((x109_1 + 1)) by omega) (show (0) ≤ ((x109_1 + 1)) by omega) (show ((x109_1 + 1)) ≤ (0) ∨ ((x109_1 + 1)) ≤ ((192)) by omega) (show ∀ i, 0 ≤ i → i < ((x109_1 + 1)) → ((upd1 (w109_54) (x109_1) (v10))) i = ((w50)) i by assumption) rfl
          · have hTl := hT.2.2.1 ((x52_1)) (by omega) (by omega)
            refine Ew_of (pc' := 60) (fun _ => x_aload_n rfl l52_0) ?_
            refine w_gT H (o := 6) (t := 53) rfl (H.perm 6 rfl) rfl rfl rfl rfl rfl rfl ?_
            refine Ew_of (pc' := 64) (fun _ => x_iload_n rfl l52_1) ?_
            refine Ew_of (pc' := 65) (fun _ => x_aload_n rfl l52_0) ?_
            refine w_gT H (o := 6) (t := 49) rfl (H.perm 6 rfl) rfl rfl rfl rfl rfl rfl ?_
            refine Ew_of (pc' := 69) (fun _ => x_iload_n rfl l52_1) ?_
            refine w_lI H (o := 49) (n := 256) rfl (H.perm 49 rfl) rfl rfl (H.fix 49 rfl rfl) (show 0 ≤ x52_1 ∧ x52_1 < ((256 : Nat) : Int) by omega) (by decide) (fun v11 ev11 qv11 => ?_)
            have qv11 : (0 : Int) ≤ v11 ∧ v11 ≤ 11 := qv11
            have ev11 : (w49) (x52_1) = v11 := (congrFun ((funext (hA_52 49 rfl)).trans ((funext (hA_7 49 rfl)).trans (ew49))) (x52_1)).symm.trans ev11
            refine w_sI H (o := 53) (n := 256) rfl (H.perm 53 rfl) rfl rfl (H.fix 53 rfl rfl) (show 0 ≤ x52_1 ∧ x52_1 < ((256 : Nat) : Int) by omega) (by decide) (show (0 : Int) ≤ v11 ∧ v11 ≤ 11 by omega) (fun σ H => ?_)
            refine Ew_of (pc' := 72) (fun _ => x_aload_n rfl l52_0) ?_
            refine Ew_of (pc' := 73) (fun _ => x_aload_n rfl l52_0) ?_
            refine w_gT H (o := 6) (t := 53) rfl (H.perm 6 rfl) rfl rfl rfl rfl rfl rfl ?_
            refine Ew_of (pc' := 77) (fun _ => x_iload_n rfl l52_1) ?_
            refine w_lI H (o := 53) (n := 256) rfl (H.perm 53 rfl) rfl rfl (H.fix 53 rfl rfl) (show 0 ≤ x52_1 ∧ x52_1 < ((256 : Nat) : Int) by omega) (by decide) (fun v12 ev12 qv12 => ?_)
            have qv12 : (0 : Int) ≤ v12 ∧ v12 ≤ 11 := qv12
            have ev12 : (upd1 (w52_53) (x52_1) (v11)) (x52_1) = v12 := (congrFun (congrArg (fun q => upd1 q (x52_1) (v11)) (ew52_53)) (x52_1)).symm.trans ev12
            refine Ew_of (pc' := 79) (fun _ => x_aload_n rfl l52_0) ?_
            refine w_gI H (o := 6) (w := y52_6_12) rfl (H.perm 6 rfl) rfl rfl rfl (fun _ => rfl) (ey52_6_12) ?_
            have hls : ((upd1 (w52_53) (x52_1) (v11))) ((x52_1)) = ((w49)) ((x52_1)) := by rw [upd1_s]; omega
            refine w_icmple (t := 94) rfl rfl (show inr (v12) by omega) (show inr (y52_6_12) by omega) (fun b13 => ?_) (fun b13 => ?_)
            · refine Ew_of (pc' := 95) (fun _ => x_aload_n rfl l52_0) ?_
              refine w_gI H (o := 6) (w := y52_6_12) rfl (H.perm 6 rfl) rfl rfl rfl (fun _ => rfl) (ey52_6_12) ?_
              refine w_pI H (o := 6) rfl rfl (H.perm 6 rfl) rfl rfl rfl (fun _ => rfl) rfl (show (0 : Int) ≤ y52_6_12 ∧ y52_6_12 ≤ 11 by omega) (fun σ H => ?_)
              have hdx : ((w49)) ((x52_1) + 1 - 1) = ((w49)) ((x52_1)) := by congr 1; omega
              refine Ew_of (pc' := 104) (fun _ => x_iinc (len := 3) rfl (l52_1)) ?_
              refine Ew_of (pc' := 52) (fun _ => x_goto rfl rfl) ?_
              have : ∀ i, (0 : Int) ≤ i → i < ((x52_1 + 1)) → ((upd1 (w52_53) (x52_1) (v11))) i = ((w49)) i := pt_copy j52_3 (by omega)
              have : ∀ i, (0 : Int) ≤ i → i < ((x52_1 + 1)) → ((w49)) i ≤ (y52_6_12) := fun i a b => by by_cases e : i = ((x52_1 + 1)) - 1; rw [e]; omega; have := j52_4 i a (by omega); omega
              exact ih52 _ (by omega) _ σ _ _ ((x52_1 + 1)) (rk_o (l52_0) rfl rfl) (rk_s) H (SF_upd (hS_52) rfl) (SA_upd (hA_52) rfl) (y52_6_12) (rfl) (upd1 (w52_53) (x52_1) (v11)) (congrArg (fun q => upd1 q (x52_1) (v11)) (ew52_53)) (show inr ((x52_1 + 1)) by omega) (show (0) ≤ ((x52_1 + 1)) by omega) (show ((x52_1 + 1)) ≤ (0) ∨ ((x52_1 + 1)) ≤ ((256)) by omega) (show ∀ i, 0 ≤ i → i < ((x52_1 + 1)) → ((upd1 (w52_53) (x52_1) (v11))) i = ((w49)) i by assumption) (show ∀ i, 0 ≤ i → i < ((x52_1 + 1)) → ((w49)) i ≤ (y52_6_12) by assumption) (show (y52_6_12) ≤ T by omega) rfl
            · refine Ew_of (pc' := 86) (fun _ => x_aload_n rfl l52_0) ?_
              refine w_gT H (o := 6) (t := 53) rfl (H.perm 6 rfl) rfl rfl rfl rfl rfl rfl ?_
              refine Ew_of (pc' := 90) (fun _ => x_iload_n rfl l52_1) ?_
              refine w_lI H (o := 53) (n := 256) rfl (H.perm 53 rfl) rfl rfl (H.fix 53 rfl rfl) (show 0 ≤ x52_1 ∧ x52_1 < ((256 : Nat) : Int) by omega) (by decide) (fun v14 ev14 qv14 => ?_)
              have qv14 : (0 : Int) ≤ v14 ∧ v14 ≤ 11 := qv14
              have ev14 : (upd1 (w52_53) (x52_1) (v11)) (x52_1) = v14 := (congrFun (congrArg (fun q => upd1 q (x52_1) (v11)) (ew52_53)) (x52_1)).symm.trans ev14
              refine Ew_of (pc' := 98) (fun _ => x_goto rfl rfl) ?_
              refine w_pI H (o := 6) rfl rfl (H.perm 6 rfl) rfl rfl rfl (fun _ => rfl) rfl (show (0 : Int) ≤ v14 ∧ v14 ≤ 11 by omega) (fun σ H => ?_)
              have hdx : ((w49)) ((x52_1) + 1 - 1) = ((w49)) ((x52_1)) := by congr 1; omega
              refine Ew_of (pc' := 104) (fun _ => x_iinc (len := 3) rfl (l52_1)) ?_
              refine Ew_of (pc' := 52) (fun _ => x_goto rfl rfl) ?_
              have : ∀ i, (0 : Int) ≤ i → i < ((x52_1 + 1)) → ((upd1 (w52_53) (x52_1) (v11))) i = ((w49)) i := pt_copy j52_3 (by omega)
              have : ∀ i, (0 : Int) ≤ i → i < ((x52_1 + 1)) → ((w49)) i ≤ (v14) := fun i a b => by by_cases e : i = ((x52_1 + 1)) - 1; rw [e]; omega; have := j52_4 i a (by omega); omega
              exact ih52 _ (by omega) _ σ _ _ ((x52_1 + 1)) (rk_o (l52_0) rfl rfl) (rk_s) H (SF_upd (hS_52) rfl) (SA_upd (hA_52) rfl) (v14) (rfl) (upd1 (w52_53) (x52_1) (v11)) (congrArg (fun q => upd1 q (x52_1) (v11)) (ew52_53)) (show inr ((x52_1 + 1)) by omega) (show (0) ≤ ((x52_1 + 1)) by omega) (show ((x52_1 + 1)) ≤ (0) ∨ ((x52_1 + 1)) ≤ ((256)) by omega) (show ∀ i, 0 ≤ i → i < ((x52_1 + 1)) → ((upd1 (w52_53) (x52_1) (v11))) i = ((w49)) i by assumption) (show ∀ i, 0 ≤ i → i < ((x52_1 + 1)) → ((w49)) i ≤ (v14) by assumption) (show (v14) ≤ T by omega) rfl
      · exact w_ret rfl (k σ _ _ H (SF_trans (SF_upd (SF_refl) rfl) hS_7 (any_sub rfl)) (SA_trans (SA_refl) hA_7 (any_subA rfl)) (0) ((hS_7 6 12 rfl)) (A 53) (funext (hA_7 53 rfl)) (A 54) (funext (hA_7 54 rfl)) (w7_55) (ew7_55) (show WC ((0)) ((A 53)) by assumption) (show WO ((A 54)) ((w7_55)) by assumption))
    · refine Ew_of (pc' := 13) (fun _ => x_aload_n rfl l7_0) ?_
      refine w_gT H (o := 6) (t := 55) rfl (H.perm 6 rfl) rfl rfl rfl rfl rfl rfl ?_
      refine Ew_of (pc' := 17) (fun _ => x_iload_n rfl l7_1) ?_
      refine Ew_of (pc' := 18) (fun _ => x_iconst rfl) ?_
      refine w_sI H (o := 55) (n := 3) rfl (H.perm 55 rfl) rfl rfl (H.fix 55 rfl rfl) (show 0 ≤ x7_1 ∧ x7_1 < ((3 : Nat) : Int) by omega) (by decide) (show (-1 : Int) ≤ (-1) ∧ (-1) ≤ 9 by omega) (fun σ H => ?_)
      refine Ew_of (pc' := 20) (fun _ => x_aload_n rfl l7_0) ?_
      refine w_gT H (o := 6) (t := 56) rfl (H.perm 6 rfl) rfl rfl rfl rfl rfl rfl ?_
      refine Ew_of (pc' := 24) (fun _ => x_iload_n rfl l7_1) ?_
      refine Ew_of (pc' := 25) (fun _ => x_iload_n rfl l7_1) ?_
      refine w_ifne (t := 32) rfl rfl (show inr (x7_1) by omega) (fun b15 => ?_) (fun b15 => ?_)
      · refine Ew_of (pc' := 33) (fun _ => x_iconst rfl) ?_
        refine Ew_of (pc' := 34) (fun _ => x_iload_n rfl l7_1) ?_
        refine w_imul rfl ?_
        refine w_sI H (o := 56) (n := 3) rfl (H.perm 56 rfl) rfl rfl (H.fix 56 rfl rfl) (show 0 ≤ x7_1 ∧ x7_1 < ((3 : Nat) : Int) by omega) (by decide) (show (-2147483648 : Int) ≤ (4 * x7_1) ∧ (4 * x7_1) ≤ 2147483647 by omega) (fun σ H => ?_)
        refine Ew_of (pc' := 39) (fun _ => x_iinc (len := 3) rfl (l7_1)) ?_
        refine Ew_of (pc' := 7) (fun _ => x_goto rfl rfl) ?_
        have : ∀ t, (0 : Int) ≤ t → t < ((x7_1 + 1)) → ((upd1 (w7_55) (x7_1) ((-1)))) t < 0 := fun t a b => by simp only [upd1]; split; omega; exact j7_3 t a (by omega)
        exact ih7 _ (by omega) _ σ _ _ ((x7_1 + 1)) (rk_o (l7_0) rfl rfl) (rk_s) H (hS_7) (SA_upd (SA_upd (hA_7) rfl) rfl)  (upd1 (w7_55) (x7_1) ((-1))) (congrArg (fun q => upd1 q (x7_1) ((-1))) (ew7_55)) (show inr ((x7_1 + 1)) by omega) (show (0) ≤ ((x7_1 + 1)) by omega) (show ((x7_1 + 1)) ≤ (0) ∨ ((x7_1 + 1)) ≤ (3) by omega) (show ∀ t, 0 ≤ t → t < ((x7_1 + 1)) → ((upd1 (w7_55) (x7_1) ((-1)))) t < 0 by assumption) rfl
      · refine Ew_of (pc' := 29) (fun _ => x_iconst rfl) ?_
        refine Ew_of (pc' := 35) (fun _ => x_goto rfl rfl) ?_
        refine w_sI H (o := 56) (n := 3) rfl (H.perm 56 rfl) rfl rfl (H.fix 56 rfl rfl) (show 0 ≤ x7_1 ∧ x7_1 < ((3 : Nat) : Int) by omega) (by decide) (show (-2147483648 : Int) ≤ 1 ∧ 1 ≤ 2147483647 by omega) (fun σ H => ?_)
        refine Ew_of (pc' := 39) (fun _ => x_iinc (len := 3) rfl (l7_1)) ?_
        refine Ew_of (pc' := 7) (fun _ => x_goto rfl rfl) ?_
        have : ∀ t, (0 : Int) ≤ t → t < ((x7_1 + 1)) → ((upd1 (w7_55) (x7_1) ((-1)))) t < 0 := fun t a b => by simp only [upd1]; split; omega; exact j7_3 t a (by omega)
        exact ih7 _ (by omega) _ σ _ _ ((x7_1 + 1)) (rk_o (l7_0) rfl rfl) (rk_s) H (hS_7) (SA_upd (SA_upd (hA_7) rfl) rfl)  (upd1 (w7_55) (x7_1) ((-1))) (congrArg (fun q => upd1 q (x7_1) ((-1))) (ew7_55)) (show inr ((x7_1 + 1)) by omega) (show (0) ≤ ((x7_1 + 1)) by omega) (show ((x7_1 + 1)) ≤ (0) ∨ ((x7_1 + 1)) ≤ (3) by omega) (show ∀ t, 0 ≤ t → t < ((x7_1 + 1)) → ((upd1 (w7_55) (x7_1) ((-1)))) t < 0 by assumption) rfl
