section
/-! 52.ref -/
theorem M430_53 {σ0 σ : rS} {D N : Nat → Nat} {F : hF} {A : hA} {d c s : Nat} {Q : wQ} (H : HS σ0 σ D N F A) {a2 : Int} (w53 : Int → Int) (ew53 : A 53 = w53) (h0 : inr (a2)) (h1 : CI ((w53)) ((a2))) (k : ∀ σ Fₚ Aₚ, HS σ0 σ D N Fₚ Aₚ → SF [] F Fₚ → SA [83] A Aₚ → ∀ v83 : Int → Int, Aₚ 83 = v83 → (CX ((v83)) ((w53))) → (fl ((v83)) (p2 ((a2))) = CELS ((w53)) ((a2))) → Q none σ c s) : Ew 430 (d + 0) 0 (rargs 0 [.ref (D 6), .ref (D 53), I a2]) [] σ c s Q := by
  refine Ew_of (pcₚ := 1) (fun _ => x_iconst rfl) ?_
  refine Ew_of (pcₚ := 2) (fun _ => x_istore_n rfl) ?_
  refine Ew_of (pcₚ := 3) (fun _ => x_iconst rfl) ?_
  refine Ew_of (pcₚ := 5) (fun _ => x_istore rfl) ?_
  have hci : CI ((w53)) ((a2)) := h1
  have := kq_1 hci.2.2.1
  have := p2_11 hci.2.1
  have : CP ((A 83)) ((w53)) ((a2)) 1 0 0 := CP_0 hci.2.2.1
  have hcT := hci.1
  have hcU := hci.2.1
  have : fl ((A 83)) 0 = CLa ((w53)) ((a2)) (1 - 1 : Int).toNat := rfl
  suffices hl5 : ∀ (m : Nat), ∀ (ls : rO) (σ : rS) (F_5 : hF) (A_5 : hA) (x5_3 : Int) (x5_4 : Int), rlook ls 0 = some (.ref (D 6)) → rlook ls 1 = some (.ref (D 53)) → rlook ls 2 = some (I (a2)) → rlook ls 3 = some (I (x5_3)) → rlook ls 4 = some (I (x5_4)) → HS σ0 σ D N F_5 A_5 → SF [] F F_5 → SA [83] A A_5 → ∀ w5_83 : Int → Int, A_5 83 = w5_83 → (inr (x5_3)) → (inr (x5_4)) → ((1) ≤ (x5_4)) → ((x5_4) ≤ (1) ∨ (x5_4) ≤ (((a2) + 1))) → (1 ≤ (x5_4)) → ((x5_3) = su (kq ((w53)) ((a2)) ((x5_4))) 256) → (CP ((w5_83)) ((w53)) ((a2)) ((x5_4)) (0) ((x5_3))) → (fl ((w5_83)) ((x5_3)) = CLa ((w53)) ((a2)) ((x5_4) - 1 : Int).toNat) → ((((a2) + 1)) - (x5_4)).toNat = m → Ew 430 (d + 0) 5 ls [] σ c s Q from
    hl5 _ _ σ _ _ (0) (1) (rk_o (rk_o (rfl) rfl rfl) rfl rfl) (rk_o (rk_o (rfl) rfl rfl) rfl rfl) (rk_o (rk_o (rfl) rfl rfl) rfl rfl) (rk_o (rk_s) rfl rfl) (rk_s) H (SF_refl) (SA_refl)  (A 83) (rfl) (show inr (0) from q_2) (show inr (1) from q_135) (show (1) ≤ (1) from q_1387) (show (1) ≤ (1) ∨ (1) ≤ (((a2) + 1)) from q_1388) (show 1 ≤ (1) from q_1387) (show (0) = su (kq ((w53)) ((a2)) ((1))) 256 by omega) (show CP ((A 83)) ((w53)) ((a2)) ((1)) (0) ((0)) by assumption) (show fl ((A 83)) ((0)) = CLa ((w53)) ((a2)) ((1) - 1 : Int).toNat by assumption) rfl
  as_aux_lemma =>
  intro m
  induction m using Nat.strongRecOn with
  | _ m ih5 =>
    intro ls σ F_5 A_5 x5_3 x5_4 l5_0 l5_1 l5_2 l5_3 l5_4 H hS_5 hA_5  w5_83 ew5_83 j5_0 j5_1 j5_2 j5_3 j5_4 j5_5 j5_6 j5_7 hm5
    have j5_k : (x5_3) = su (kq ((w53)) ((a2)) ((x5_4))) 256 := j5_5
    have j5_c : fl ((w5_83)) ((x5_3)) = CLa ((w53)) ((a2)) ((x5_4) - 1 : Int).toNat := by assumption
    refine Ew_of (pcₚ := 7) (fun _ => x_iload rfl l5_4) ?_
    refine Ew_of (pcₚ := 8) (fun _ => x_iload_n rfl l5_2) ?_
    refine w_icmpgt (t := 78) rfl rfl (show inr (x5_4) from j5_1) (show inr (a2) from h0) (fun b1 => ?_) (fun b1 => ?_)
    · have hall := CI_all hci
      have : fl ((w5_83)) (p2 ((a2))) = CELS ((w53)) ((a2)) := by rw [show (x5_4) = (a2) + 1 by omega] at j5_c j5_k; rw [← hall, ← j5_k, j5_c]; unfold CELS; rw [show (a2) + 1 - 1 = (a2) by omega]
      have hro3 := CI_room (w := (x5_4)) (s := 0) hci (by omega) (by omega)
      have : CX ((w5_83)) ((w53)) := CX_of (by assumption) (by omega) (by have : su (ke ((w53)) ((a2)) ((x5_4))) (0 : Int).toNat = 0 := rfl; omega) hci.2.2.1
      exact w_ret rfl (k σ _ _ H (SF_trans (SF_refl) hS_5 (any_sub rfl)) (SA_trans (SA_refl) hA_5 (any_subA rfl)) (w5_83) (ew5_83) (show CX ((w5_83)) ((w53)) by assumption) (show fl ((w5_83)) (p2 (a2)) = CELS ((w53)) (a2) by assumption))
    · refine Ew_of (pcₚ := 12) (fun _ => x_iconst rfl) ?_
      refine Ew_of (pcₚ := 14) (fun _ => x_istore rfl) ?_
      have : su (ke ((w53)) ((a2)) ((x5_4))) (0 : Int).toNat = 0 := rfl
      have : fl ((w5_83)) ((x5_3)) = CLa ((w53)) ((a2)) ((x5_4) - 1 : Int).toNat ++ CLw ((w53)) ((a2)) ((x5_4)) (0 : Int).toNat := by rw [j5_c]; exact (List.append_nil _).symm
      suffices hl14 : ∀ (m : Nat), ∀ (ls : rO) (σ : rS) (F_14 : hF) (A_14 : hA) (x14_3 : Int) (x14_5 : Int), rlook ls 0 = some (.ref (D 6)) → rlook ls 1 = some (.ref (D 53)) → rlook ls 2 = some (I (a2)) → rlook ls 3 = some (I (x14_3)) → rlook ls 4 = some (I (x5_4)) → rlook ls 5 = some (I (x14_5)) → HS σ0 σ D N F_14 A_14 → SF [] F_5 F_14 → SA [83] A_5 A_14 → ∀ w14_83 : Int → Int, A_14 83 = w14_83 → (inr (x14_3)) → (inr (x14_5)) → ((0) ≤ (x14_5)) → ((x14_5) ≤ (0) ∨ (x14_5) ≤ ((256))) → ((x14_3) = su (kq ((w53)) ((a2)) ((x5_4))) 256 + su (ke ((w53)) ((a2)) ((x5_4))) ((x14_5) : Int).toNat) → (CP ((w14_83)) ((w53)) ((a2)) ((x5_4)) ((x14_5)) ((x14_3))) → (fl ((w14_83)) ((x14_3)) = CLa ((w53)) ((a2)) ((x5_4) - 1 : Int).toNat ++ CLw ((w53)) ((a2)) ((x5_4)) ((x14_5) : Int).toNat) → (((256)) - (x14_5)).toNat = m → Ew 430 (d + 0) 14 ls [] σ c s Q from
        hl14 _ _ σ _ _ (x5_3) (0) (rk_o (l5_0) rfl rfl) (rk_o (l5_1) rfl rfl) (rk_o (l5_2) rfl rfl) (rk_o (l5_3) rfl rfl) (rk_o (l5_4) rfl rfl) (rk_s) H (SF_refl) (SA_refl)  (w5_83) (ew5_83) (show inr (x5_3) from j5_0) (show inr (0) from q_2) (show (0) ≤ (0) from q_1) (show (0) ≤ (0) ∨ (0) ≤ ((256)) from q_0) (show (x5_3) = su (kq ((w53)) ((a2)) ((x5_4))) 256 + su (ke ((w53)) ((a2)) ((x5_4))) ((0) : Int).toNat by omega) (j5_6) (show fl ((w5_83)) ((x5_3)) = CLa ((w53)) ((a2)) ((x5_4) - 1 : Int).toNat ++ CLw ((w53)) ((a2)) ((x5_4)) ((0) : Int).toNat by assumption) rfl
      as_aux_lemma =>
      intro m
      induction m using Nat.strongRecOn with
      | _ m ih14 =>
        intro ls σ F_14 A_14 x14_3 x14_5 l14_0 l14_1 l14_2 l14_3 l14_4 l14_5 H hS_14 hA_14  w14_83 ew14_83 j14_0 j14_1 j14_2 j14_3 j14_4 j14_5 j14_6 hm14
        have j14_c : fl ((w14_83)) ((x14_3)) = CLa ((w53)) ((a2)) ((x5_4) - 1 : Int).toNat ++ CLw ((w53)) ((a2)) ((x5_4)) ((x14_5) : Int).toNat := by assumption
        refine Ew_of (pcₚ := 16) (fun _ => x_iload rfl l14_5) ?_
        refine Ew_of (pcₚ := 19) (fun _ => x_sipush (z := 256) rfl (by decide)) ?_
        refine w_icmpge (t := 72) rfl rfl (show inr (x14_5) from j14_1) (show inr (256) from q_3) (fun b2 => ?_) (fun b2 => ?_)
        · have : su (ke ((w53)) ((a2)) ((x5_4))) ((x14_5) : Int).toNat = su (ke ((w53)) ((a2)) ((x5_4))) 256 := by rw [show (x14_5) = 256 by omega]; rfl
          have := kq_s (g := (w53)) (T := (a2)) (w := (x5_4)) (n := 256)
          have : fl ((w14_83)) ((x14_3)) = CLa ((w53)) ((a2)) ((x5_4) + 1 - 1 : Int).toNat := CEL_a j14_c (by omega) (by omega) rfl
          refine Ew_of (pcₚ := 75) (fun _ => x_iinc (len := 3) rfl (l14_4)) ?_
          refine Ew_of (pcₚ := 5) (fun _ => x_goto rfl rfl) ?_
          have : CP ((w14_83)) ((w53)) ((a2)) (((x5_4 + 1))) 0 ((x14_3)) := CP_w (by rw [show (256 : Int) = x14_5 by omega]; assumption) rfl
          exact ih5 _ (by omega) _ σ _ _ (x14_3) ((x5_4 + 1)) (rk_o (l14_0) rfl rfl) (rk_o (l14_1) rfl rfl) (rk_o (l14_2) rfl rfl) (rk_o (l14_3) rfl rfl) (rk_s) H (SF_trans (hS_5) hS_14 (any_sub rfl)) (SA_trans (hA_5) hA_14 (any_subA rfl))  (w14_83) (ew14_83) (show inr (x14_3) from j14_0) (show inr ((x5_4 + 1)) by omega) (show (1) ≤ ((x5_4 + 1)) from q_888 j5_4) (show ((x5_4 + 1)) ≤ (1) ∨ ((x5_4 + 1)) ≤ (((a2) + 1)) from q_1390 b1) (show 1 ≤ ((x5_4 + 1)) from q_888 j5_4) (show (x14_3) = su (kq ((w53)) ((a2)) (((x5_4 + 1)))) 256 by omega) (show CP ((w14_83)) ((w53)) ((a2)) (((x5_4 + 1))) (0) ((x14_3)) by assumption) (show fl ((w14_83)) ((x14_3)) = CLa ((w53)) ((a2)) (((x5_4 + 1)) - 1 : Int).toNat by assumption) rfl
        · have hks := su_s (f := ke ((w53)) ((a2)) ((x5_4))) (i := (x14_5)) (by omega)
          have hke := ke_eq ((w53)) ((a2)) ((x5_4)) ((x14_5))
          have hro := CI_room (w := (x5_4)) (s := (x14_5) + 1) hci (by omega) (by omega)
          have hpp := p2_pos ((x5_4) - 1)
          have hro2 := CI_room (w := (x5_4)) (s := (x14_5)) hci (by omega) (by omega)
          have hgl := hci.2.2.1 ((x14_5)) (by omega) (by omega)
          refine Ew_of (pcₚ := 23) (fun _ => x_iconst rfl) ?_
          refine Ew_of (pcₚ := 25) (fun _ => x_istore rfl) ?_
          have : (0 : Int) < 0 → EXC ((w14_83)) ((x14_5)) ((x14_3)) := fun q => absurd q (by decide)
          have : fl ((w14_83)) ((x14_3)) = (CLa ((w53)) ((a2)) ((x5_4) - 1 : Int).toNat ++ CLw ((w53)) ((a2)) ((x5_4)) ((x14_5) : Int).toNat) ++ List.replicate (0 : Int).toNat ((x14_5)) := by rw [j14_c]; exact (List.append_nil _).symm
          suffices hl25 : ∀ (m : Nat), ∀ (ls : rO) (σ : rS) (F_25 : hF) (A_25 : hA) (x25_3 : Int) (x25_6 : Int), rlook ls 0 = some (.ref (D 6)) → rlook ls 1 = some (.ref (D 53)) → rlook ls 2 = some (I (a2)) → rlook ls 3 = some (I (x25_3)) → rlook ls 4 = some (I (x5_4)) → rlook ls 5 = some (I (x14_5)) → rlook ls 6 = some (I (x25_6)) → HS σ0 σ D N F_25 A_25 → SF [] F_14 F_25 → SA [83] A_14 A_25 → ∀ w25_83 : Int → Int, A_25 83 = w25_83 → (inr (x25_3)) → (inr (x25_6)) → (0 ≤ (x25_6) ∧ (x25_6) ≤ p2 ((x5_4) - 1)) → ((x25_3) = (x14_3) + (x25_6)) → ((x25_6) = 0 ∨ ((w53)) ((x14_5)) = (a2) + 1 - (x5_4)) → (CP ((w25_83)) ((w53)) ((a2)) ((x5_4)) ((x14_5)) ((x25_3))) → (0 < (x25_6) → EXC ((w25_83)) ((x14_5)) ((x25_3))) → (fl ((w25_83)) ((x25_3)) = (CLa ((w53)) ((a2)) ((x5_4) - 1 : Int).toNat ++ CLw ((w53)) ((a2)) ((x5_4)) ((x14_5) : Int).toNat) ++ List.replicate ((x25_6) : Int).toNat ((x14_5))) → (p2 ((x5_4) - 1) - (x25_6)).toNat = m → Ew 430 (d + 0) 25 ls [] σ c s Q from
            hl25 _ _ σ _ _ (x14_3) (0) (rk_o (l14_0) rfl rfl) (rk_o (l14_1) rfl rfl) (rk_o (l14_2) rfl rfl) (rk_o (l14_3) rfl rfl) (rk_o (l14_4) rfl rfl) (rk_o (l14_5) rfl rfl) (rk_s) H (SF_refl) (SA_refl)  (w14_83) (ew14_83) (show inr (x14_3) from j14_0) (show inr (0) from q_2) (show 0 ≤ (0) ∧ (0) ≤ p2 ((x5_4) - 1) by omega) (show (x14_3) = (x14_3) + (0) from q_365) (show (0) = 0 ∨ ((w53)) ((x14_5)) = (a2) + 1 - (x5_4) from q_2196) (j14_5) (show 0 < (0) → EXC ((w14_83)) ((x14_5)) ((x14_3)) by assumption) (show fl ((w14_83)) ((x14_3)) = (CLa ((w53)) ((a2)) ((x5_4) - 1 : Int).toNat ++ CLw ((w53)) ((a2)) ((x5_4)) ((x14_5) : Int).toNat) ++ List.replicate ((0) : Int).toNat ((x14_5)) by assumption) rfl
          as_aux_lemma =>
          intro m
          induction m using Nat.strongRecOn with
          | _ m ih25 =>
            intro ls σ F_25 A_25 x25_3 x25_6 l25_0 l25_1 l25_2 l25_3 l25_4 l25_5 l25_6 H hS_25 hA_25  w25_83 ew25_83 j25_0 j25_1 j25_2 j25_3 j25_4 j25_5 j25_6 j25_7 hm25
            have j25_c : fl ((w25_83)) ((x25_3)) = (CLa ((w53)) ((a2)) ((x5_4) - 1 : Int).toNat ++ CLw ((w53)) ((a2)) ((x5_4)) ((x14_5) : Int).toNat) ++ List.replicate ((x25_6) : Int).toNat ((x14_5)) := by assumption
            obtain ⟨q6, hq6⟩ : ∃ q : Int, q = (x25_6) := ⟨_, rfl⟩
            have j25_cp : CP ((w25_83)) ((w53)) ((a2)) ((x5_4)) ((x14_5)) ((x25_3)) := j25_5
            have j25_ex : 0 < (x25_6) → EXC ((w25_83)) ((x14_5)) ((x25_3)) := j25_6
            have hpb := p2_mono (show (x5_4) - 1 ≤ 11 by omega)
            have : p2 11 = 2048 := by decide
            refine Ew_of (pcₚ := 26) (fun _ => x_aload_n rfl l25_1) ?_
            refine Ew_of (pcₚ := 28) (fun _ => x_iload rfl l25_5) ?_
            refine w_lI H (o := 53) (n := 256) rfl (H.perm 53 rfl) rfl rfl (H.fix 53 rfl rfl) (show 0 ≤ x14_5 ∧ x14_5 < ((256 : Nat) : Int) from q_23 b2 j14_2) (by decide) (fun v3 ev3 qv3 => ?_)
            have qv3 : (0 : Int) ≤ v3 ∧ v3 ≤ 11 := qv3
            have ev3 : (w53) (x14_5) = v3 := (congrFun ((funext (hA_25 53 rfl)).trans ((funext (hA_14 53 rfl)).trans ((funext (hA_5 53 rfl)).trans (ew53)))) (x14_5)).symm.trans ev3
            have hl29 := ev3
            refine Ew_of (pcₚ := 30) (fun _ => x_iload_n rfl l25_2) ?_
            refine Ew_of (pcₚ := 31) (fun _ => x_iconst rfl) ?_
            refine w_iadd rfl ?_
            refine Ew_of (pcₚ := 34) (fun _ => x_iload rfl l25_4) ?_
            refine w_isub rfl ?_
            refine w_icmpne (t := 66) rfl rfl (show inr (v3) from q_1389 qv3) (show inr (((a2 + 1) - x5_4)) from q_2197 b1 h0 j5_4) (fun b4 => ?_) (fun b4 => ?_)
            · refine Ew_of (pcₚ := 69) (fun _ => x_iinc (len := 3) rfl (l25_5)) ?_
              refine Ew_of (pcₚ := 14) (fun _ => x_goto rfl rfl) ?_
              have : CP ((w25_83)) ((w53)) ((a2)) ((x5_4)) (((x14_5 + 1))) ((x25_3)) := CP_end j25_cp rfl (by omega) (by first | exact (fun b => absurd b (by omega)) | exact (fun _ => j25_ex (by omega)))
              have : fl ((w25_83)) ((x25_3)) = CLa ((w53)) ((a2)) ((x5_4) - 1 : Int).toNat ++ CLw ((w53)) ((a2)) ((x5_4)) (((x14_5 + 1)) : Int).toNat := by first | exact CEL_y (k := q6) (by rw [hq6]; exact j25_c) (by omega) (by omega) rfl (by omega) | exact CEL_n (by have h := j25_c; rw [← hq6, show q6 = 0 by omega] at h; rw [h]; exact List.append_nil _) (by omega) rfl (by omega)
              exact ih14 _ (msE hm14 q_26 (q_27 b2)) _ σ _ _ (x25_3) ((x14_5 + 1)) (rk_o (l25_0) rfl rfl) (rk_o (l25_1) rfl rfl) (rk_o (l25_2) rfl rfl) (rk_o (l25_3) rfl rfl) (rk_o (l25_4) rfl rfl) (rk_s) H (SF_trans (hS_14) hS_25 (any_sub rfl)) (SA_trans (hA_14) hA_25 (any_subA rfl))  (w25_83) (ew25_83) (show inr (x25_3) from j25_0) (show inr ((x14_5 + 1)) from q_25 b2 j14_2) (show (0) ≤ ((x14_5 + 1)) from q_14 j14_2) (show ((x14_5 + 1)) ≤ (0) ∨ ((x14_5 + 1)) ≤ ((256)) from q_24 b2) (show (x25_3) = su (kq ((w53)) ((a2)) ((x5_4))) 256 + su (ke ((w53)) ((a2)) ((x5_4))) (((x14_5 + 1)) : Int).toNat by omega) (show CP ((w25_83)) ((w53)) ((a2)) ((x5_4)) (((x14_5 + 1))) ((x25_3)) by assumption) (show fl ((w25_83)) ((x25_3)) = CLa ((w53)) ((a2)) ((x5_4) - 1 : Int).toNat ++ CLw ((w53)) ((a2)) ((x5_4)) (((x14_5 + 1)) : Int).toNat by assumption) rfl
            · refine Ew_of (pcₚ := 40) (fun _ => x_iload rfl l25_6) ?_
              refine Ew_of (pcₚ := 41) (fun _ => x_iconst rfl) ?_
              refine Ew_of (pcₚ := 43) (fun _ => x_iload rfl l25_4) ?_
              refine Ew_of (pcₚ := 44) (fun _ => x_iconst rfl) ?_
              refine w_isub rfl ?_
              refine w_ishl1 rfl (show 0 ≤ (x5_4 - 1) ∧ (x5_4 - 1) ≤ 31 by omega) ?_
              refine w_icmpge (t := 66) rfl rfl (show inr (x25_6) from j25_1) (show inr (p2 ((x5_4 - 1))) by omega) (fun b6 => ?_) (fun b6 => ?_)
              · refine Ew_of (pcₚ := 69) (fun _ => x_iinc (len := 3) rfl (l25_5)) ?_
                refine Ew_of (pcₚ := 14) (fun _ => x_goto rfl rfl) ?_
                have : CP ((w25_83)) ((w53)) ((a2)) ((x5_4)) (((x14_5 + 1))) ((x25_3)) := CP_end j25_cp rfl (by omega) (by first | exact (fun b => absurd b (by omega)) | exact (fun _ => j25_ex (by omega)))
                have : fl ((w25_83)) ((x25_3)) = CLa ((w53)) ((a2)) ((x5_4) - 1 : Int).toNat ++ CLw ((w53)) ((a2)) ((x5_4)) (((x14_5 + 1)) : Int).toNat := by first | exact CEL_y (k := q6) (by rw [hq6]; exact j25_c) (by omega) (by omega) rfl (by omega) | exact CEL_n (by have h := j25_c; rw [← hq6, show q6 = 0 by omega] at h; rw [h]; exact List.append_nil _) (by omega) rfl (by omega)
                exact ih14 _ (msE hm14 q_26 (q_27 b2)) _ σ _ _ (x25_3) ((x14_5 + 1)) (rk_o (l25_0) rfl rfl) (rk_o (l25_1) rfl rfl) (rk_o (l25_2) rfl rfl) (rk_o (l25_3) rfl rfl) (rk_o (l25_4) rfl rfl) (rk_s) H (SF_trans (hS_14) hS_25 (any_sub rfl)) (SA_trans (hA_14) hA_25 (any_subA rfl))  (w25_83) (ew25_83) (show inr (x25_3) from j25_0) (show inr ((x14_5 + 1)) from q_25 b2 j14_2) (show (0) ≤ ((x14_5 + 1)) from q_14 j14_2) (show ((x14_5 + 1)) ≤ (0) ∨ ((x14_5 + 1)) ≤ ((256)) from q_24 b2) (show (x25_3) = su (kq ((w53)) ((a2)) ((x5_4))) 256 + su (ke ((w53)) ((a2)) ((x5_4))) (((x14_5 + 1)) : Int).toNat by omega) (show CP ((w25_83)) ((w53)) ((a2)) ((x5_4)) (((x14_5 + 1))) ((x25_3)) by assumption) (show fl ((w25_83)) ((x25_3)) = CLa ((w53)) ((a2)) ((x5_4) - 1 : Int).toNat ++ CLw ((w53)) ((a2)) ((x5_4)) (((x14_5 + 1)) : Int).toNat by assumption) rfl
              · have : CP (upd1 ((w25_83)) ((x25_3)) ((x14_5))) ((w53)) ((a2)) ((x5_4)) ((x14_5)) ((x25_3) + 1) := CP_upd j25_cp rfl
                have : 0 < (x25_6) + 1 → EXC (upd1 ((w25_83)) ((x25_3)) ((x14_5))) ((x14_5)) ((x25_3) + 1) := fun _ => EXC_new (by omega) rfl
                refine Ew_of (pcₚ := 50) (fun _ => x_aload_n rfl l25_0) ?_
                refine w_gT H (o := 6) (t := 83) rfl (H.perm 6 rfl) rfl rfl rfl rfl rfl rfl ?_
                refine Ew_of (pcₚ := 54) (fun _ => x_iload_n rfl l25_3) ?_
                refine Ew_of (pcₚ := 56) (fun _ => x_iload rfl l25_5) ?_
                refine w_sI H (o := 83) (n := 2048) rfl (H.perm 83 rfl) rfl rfl (H.fix 83 rfl rfl) (show 0 ≤ x25_3 ∧ x25_3 < ((2048 : Nat) : Int) by omega) (by decide) (show (0 : Int) ≤ x14_5 ∧ x14_5 ≤ 255 from q_1394 b2 j14_2) (fun σ H => ?_)
                refine Ew_of (pcₚ := 60) (fun _ => x_iinc (len := 3) rfl (l25_3)) ?_
                refine Ew_of (pcₚ := 63) (fun _ => x_iinc (len := 3) rfl (rk_o (l25_6) rfl rfl)) ?_
                refine Ew_of (pcₚ := 25) (fun _ => x_goto rfl rfl) ?_
                have : fl ((upd1 (w25_83) (x25_3) (x14_5))) (((x25_3 + 1))) = (CLa ((w53)) ((a2)) ((x5_4) - 1 : Int).toNat ++ CLw ((w53)) ((a2)) ((x5_4)) ((x14_5) : Int).toNat) ++ List.replicate (((x25_6 + 1)) : Int).toNat ((x14_5)) := CEL_k j25_c (by omega) (by omega) rfl rfl
                exact ih25 _ (msE hm25 q_16 (q_17 b6)) _ σ _ _ ((x25_3 + 1)) ((x25_6 + 1)) (rk_o (rk_o (l25_0) rfl rfl) rfl rfl) (rk_o (rk_o (l25_1) rfl rfl) rfl rfl) (rk_o (rk_o (l25_2) rfl rfl) rfl rfl) (rk_o (rk_s) rfl rfl) (rk_o (rk_o (l25_4) rfl rfl) rfl rfl) (rk_o (rk_o (l25_5) rfl rfl) rfl rfl) (rk_s) H (hS_25) (SA_upd (hA_25) rfl)  (upd1 (w25_83) (x25_3) (x14_5)) (congrArg (fun q => upd1 q (x25_3) (x14_5)) (ew25_83)) (show inr ((x25_3 + 1)) by omega) (show inr ((x25_6 + 1)) by omega) (show 0 ≤ ((x25_6 + 1)) ∧ ((x25_6 + 1)) ≤ p2 ((x5_4) - 1) from q_1395 b6 j25_2) (show ((x25_3 + 1)) = (x14_3) + ((x25_6 + 1)) from q_541 j25_3) (show ((x25_6 + 1)) = 0 ∨ ((w53)) ((x14_5)) = (a2) + 1 - (x5_4) from q_2198 b4 ev3) (show CP ((upd1 (w25_83) (x25_3) (x14_5))) ((w53)) ((a2)) ((x5_4)) ((x14_5)) (((x25_3 + 1))) by assumption) (show 0 < ((x25_6 + 1)) → EXC ((upd1 (w25_83) (x25_3) (x14_5))) ((x14_5)) (((x25_3 + 1))) by assumption) (show fl ((upd1 (w25_83) (x25_3) (x14_5))) (((x25_3 + 1))) = (CLa ((w53)) ((a2)) ((x5_4) - 1 : Int).toNat ++ CLw ((w53)) ((a2)) ((x5_4)) ((x14_5) : Int).toNat) ++ List.replicate (((x25_6 + 1)) : Int).toNat ((x14_5)) by assumption) rfl

theorem M431 {σ0 σ : rS} {D N : Nat → Nat} {F : hF} {A : hA} {d c s : Nat} {Q : wQ} (H : HS σ0 σ D N F A) {a1 a2 : Int} (u6_12 : Int) (eu6_12 : F 6 12 = u6_12) (u6_35 : Int) (eu6_35 : F 6 35 = u6_35) (w53 : Int → Int) (ew53 : A 53 = w53) (w65 : Int → Int) (ew65 : A 65 = w65) (w69 : Int → Int) (ew69 : A 69 = w69) (w83 : Int → Int) (ew83 : A 83 = w83) (h0 : inr (a1)) (h1 : inr (a2)) (h2 : 0 ≤ (a1) ∧ (a1) ≤ (a2) ∧ (a2) ≤ 16385) (h3 : CX ((w83)) ((w53))) (h4 : ∀ k, (a1) ≤ k → k < (a2) → ((w53)) (((w65)) k) ≠ 0) (h5 : 0 ≤ (u6_35) ∧ (u6_35) ≤ 1000000) (h6 : fl ((w83)) (p2 ((u6_12))) = CELS ((w53)) ((u6_12))) (h7 : CI ((w53)) ((u6_12))) (k : ∀ σ Fₚ Aₚ, HS σ0 σ D N Fₚ Aₚ → SF [(6, 35)] F Fₚ → SA [69] A Aₚ → ∀ y6_35 : Int, Fₚ 6 35 = y6_35 → ∀ v69 : Int → Int, Aₚ 69 = v69 → ((u6_35) ≤ (y6_35) ∧ (y6_35) ≤ (u6_35) + 11 * ((a2) - (a1)) + 8) → (IMP ((u6_35) + 11 * ((a2) - (a1)) + 8 ≤ 192000) (MDS ((w69)) ((u6_35)) ((v69)) ((y6_35)) (stm ((w53)) ((u6_12)) ((w65)) ((a1)) ((a2))))) → ((y6_35) % 8 = 0) → Q none σ c s) : Ew 431 (d + 1) 0 (rargs 0 [.ref (D 6), I a1, I a2]) [] σ c s Q := by
  have r1 : (0 : Int) ≤ u6_12 ∧ u6_12 ≤ 11 := rngE (show (0 : Int) ≤ F 6 12 ∧ F 6 12 ≤ 11 from H.frng 6 12) (show F 6 12 = u6_12 from (eu6_12))
  have r2 : (0 : Int) ≤ u6_35 ∧ u6_35 ≤ 100000000 := rngE (show (0 : Int) ≤ F 6 35 ∧ F 6 35 ≤ 100000000 from H.frng 6 35) (show F 6 35 = u6_35 from (eu6_35))
  have hcw : fl ((w83)) (p2 ((u6_12))) = CELS ((w53)) ((u6_12)) := h6
  have hci : CI ((w53)) ((u6_12)) := h7
  refine Ew_of (pcₚ := 1) (fun _ => x_iload_n rfl rfl) ?_
  refine Ew_of (pcₚ := 2) (fun _ => x_iconst rfl) ?_
  refine w_isub rfl ?_
  refine Ew_of (pcₚ := 4) (fun _ => x_istore_n rfl) ?_
  have : IMP ((u6_35) + 11 * ((a2) - (a1)) + 8 ≤ 192000) (MDA ((w69)) ((u6_35)) ((w69)) ((u6_35)) (smB ((w53)) ((u6_12)) ((w65)) ((a2)) ((a2) - 1 - ((a2 - 1)) : Int).toNat)) := fun _ => by rw [smB_0 (by omega)]; exact MDA_0
  suffices hl4 : ∀ (m : Nat), ∀ (ls : rO) (σ : rS) (F_4 : hF) (A_4 : hA) (x4_3 : Int), rlook ls 0 = some (.ref (D 6)) → rlook ls 1 = some (I (a1)) → rlook ls 3 = some (I (x4_3)) → HS σ0 σ D N F_4 A_4 → SF [(6, 35)] F F_4 → SA [69] A A_4 → ∀ y4_6_35 : Int, F_4 6 35 = y4_6_35 → ∀ w4_69 : Int → Int, A_4 69 = w4_69 → (inr (x4_3)) → ((x4_3) ≤ ((a2 - 1))) → (((a2 - 1)) ≤ (x4_3) ∨ (((a1) - 1)) ≤ (x4_3)) → ((a1) - 1 ≤ (x4_3)) → ((u6_35) ≤ (y4_6_35) ∧ (y4_6_35) ≤ (u6_35) + 11 * ((a2) - 1 - (x4_3))) → (IMP ((u6_35) + 11 * ((a2) - (a1)) + 8 ≤ 192000) (MDA ((w69)) ((u6_35)) ((w4_69)) ((y4_6_35)) (smB ((w53)) ((u6_12)) ((w65)) ((a2)) ((a2) - 1 - (x4_3) : Int).toNat))) → ((x4_3) - (((a1) - 1))).toNat = m → Ew 431 (d + 1) 4 ls [] σ c s Q from
    hl4 _ _ σ _ _ ((a2 - 1)) (rk_o (rfl) rfl rfl) (rk_o (rfl) rfl rfl) (rk_s) H (SF_refl) (SA_refl) (u6_35) ((eu6_35)) (w69) (ew69) (show inr ((a2 - 1)) from q_2202 h2) (show ((a2 - 1)) ≤ ((a2 - 1)) from q_419) (show ((a2 - 1)) ≤ ((a2 - 1)) ∨ (((a1) - 1)) ≤ ((a2 - 1)) from q_2201) (show (a1) - 1 ≤ ((a2 - 1)) from q_2200 h2) (show (u6_35) ≤ (u6_35) ∧ (u6_35) ≤ (u6_35) + 11 * ((a2) - 1 - ((a2 - 1))) from q_2199) (show IMP ((u6_35) + 11 * ((a2) - (a1)) + 8 ≤ 192000) (MDA ((w69)) ((u6_35)) ((w69)) ((u6_35)) (smB ((w53)) ((u6_12)) ((w65)) ((a2)) ((a2) - 1 - ((a2 - 1)) : Int).toNat)) by assumption) rfl
  as_aux_lemma =>
  intro m
  induction m using Nat.strongRecOn with
  | _ m ih4 =>
    intro ls σ F_4 A_4 x4_3 l4_0 l4_1 l4_3 H hS_4 hA_4 y4_6_35 ey4_6_35 w4_69 ew4_69 j4_0 j4_1 j4_2 j4_3 j4_4 j4_5 hm4
    have r3 : (0 : Int) ≤ y4_6_35 ∧ y4_6_35 ≤ 100000000 := rngE (show (0 : Int) ≤ F_4 6 35 ∧ F_4 6 35 ≤ 100000000 from H.frng 6 35) (show F_4 6 35 = y4_6_35 from (ey4_6_35))
    have j4_m : IMP ((u6_35) + 11 * ((a2) - (a1)) + 8 ≤ 192000) (MDA ((w69)) ((u6_35)) ((w4_69)) ((y4_6_35)) (smB ((w53)) ((u6_12)) ((w65)) ((a2)) ((a2) - 1 - (x4_3) : Int).toNat)) := by assumption
    refine Ew_of (pcₚ := 5) (fun _ => x_iload_n rfl l4_3) ?_
    refine Ew_of (pcₚ := 6) (fun _ => x_iload_n rfl l4_1) ?_
    refine w_icmplt (t := 70) rfl rfl (show inr (x4_3) from j4_0) (show inr (a1) from h0) (fun b4 => ?_) (fun b4 => ?_)
    · refine Ew_of (pcₚ := 71) (fun _ => x_aload_n rfl l4_0) ?_
      refine Ew_of (pcₚ := 72) (fun _ => x_iconst rfl) ?_
      refine Ew_of (pcₚ := 73) (fun _ => x_iconst rfl) ?_
      refine w_inv H (o := 6) rfl rfl rfl (H.perm 6 rfl) rfl rfl (by rfl) (M389 H (y4_6_35) ((ey4_6_35)) (w4_69) (ew4_69) (show inr (1) from q_135) (show inr (1) from q_135) (show 0 ≤ (1) ∧ (1) ≤ 31 from q_2204) (show 0 ≤ (y4_6_35) ∧ (y4_6_35) ≤ 90000000 from q_2203 h2 h5 j4_3 j4_4 r3) (fun σ F5 A6 H hS7 hA8 y10 ey11 wq12 ewq13 pz9_0 pz9_1 => ⟨rfl, ?_⟩))
      have r14 : (0 : Int) ≤ y10 ∧ y10 ≤ 100000000 := rngE (show (0 : Int) ≤ F5 6 35 ∧ F5 6 35 ≤ 100000000 from H.frng 6 35) (show F5 6 35 = y10 from (ey11))
      have hp76 : IMP ((u6_35) + 11 * ((a2) - (a1)) + 8 ≤ 192000) (MDA ((w69)) ((u6_35)) ((wq12)) ((y10)) (stm ((w53)) ((u6_12)) ((w65)) ((a1)) ((a2)))) := fun q => by unfold stm; rw [show ((a2) - (a1) : Int).toNat = ((a2) - 1 - (x4_3) : Int).toNat by omega]; exact MDA_t (j4_m q) (pz9_1 (by omega))
      refine Ew_of (pcₚ := 77) (fun _ => x_aload_n rfl l4_0) ?_
      refine w_inv H (o := 6) rfl rfl rfl (H.perm 6 rfl) rfl rfl (by rfl) (M390 H (y10) ((ey11)) (wq12) (ewq13) (show 0 ≤ (y10) ∧ (y10) ≤ 99000000 from q_2205 h2 h5 j4_3 j4_4 pz9_0 r14) (fun σ F15 A16 H hS17 hA18 y20 ey21 pz19_0 pz19_1 pz19_2 => ⟨rfl, ?_⟩))
      have r22 : (0 : Int) ≤ y20 ∧ y20 ≤ 100000000 := rngE (show (0 : Int) ≤ F15 6 35 ∧ F15 6 35 ≤ 100000000 from H.frng 6 35) (show F15 6 35 = y20 from (ey21))
      have : IMP ((u6_35) + 11 * ((a2) - (a1)) + 8 ≤ 192000) (MDS ((w69)) ((u6_35)) ((wq12)) ((y20)) (stm ((w53)) ((u6_12)) ((w65)) ((a1)) ((a2)))) := fun q => MDS_of (hp76 q) pz19_1
      exact w_ret rfl (k σ _ _ H (SF_trans (SF_trans (SF_trans (SF_refl) hS_4 (any_sub rfl)) hS7 (any_sub rfl)) hS17 (any_sub rfl)) (SA_trans (SA_trans (SA_trans (SA_refl) hA_4 (any_subA rfl)) hA8 (any_subA rfl)) hA18 (any_subA rfl)) (y20) ((ey21)) (wq12) ((funext (hA18 69 rfl)).trans (ewq13)) (show (u6_35) ≤ (y20) ∧ (y20) ≤ (u6_35) + 11 * (a2 - a1) + 8 from q_2206 h5 j4_3 j4_4 pz19_0 pz9_0 r22) (show IMP ((u6_35) + 11 * (a2 - a1) + 8 ≤ 192000) (MDS ((w69)) ((u6_35)) ((wq12)) ((y20)) (stm ((w53)) ((u6_12)) ((w65)) (a1) (a2))) by assumption) (show (y20) % 8 = 0 from pz19_2))
    · obtain ⟨ql3, hql3⟩ : ∃ q : Int, q = (x4_3) := ⟨_, rfl⟩
      refine Ew_of (pcₚ := 10) (fun _ => x_aload_n rfl l4_0) ?_
      refine w_gT H (o := 6) (t := 65) rfl (H.perm 6 rfl) rfl rfl rfl rfl rfl rfl ?_
      refine Ew_of (pcₚ := 14) (fun _ => x_iload_n rfl l4_3) ?_
      refine w_lI H (o := 65) (n := 16385) rfl (H.perm 65 rfl) rfl rfl (H.fix 65 rfl rfl) (show 0 ≤ x4_3 ∧ x4_3 < ((16385 : Nat) : Int) from q_2207 b4 h2 j4_4) (by decide) (fun v23 ev23 qv23 => ?_)
      have qv23 : (0 : Int) ≤ v23 ∧ v23 ≤ 255 := qv23
      have ev23 : (w65) (x4_3) = v23 := (congrFun ((funext (hA_4 65 rfl)).trans (ew65)) (x4_3)).symm.trans ev23
      have hl15 : ((w65)) ((a2) - 1 - ((a2) - 1 - ql3)) = (v23) := by rw [show (a2) - 1 - ((a2) - 1 - ql3) = (x4_3) by omega]; exact ev23
      refine Ew_of (pcₚ := 17) (fun _ => x_istore rfl) ?_
      refine Ew_of (pcₚ := 18) (fun _ => x_iconst rfl) ?_
      refine Ew_of (pcₚ := 20) (fun _ => x_istore rfl) ?_
      have : ∀ i, 0 ≤ i → i < (0) → ((w83)) i ≠ (v23) := fun i a b => absurd b (by omega)
      have hco := (h4) ((x4_3)) (by omega) (by omega)
      rw [ev23] at hco
      obtain ⟨m0, hm0⟩ := FC_ex (h3) (s := (v23)) (by omega) (by omega) hco
      suffices hl20 : ∀ (m : Nat), ∀ (ls : rO) (σ : rS) (F_20 : hF) (A_20 : hA) (x20_5 : Int), rlook ls 0 = some (.ref (D 6)) → rlook ls 1 = some (I (a1)) → rlook ls 3 = some (I (x4_3)) → rlook ls 4 = some (I (v23)) → rlook ls 5 = some (I (x20_5)) → HS σ0 σ D N F_20 A_20 → SF [] F_4 F_20 → SA [] A_4 A_20 → (inr (x20_5)) → (0 ≤ (x20_5)) → (∀ i, 0 ≤ i → i < (x20_5) → ((w83)) i ≠ (v23)) → (FC ((w83)) ((v23)) ((x20_5)) m) → Ew 431 (d + 1) 20 ls [] σ c s Q from
        hl20 (m0) _ σ _ _ (0) (rk_o (rk_o (l4_0) rfl rfl) rfl rfl) (rk_o (rk_o (l4_1) rfl rfl) rfl rfl) (rk_o (rk_o (l4_3) rfl rfl) rfl rfl) (rk_o (rk_s) rfl rfl) (rk_s) H (SF_refl) (SA_refl)   (show inr (0) from q_2) (show 0 ≤ (0) from q_1) (show ∀ i, 0 ≤ i → i < (0) → ((w83)) i ≠ (v23) by assumption) (by assumption)
      as_aux_lemma =>
      intro m
      induction m using Nat.strongRecOn with
      | _ m ih20 =>
        intro ls σ F_20 A_20 x20_5 l20_0 l20_1 l20_3 l20_4 l20_5 H hS_20 hA_20   j20_0 j20_1 j20_2 hm20
        have hfl := FC_lt (hm20)
        have j20_n : ∀ i, 0 ≤ i → i < (x20_5) → ((w83)) i ≠ (v23) := by assumption
        refine Ew_of (pcₚ := 21) (fun _ => x_aload_n rfl l20_0) ?_
        refine w_gT H (o := 6) (t := 83) rfl (H.perm 6 rfl) rfl rfl rfl rfl rfl rfl ?_
        refine Ew_of (pcₚ := 26) (fun _ => x_iload rfl l20_5) ?_
        refine w_lI H (o := 83) (n := 2048) rfl (H.perm 83 rfl) rfl rfl (H.fix 83 rfl rfl) (show 0 ≤ x20_5 ∧ x20_5 < ((2048 : Nat) : Int) by omega) (by decide) (fun v24 ev24 qv24 => ?_)
        have qv24 : (0 : Int) ≤ v24 ∧ v24 ≤ 255 := qv24
        have ev24 : (w83) (x20_5) = v24 := (congrFun ((funext (hA_20 83 rfl)).trans ((funext (hA_4 83 rfl)).trans (ew83))) (x20_5)).symm.trans ev24
        have he27 := ev24
        obtain ⟨ql5, hql5⟩ : ∃ q : Int, q = (x20_5) := ⟨_, rfl⟩
        have he27q : ((w83)) ql5 = (v24) := by rw [hql5]; exact he27
        refine Ew_of (pcₚ := 29) (fun _ => x_iload rfl l20_4) ?_
        refine w_icmpeq (t := 38) rfl rfl (show inr (v24) from q_299 qv24) (show inr (v23) from q_299 qv23) (fun b25 => ?_) (fun b25 => ?_)
        · have hcf : (x20_5) = cdF ((w53)) ((u6_12)) ((v23)) := CEF_is hcw hci (by omega) (by omega) hco (by omega) (by rw [he27]; omega) j20_n
          have hgl := hci.2.2.1 ((v23)) (by omega) (by omega)
          have hgT := hci.2.1
          refine Ew_of (pcₚ := 39) (fun _ => x_aload_n rfl l20_0) ?_
          refine Ew_of (pcₚ := 41) (fun _ => x_iload rfl l20_5) ?_
          refine Ew_of (pcₚ := 42) (fun _ => x_aload_n rfl l20_0) ?_
          refine w_gI H (o := 6) (w := u6_12) rfl (H.perm 6 rfl) rfl rfl rfl (fun _ => rfl) (((hS_20 6 12 rfl).trans (hS_4 6 12 rfl)).trans (eu6_12)) ?_
          refine Ew_of (pcₚ := 46) (fun _ => x_aload_n rfl l20_0) ?_
          refine w_gT H (o := 6) (t := 53) rfl (H.perm 6 rfl) rfl rfl rfl rfl rfl rfl ?_
          refine Ew_of (pcₚ := 51) (fun _ => x_iload rfl l20_4) ?_
          refine w_lI H (o := 53) (n := 256) rfl (H.perm 53 rfl) rfl rfl (H.fix 53 rfl rfl) (show 0 ≤ v23 ∧ v23 < ((256 : Nat) : Int) from q_1433 qv23) (by decide) (fun v26 ev26 qv26 => ?_)
          have qv26 : (0 : Int) ≤ v26 ∧ v26 ≤ 11 := qv26
          have ev26 : (w53) (v23) = v26 := (congrFun ((funext (hA_20 53 rfl)).trans ((funext (hA_4 53 rfl)).trans (ew53))) (v23)).symm.trans ev26
          have he52 := ev26
          refine w_isub rfl ?_
          refine w_ishrG rfl ?_
          have g27 : inr (srI (x20_5) ((u6_12 - v26))) := toI_inr _
          obtain ⟨qc, hqc⟩ : ∃ q : Int, q = ((srI (x20_5) ((u6_12 - v26)))) := ⟨_, rfl⟩
          rw [← hqc]
          have gqc : inr qc := by rw [hqc]; first | assumption | omega
          replace hqc : IMP True (qc = ((srI (x20_5) ((u6_12 - v26))))) := fun _ => hqc
          try clear g27
          refine Ew_of (pcₚ := 55) (fun _ => x_aload_n rfl l20_0) ?_
          refine w_gT H (o := 6) (t := 53) rfl (H.perm 6 rfl) rfl rfl rfl rfl rfl rfl ?_
          refine Ew_of (pcₚ := 60) (fun _ => x_iload rfl l20_4) ?_
          refine w_lI H (o := 53) (n := 256) rfl (H.perm 53 rfl) rfl rfl (H.fix 53 rfl rfl) (show 0 ≤ v23 ∧ v23 < ((256 : Nat) : Int) from q_1433 qv23) (by decide) (fun v28 ev28 qv28 => ?_)
          have qv28 : (0 : Int) ≤ v28 ∧ v28 ≤ 11 := qv28
          have ev28 : (w53) (v23) = v28 := (congrFun ((funext (hA_20 53 rfl)).trans ((funext (hA_4 53 rfl)).trans (ew53))) (v23)).symm.trans ev28
          have he61 := ev28
          have hqc1 : qc = cdF ((w53)) ((u6_12)) ((v23)) / p2 ((u6_12) - ((w53)) ((v23))) := (hqc trivial).trans (by rw [srI_g (by omega) (by omega), ← he52, hcf])
          refine w_inv H (o := 6) rfl rfl rfl (H.perm 6 rfl) rfl rfl (by rfl) (M389 H (y4_6_35) (((hS_20 6 35 rfl).trans (ey4_6_35))) (w4_69) ((funext (hA_20 69 rfl)).trans (ew4_69)) (show inr (qc) from gqc) (show inr (v28) from q_1389 qv28) (show 0 ≤ (v28) ∧ (v28) ≤ 31 from q_2209 qv28) (show 0 ≤ (y4_6_35) ∧ (y4_6_35) ≤ 90000000 from q_2208 b4 h2 h5 j4_4 r3) (fun σ F29 A30 H hS31 hA32 y34 ey35 wq36 ewq37 pz33_0 pz33_1 => ⟨rfl, ?_⟩))
          have r38 : (0 : Int) ≤ y34 ∧ y34 ≤ 100000000 := rngE (show (0 : Int) ≤ F29 6 35 ∧ F29 6 35 ≤ 100000000 from H.frng 6 35) (show F29 6 35 = y34 from (ey35))
          have hp64 : IMP ((u6_35) + 11 * ((a2) - (a1)) + 8 ≤ 192000) (MDA ((w69)) ((u6_35)) ((wq36)) ((y34)) (smB ((w53)) ((u6_12)) ((w65)) ((a2)) ((a2) - 1 - ((x4_3) - 1) : Int).toNat)) := fun q => by rw [smB_s (n := (a2) - 1 - ql3) (by omega) (by omega) hl15 hqc1 he61, hql3]; exact MDA_t (j4_m q) (pz33_1 (by omega))
          refine Ew_of (pcₚ := 67) (fun _ => x_iinc (len := 3) rfl (l20_3)) ?_
          refine Ew_of (pcₚ := 4) (fun _ => x_goto rfl rfl) ?_
          have : IMP ((u6_35) + 11 * ((a2) - (a1)) + 8 ≤ 192000) (MDA ((w69)) ((u6_35)) ((wq36)) ((y34)) (smB ((w53)) ((u6_12)) ((w65)) ((a2)) ((a2) - 1 - ((x4_3 + (-1))) : Int).toNat)) := hp64
          exact ih4 _ (by omega) _ σ _ _ ((x4_3 + (-1))) (rk_o (l20_0) rfl rfl) (rk_o (l20_1) rfl rfl) (rk_s) H (SF_trans (SF_trans (hS_4) hS_20 (any_sub rfl)) hS31 (any_sub rfl)) (SA_trans (SA_trans (hA_4) hA_20 (any_subA rfl)) hA32 (any_subA rfl)) (y34) ((ey35)) (wq36) (ewq37) (show inr ((x4_3 + (-1))) from q_2214 b4 h2 j4_0) (show ((x4_3 + (-1))) ≤ ((a2 - 1)) from q_2213 j4_4) (show ((a2 - 1)) ≤ ((x4_3 + (-1))) ∨ (((a1) - 1)) ≤ ((x4_3 + (-1))) from q_2212 b4) (show (a1) - 1 ≤ ((x4_3 + (-1))) from q_2211 b4) (show (u6_35) ≤ (y34) ∧ (y34) ≤ (u6_35) + 11 * ((a2) - 1 - ((x4_3 + (-1)))) from q_2210 j4_4 pz33_0 qv28) (show IMP ((u6_35) + 11 * ((a2) - (a1)) + 8 ≤ 192000) (MDA ((w69)) ((u6_35)) ((wq36)) ((y34)) (smB ((w53)) ((u6_12)) ((w65)) ((a2)) ((a2) - 1 - ((x4_3 + (-1))) : Int).toNat)) by assumption) rfl
        · refine Ew_of (pcₚ := 35) (fun _ => x_iinc (len := 3) rfl (l20_5)) ?_
          refine Ew_of (pcₚ := 20) (fun _ => x_goto rfl rfl) ?_
          have hfm := FC_next (show FC ((w83)) ((v23)) _ m from by assumption) (by omega) (show ((x20_5 + 1)) = _ + 1 from rfl)
          have := hfm.1
          have := hfm.2
          have : ∀ i, 0 ≤ i → i < ((x20_5 + 1)) → ((w83)) i ≠ (v23) := fun i a b => by by_cases q : i = ql5; (rw [q, he27q]; omega); exact j20_n i a (by omega)
          exact ih20 (m - 1) (by omega) _ σ _ _ ((x20_5 + 1)) (rk_o (l20_0) rfl rfl) (rk_o (l20_1) rfl rfl) (rk_o (l20_3) rfl rfl) (rk_o (l20_4) rfl rfl) (rk_s) H (hS_20) (hA_20)   (show inr ((x20_5 + 1)) by omega) (show 0 ≤ ((x20_5 + 1)) from q_14 j20_1) (show ∀ i, 0 ≤ i → i < ((x20_5 + 1)) → ((w83)) i ≠ (v23) by assumption) (by assumption)

theorem M436 {σ0 σ : rS} {D N : Nat → Nat} {F : hF} {A : hA} {d c s : Nat} {Q : wQ} (H : HS σ0 σ D N F A)  (u6_12 : Int) (eu6_12 : F 6 12 = u6_12) (u6_30 : Int) (eu6_30 : F 6 30 = u6_30) (u6_35 : Int) (eu6_35 : F 6 35 = u6_35) (w53 : Int → Int) (ew53 : A 53 = w53) (w65 : Int → Int) (ew65 : A 65 = w65) (w69 : Int → Int) (ew69 : A 69 = w69) (w83 : Int → Int) (ew83 : A 83 = w83) (h0 : 1024 ≤ (u6_30)) (h1 : CX ((w83)) ((w53))) (h2 : ∀ k, 0 ≤ k → k < (u6_30) → ((w53)) (((w65)) k) ≠ 0) (h3 : 0 ≤ (u6_35) ∧ (u6_35) ≤ 1000) (h4 : fl ((w83)) (p2 ((u6_12))) = CELS ((w53)) ((u6_12))) (h5 : CI ((w53)) ((u6_12))) (k : ∀ σ Fₚ Aₚ, HS σ0 σ D N Fₚ Aₚ → SF [(6, 35)] F Fₚ → SA [69] A Aₚ → ∀ y6_35 : Int, Fₚ 6 35 = y6_35 → ∀ v69 : Int → Int, Aₚ 69 = v69 → (MBA ((w69)) ((u6_35)) ((v69)) ((y6_35)) (F4 ((w53)) ((u6_12)) ((w65)) ((u6_30)))) → ((u6_35) ≤ (y6_35) ∧ (y6_35) ≤ (u6_35) + 11 * (u6_30) + 100) → Q none σ c s) : Ew 436 (d + 2) 0 (rargs 0 [.ref (D 6)]) [] σ c s Q := by
  have r1 : (0 : Int) ≤ u6_12 ∧ u6_12 ≤ 11 := rngE (show (0 : Int) ≤ F 6 12 ∧ F 6 12 ≤ 11 from H.frng 6 12) (show F 6 12 = u6_12 from (eu6_12))
  have r2 : (0 : Int) ≤ u6_30 ∧ u6_30 ≤ 16385 := rngE (show (0 : Int) ≤ F 6 30 ∧ F 6 30 ≤ 16385 from H.frng 6 30) (show F 6 30 = u6_30 from (eu6_30))
  have r3 : (0 : Int) ≤ u6_35 ∧ u6_35 ≤ 100000000 := rngE (show (0 : Int) ≤ F 6 35 ∧ F 6 35 ≤ 100000000 from H.frng 6 35) (show F 6 35 = u6_35 from (eu6_35))
  refine Ew_of (pcₚ := 1) (fun _ => x_aload_n rfl rfl) ?_
  refine w_gI H (o := 6) (w := u6_30) rfl (H.perm 6 rfl) rfl rfl rfl (fun _ => rfl) (eu6_30) ?_
  refine Ew_of (pcₚ := 5) (fun _ => x_iconst rfl) ?_
  refine w_iadd rfl ?_
  refine Ew_of (pcₚ := 7) (fun _ => x_iconst rfl) ?_
  refine w_idiv rfl (show inr ((u6_30 + 3)) ∧ 0 ≤ (u6_30 + 3) from q_2118 r2) (show inr (4) ∧ 0 < 4 from q_1074) ?_
  refine Ew_of (pcₚ := 9) (fun _ => x_istore_n rfl) ?_
  have hB : ∀ i, (0 : Int) ≤ (w53) i ∧ (w53) i ≤ 11 := fun i => by have h1 : (0 : Int) ≤ A 53 i ∧ A 53 i ≤ 11 := H.arng 53 i; rw [show A 53 = w53 from ew53] at h1; exact h1
  have hbd : BD ((w53)) := fun i _ _ => hB i
  have hcod : ∀ k, 0 ≤ k → k < (u6_30) → ((w53)) (((w65)) k) ≠ 0 := h2
  refine Ew_of (pcₚ := 10) (fun _ => x_iconst rfl) ?_
  refine Ew_of (pcₚ := 11) (fun _ => x_istore_n rfl) ?_
  have : MBA ((w69)) ((u6_35)) ((w69)) ((u6_35)) (N4 ((w53)) ((w65)) (((u6_30) + 3) / 4) (0 : Int).toNat) := by rw [N4_0 (by omega)]; exact MBA_0
  suffices hl11 : ∀ (m : Nat), ∀ (ls : rO) (σ : rS) (F_11 : hF) (A_11 : hA) (x11_2 : Int), rlook ls 0 = some (.ref (D 6)) → rlook ls 1 = some (I (((u6_30 + 3) / 4))) → rlook ls 2 = some (I (x11_2)) → HS σ0 σ D N F_11 A_11 → SF [(6, 35)] F F_11 → SA [69] A A_11 → ∀ y11_6_35 : Int, F_11 6 35 = y11_6_35 → ∀ w11_69 : Int → Int, A_11 69 = w11_69 → (inr (x11_2)) → ((0) ≤ (x11_2)) → ((x11_2) ≤ (0) ∨ (x11_2) ≤ (3)) → ((y11_6_35) = (u6_35) + 16 * (x11_2)) → (MBA ((w69)) ((u6_35)) ((w11_69)) ((y11_6_35)) (N4 ((w53)) ((w65)) (((u6_30) + 3) / 4) ((x11_2) : Int).toNat)) → ((3) - (x11_2)).toNat = m → Ew 436 (d + 2) 11 ls [] σ c s Q from
    hl11 _ _ σ _ _ (0) (rk_o (rk_o (rfl) rfl rfl) rfl rfl) (rk_o (rk_s) rfl rfl) (rk_s) H (SF_refl) (SA_refl) (u6_35) ((eu6_35)) (w69) (ew69) (show inr (0) from q_2) (show (0) ≤ (0) from q_1) (show (0) ≤ (0) ∨ (0) ≤ (3) from q_1793) (show (u6_35) = (u6_35) + 16 * (0) from q_2217) (show MBA ((w69)) ((u6_35)) ((w69)) ((u6_35)) (N4 ((w53)) ((w65)) (((u6_30) + 3) / 4) ((0) : Int).toNat) by assumption) rfl
  as_aux_lemma =>
  intro m
  induction m using Nat.strongRecOn with
  | _ m ih11 =>
    intro ls σ F_11 A_11 x11_2 l11_0 l11_1 l11_2 H hS_11 hA_11 y11_6_35 ey11_6_35 w11_69 ew11_69 j11_0 j11_1 j11_2 j11_3 j11_4 hm11
    have r4 : (0 : Int) ≤ y11_6_35 ∧ y11_6_35 ≤ 100000000 := rngE (show (0 : Int) ≤ F_11 6 35 ∧ F_11 6 35 ≤ 100000000 from H.frng 6 35) (show F_11 6 35 = y11_6_35 from (ey11_6_35))
    have j11_m : MBA ((w69)) ((u6_35)) ((w11_69)) ((y11_6_35)) (N4 ((w53)) ((w65)) (((u6_30) + 3) / 4) ((x11_2) : Int).toNat) := by assumption
    refine Ew_of (pcₚ := 12) (fun _ => x_iload_n rfl l11_2) ?_
    refine Ew_of (pcₚ := 13) (fun _ => x_iconst rfl) ?_
    refine w_icmpge (t := 44) rfl rfl (show inr (x11_2) from j11_0) (show inr (3) from q_246) (fun b5 => ?_) (fun b5 => ?_)
    · have hn44 : MBA ((w69)) ((u6_35)) ((w11_69)) ((y11_6_35)) (N4 ((w53)) ((w65)) (((u6_30) + 3) / 4) (3 : Int).toNat) := by have h := j11_m; rw [show (x11_2) = (3 : Int) by omega] at h; exact h
      refine Ew_of (pcₚ := 45) (fun _ => x_iconst rfl) ?_
      refine Ew_of (pcₚ := 46) (fun _ => x_istore_n rfl) ?_
      have : MBA ((w69)) ((u6_35)) ((w11_69)) ((y11_6_35)) (N4 ((w53)) ((w65)) (((u6_30) + 3) / 4) (3 : Int).toNat ++ S4 ((w53)) ((u6_12)) ((w65)) (((u6_30) + 3) / 4) (0 : Int).toNat) := by rw [S4_0 (by omega), List.append_nil]; exact hn44
      have : (0 : Int) * (((u6_30 + 3) / 4)) = 0 := Int.zero_mul _
      suffices hl46 : ∀ (m : Nat), ∀ (ls : rO) (σ : rS) (F_46 : hF) (A_46 : hA) (x46_2 : Int), rlook ls 0 = some (.ref (D 6)) → rlook ls 1 = some (I (((u6_30 + 3) / 4))) → rlook ls 2 = some (I (x46_2)) → HS σ0 σ D N F_46 A_46 → SF [(6, 35)] F_11 F_46 → SA [69] A_11 A_46 → ∀ y46_6_35 : Int, F_46 6 35 = y46_6_35 → ∀ w46_69 : Int → Int, A_46 69 = w46_69 → (inr (x46_2)) → ((0) ≤ (x46_2)) → ((x46_2) ≤ (0) ∨ (x46_2) ≤ (3)) → ((y11_6_35) ≤ (y46_6_35) ∧ (y46_6_35) ≤ (y11_6_35) + 11 * ((x46_2) * (((u6_30 + 3) / 4))) + 8 * (x46_2)) → (MBA ((w69)) ((u6_35)) ((w46_69)) ((y46_6_35)) (N4 ((w53)) ((w65)) (((u6_30) + 3) / 4) (3 : Int).toNat ++ S4 ((w53)) ((u6_12)) ((w65)) (((u6_30) + 3) / 4) ((x46_2) : Int).toNat)) → ((3) - (x46_2)).toNat = m → Ew 436 (d + 2) 46 ls [] σ c s Q from
        hl46 _ _ σ _ _ (0) (rk_o (l11_0) rfl rfl) (rk_o (l11_1) rfl rfl) (rk_s) H (SF_refl) (SA_refl) (y11_6_35) ((ey11_6_35)) (w11_69) (ew11_69) (show inr (0) from q_2) (show (0) ≤ (0) from q_1) (show (0) ≤ (0) ∨ (0) ≤ (3) from q_1793) (show (y11_6_35) ≤ (y11_6_35) ∧ (y11_6_35) ≤ (y11_6_35) + 11 * ((0) * (((u6_30 + 3) / 4))) + 8 * (0) from q_2218) (show MBA ((w69)) ((u6_35)) ((w11_69)) ((y11_6_35)) (N4 ((w53)) ((w65)) (((u6_30) + 3) / 4) (3 : Int).toNat ++ S4 ((w53)) ((u6_12)) ((w65)) (((u6_30) + 3) / 4) ((0) : Int).toNat) by assumption) rfl
      as_aux_lemma =>
      intro m
      induction m using Nat.strongRecOn with
      | _ m ih46 =>
        intro ls σ F_46 A_46 x46_2 l46_0 l46_1 l46_2 H hS_46 hA_46 y46_6_35 ey46_6_35 w46_69 ew46_69 j46_0 j46_1 j46_2 j46_3 j46_4 hm46
        have r6 : (0 : Int) ≤ y46_6_35 ∧ y46_6_35 ≤ 100000000 := rngE (show (0 : Int) ≤ F_46 6 35 ∧ F_46 6 35 ≤ 100000000 from H.frng 6 35) (show F_46 6 35 = y46_6_35 from (ey46_6_35))
        have j46_m : MBA ((w69)) ((u6_35)) ((w46_69)) ((y46_6_35)) (N4 ((w53)) ((w65)) (((u6_30) + 3) / 4) (3 : Int).toNat ++ S4 ((w53)) ((u6_12)) ((w65)) (((u6_30) + 3) / 4) ((x46_2) : Int).toNat) := by assumption
        refine Ew_of (pcₚ := 47) (fun _ => x_iload_n rfl l46_2) ?_
        refine Ew_of (pcₚ := 48) (fun _ => x_iconst rfl) ?_
        refine w_icmpge (t := 69) rfl rfl (show inr (x46_2) from j46_0) (show inr (3) from q_246) (fun b7 => ?_) (fun b7 => ?_)
        · have hm5 : (x46_2) * (((u6_30 + 3) / 4)) = 3 * (((u6_30 + 3) / 4)) := by rw [show (x46_2) = 3 by omega]
          have : ∀ k, 3 * (((u6_30 + 3) / 4)) ≤ k → k < (u6_30) → ((w53)) (((w65)) k) ≠ 0 := fun k a b => hcod k (by omega) b
          refine Ew_of (pcₚ := 70) (fun _ => x_aload_n rfl l46_0) ?_
          refine Ew_of (pcₚ := 71) (fun _ => x_iconst rfl) ?_
          refine Ew_of (pcₚ := 72) (fun _ => x_iload_n rfl l46_1) ?_
          refine w_imul rfl ?_
          refine Ew_of (pcₚ := 74) (fun _ => x_aload_n rfl l46_0) ?_
          refine w_gI H (o := 6) (w := u6_30) rfl (H.perm 6 rfl) rfl rfl rfl (fun _ => rfl) (((hS_46 6 30 rfl).trans (hS_11 6 30 rfl)).trans (eu6_30)) ?_
          refine w_inv H (o := 6) rfl rfl rfl (H.perm 6 rfl) rfl rfl (by rfl) (M431 H (u6_12) ((((hS_46 6 12 rfl).trans (hS_11 6 12 rfl)).trans (eu6_12))) (y46_6_35) ((ey46_6_35)) (w53) ((funext (hA_46 53 rfl)).trans ((funext (hA_11 53 rfl)).trans (ew53))) (w65) ((funext (hA_46 65 rfl)).trans ((funext (hA_11 65 rfl)).trans (ew65))) (w46_69) (ew46_69) (w83) ((funext (hA_46 83 rfl)).trans ((funext (hA_11 83 rfl)).trans (ew83))) (show inr ((3 * ((u6_30 + 3) / 4))) from q_2124 r2) (show inr (u6_30) from q_2125 r2) (show 0 ≤ ((3 * ((u6_30 + 3) / 4))) ∧ ((3 * ((u6_30 + 3) / 4))) ≤ (u6_30) ∧ (u6_30) ≤ 16385 by omega) (h1) (show ∀ k, ((3 * ((u6_30 + 3) / 4))) ≤ k → k < (u6_30) → ((w53)) (((w65)) k) ≠ 0 by assumption) (show 0 ≤ (y46_6_35) ∧ (y46_6_35) ≤ 1000000 by omega) (h4) (show CI ((w53)) ((u6_12)) by assumption) (fun σ F8 A9 H hS10 hA11 y13 ey14 wq15 ewq16 pz12_0 pz12_1 pz12_2 => ⟨rfl, ?_⟩))
          have r17 : (0 : Int) ≤ y13 ∧ y13 ≤ 100000000 := rngE (show (0 : Int) ≤ F8 6 35 ∧ F8 6 35 ≤ 100000000 from H.frng 6 35) (show F8 6 35 = y13 from (ey14))
          have : MBA ((w69)) ((u6_35)) ((wq15)) ((y13)) (F4 ((w53)) ((u6_12)) ((w65)) ((u6_30))) := by have h := MBA_t j46_m (MBA_s (pz12_1 (by omega))); rw [show (x46_2) = 3 by omega, List.append_assoc] at h; exact h
          exact w_ret rfl (k σ _ _ H (SF_trans (SF_trans (SF_trans (SF_refl) hS_11 (any_sub rfl)) hS_46 (any_sub rfl)) hS10 (any_sub rfl)) (SA_trans (SA_trans (SA_trans (SA_refl) hA_11 (any_subA rfl)) hA_46 (any_subA rfl)) hA11 (any_subA rfl)) (y13) ((ey14)) (wq15) (ewq16) (show MBA ((w69)) ((u6_35)) ((wq15)) ((y13)) (F4 ((w53)) ((u6_12)) ((w65)) ((u6_30))) by assumption) (show (u6_35) ≤ (y13) ∧ (y13) ≤ (u6_35) + 11 * (u6_30) + 100 by omega))
        · have hm3 := mul_le3 (k := (x46_2)) (c := (((u6_30 + 3) / 4))) (by omega) (by omega) (by omega)
          have hm4 : ((x46_2) + 1) * (((u6_30 + 3) / 4)) ≤ 3 * (((u6_30 + 3) / 4)) := Int.mul_le_mul_of_nonneg_right (by omega) (by omega)
          have : ∀ k, (x46_2) * (((u6_30 + 3) / 4)) ≤ k → k < (x46_2) * (((u6_30 + 3) / 4)) + (((u6_30 + 3) / 4)) → ((w53)) (((w65)) k) ≠ 0 := fun k a b => hcod k (by omega) (by omega)
          refine Ew_of (pcₚ := 52) (fun _ => x_aload_n rfl l46_0) ?_
          refine Ew_of (pcₚ := 53) (fun _ => x_iload_n rfl l46_2) ?_
          refine Ew_of (pcₚ := 54) (fun _ => x_iload_n rfl l46_1) ?_
          refine w_imul rfl ?_
          refine Ew_of (pcₚ := 56) (fun _ => x_iload_n rfl l46_2) ?_
          refine Ew_of (pcₚ := 57) (fun _ => x_iload_n rfl l46_1) ?_
          refine w_imul rfl ?_
          refine Ew_of (pcₚ := 59) (fun _ => x_iload_n rfl l46_1) ?_
          refine w_iadd rfl ?_
          refine w_inv H (o := 6) rfl rfl rfl (H.perm 6 rfl) rfl rfl (by rfl) (M431 H (u6_12) ((((hS_46 6 12 rfl).trans (hS_11 6 12 rfl)).trans (eu6_12))) (y46_6_35) ((ey46_6_35)) (w53) ((funext (hA_46 53 rfl)).trans ((funext (hA_11 53 rfl)).trans (ew53))) (w65) ((funext (hA_46 65 rfl)).trans ((funext (hA_11 65 rfl)).trans (ew65))) (w46_69) (ew46_69) (w83) ((funext (hA_46 83 rfl)).trans ((funext (hA_11 83 rfl)).trans (ew83))) (show inr ((x46_2 * ((u6_30 + 3) / 4))) by omega) (show inr (((x46_2 * ((u6_30 + 3) / 4)) + ((u6_30 + 3) / 4))) by omega) (show 0 ≤ ((x46_2 * ((u6_30 + 3) / 4))) ∧ ((x46_2 * ((u6_30 + 3) / 4))) ≤ (((x46_2 * ((u6_30 + 3) / 4)) + ((u6_30 + 3) / 4))) ∧ (((x46_2 * ((u6_30 + 3) / 4)) + ((u6_30 + 3) / 4))) ≤ 16385 by omega) (h1) (show ∀ k, ((x46_2 * ((u6_30 + 3) / 4))) ≤ k → k < (((x46_2 * ((u6_30 + 3) / 4)) + ((u6_30 + 3) / 4))) → ((w53)) (((w65)) k) ≠ 0 by assumption) (show 0 ≤ (y46_6_35) ∧ (y46_6_35) ≤ 1000000 by omega) (h4) (show CI ((w53)) ((u6_12)) by assumption) (fun σ F18 A19 H hS20 hA21 y23 ey24 wq25 ewq26 pz22_0 pz22_1 pz22_2 => ⟨rfl, ?_⟩))
          have r27 : (0 : Int) ≤ y23 ∧ y23 ≤ 100000000 := rngE (show (0 : Int) ≤ F18 6 35 ∧ F18 6 35 ≤ 100000000 from H.frng 6 35) (show F18 6 35 = y23 from (ey24))
          have hm63 : MBA ((w69)) ((u6_35)) ((wq25)) ((y23)) (N4 ((w53)) ((w65)) (((u6_30) + 3) / 4) (3 : Int).toNat ++ S4 ((w53)) ((u6_12)) ((w65)) (((u6_30) + 3) / 4) ((x46_2) + 1 : Int).toNat) := by rw [S4_s (k := (x46_2)) (m := (x46_2) + 1) (a := (x46_2) * (((u6_30 + 3) / 4))) (b := (x46_2) * (((u6_30 + 3) / 4)) + (((u6_30 + 3) / 4))) (by omega) rfl rfl rfl, ← List.append_assoc]; exact MBA_t j46_m (MBA_s (pz22_1 (by omega)))
          refine Ew_of (pcₚ := 66) (fun _ => x_iinc (len := 3) rfl (l46_2)) ?_
          refine Ew_of (pcₚ := 46) (fun _ => x_goto rfl rfl) ?_
          exact ih46 _ (msE hm46 q_813 (q_814 b7)) _ σ _ _ ((x46_2 + 1)) (rk_o (l46_0) rfl rfl) (rk_o (l46_1) rfl rfl) (rk_s) H (SF_trans (hS_46) hS20 (any_sub rfl)) (SA_trans (hA_46) hA21 (any_subA rfl)) (y23) ((ey24)) (wq25) (ewq26) (show inr ((x46_2 + 1)) from q_1804 b7 j46_1) (show (0) ≤ ((x46_2 + 1)) from q_14 j46_1) (show ((x46_2 + 1)) ≤ (0) ∨ ((x46_2 + 1)) ≤ (3) from q_1803 b7) (show (y11_6_35) ≤ (y23) ∧ (y23) ≤ (y11_6_35) + 11 * (((x46_2 + 1)) * (((u6_30 + 3) / 4))) + 8 * ((x46_2 + 1)) by omega) (hm63) rfl
    · have hm3 := mul_le3 (k := (x11_2)) (c := (((u6_30 + 3) / 4))) (by omega) (by omega) (by omega)
      have hm4 : ((x11_2) + 1) * (((u6_30 + 3) / 4)) ≤ 3 * (((u6_30 + 3) / 4)) := Int.mul_le_mul_of_nonneg_right (by omega) (by omega)
      refine Ew_of (pcₚ := 17) (fun _ => x_aload_n rfl l11_0) ?_
      refine Ew_of (pcₚ := 18) (fun _ => x_aload_n rfl l11_0) ?_
      refine Ew_of (pcₚ := 19) (fun _ => x_aload_n rfl l11_0) ?_
      refine w_gT H (o := 6) (t := 53) rfl (H.perm 6 rfl) rfl rfl rfl rfl rfl rfl ?_
      refine Ew_of (pcₚ := 23) (fun _ => x_iload_n rfl l11_2) ?_
      refine Ew_of (pcₚ := 24) (fun _ => x_iload_n rfl l11_1) ?_
      refine w_imul rfl ?_
      refine Ew_of (pcₚ := 26) (fun _ => x_iload_n rfl l11_2) ?_
      refine Ew_of (pcₚ := 27) (fun _ => x_iload_n rfl l11_1) ?_
      refine w_imul rfl ?_
      refine Ew_of (pcₚ := 29) (fun _ => x_iload_n rfl l11_1) ?_
      refine w_iadd rfl ?_
      refine w_inv H (o := 6) rfl rfl rfl (H.perm 6 rfl) rfl rfl (by rfl) (M424_53 H (w53) ((funext (hA_11 53 rfl)).trans (ew53)) (w65) ((funext (hA_11 65 rfl)).trans (ew65)) (show inr ((x11_2 * ((u6_30 + 3) / 4))) by omega) (show inr (((x11_2 * ((u6_30 + 3) / 4)) + ((u6_30 + 3) / 4))) by omega) (show 0 ≤ ((x11_2 * ((u6_30 + 3) / 4))) ∧ ((x11_2 * ((u6_30 + 3) / 4))) ≤ (((x11_2 * ((u6_30 + 3) / 4)) + ((u6_30 + 3) / 4))) ∧ (((x11_2 * ((u6_30 + 3) / 4)) + ((u6_30 + 3) / 4))) ≤ 16385 by omega) (hbd) (fun z32 σ F28 A29 H hS30 hA31 pz32_0 pz32_1 pz32_2 => ⟨rfl, ?_⟩))
      have e30 : z32 = z1F ((w53)) ((w65)) ((x11_2) * (((u6_30 + 3) / 4))) ((x11_2) * (((u6_30 + 3) / 4)) + (((u6_30 + 3) / 4))) := pz32_2
      refine Ew_of (pcₚ := 35) (fun _ => x_bipush (z := 16) rfl (by decide)) ?_
      refine w_inv H (o := 6) rfl rfl rfl (H.perm 6 rfl) rfl rfl (by rfl) (M389 H (y11_6_35) (((hS30 6 35 rfl).trans (ey11_6_35))) (w11_69) ((funext (hA31 69 rfl)).trans (ew11_69)) (show inr (z32) from pz32_0) (show inr (16) from q_345) (show 0 ≤ (16) ∧ (16) ≤ 31 from q_2220) (show 0 ≤ (y11_6_35) ∧ (y11_6_35) ≤ 90000000 from q_2219 b5 h3 j11_3 r4) (fun σ F33 A34 H hS35 hA36 y38 ey39 wq40 ewq41 pz37_0 pz37_1 => ⟨rfl, ?_⟩))
      have r42 : (0 : Int) ≤ y38 ∧ y38 ≤ 100000000 := rngE (show (0 : Int) ≤ F33 6 35 ∧ F33 6 35 ≤ 100000000 from H.frng 6 35) (show F33 6 35 = y38 from (ey39))
      have hm38 : MBA ((w69)) ((u6_35)) ((wq40)) ((y38)) (N4 ((w53)) ((w65)) (((u6_30) + 3) / 4) ((x11_2) + 1 : Int).toNat) := by rw [N4_s (k := (x11_2)) (m := (x11_2) + 1) (by omega) rfl e30]; exact MBA_t j11_m (MBA_p (pz37_1 (by omega)) (by omega))
      refine Ew_of (pcₚ := 41) (fun _ => x_iinc (len := 3) rfl (l11_2)) ?_
      refine Ew_of (pcₚ := 11) (fun _ => x_goto rfl rfl) ?_
      exact ih11 _ (msE hm11 q_813 (q_814 b5)) _ σ _ _ ((x11_2 + 1)) (rk_o (l11_0) rfl rfl) (rk_o (l11_1) rfl rfl) (rk_s) H (SF_trans (SF_trans (hS_11) hS30 (any_sub rfl)) hS35 (any_sub rfl)) (SA_trans (SA_trans (hA_11) hA31 (any_subA rfl)) hA36 (any_subA rfl)) (y38) ((ey39)) (wq40) (ewq41) (show inr ((x11_2 + 1)) from q_1804 b5 j11_1) (show (0) ≤ ((x11_2 + 1)) from q_14 j11_1) (show ((x11_2 + 1)) ≤ (0) ∨ ((x11_2 + 1)) ≤ (3) from q_1803 b5) (show (y38) = (u6_35) + 16 * ((x11_2 + 1)) from q_2221 j11_3 pz37_0) (hm38) rfl


end
section
/-! 55.ref -/
theorem M418 {σ0 σ : rS} {D N : Nat → Nat} {F : hF} {A : hA} {d c s : Nat} {Q : wQ} (H : HS σ0 σ D N F A) {a1 : Int} (u6_49 : Int) (eu6_49 : F 6 49 = u6_49) (w80 : Int → Int) (ew80 : A 80 = w80) (w81 : Int → Int) (ew81 : A 81 = w81) (h0 : inr (a1)) (h1 : -1 ≤ (a1)) (k : ∀ (z : Int) σ Fₚ Aₚ, HS σ0 σ D N Fₚ Aₚ → SF [] F Fₚ → SA [] A Aₚ → (inr (z)) → ((z) = -1 ∨ 0 ≤ (z) ∧ (z) < (u6_49) ∧ (z) ≠ (a1) ∧ 0 < ((w80)) ((z)) ∧ ((w81)) ((z)) < 0) → (LM ((w80)) ((w81)) ((u6_49)) ((a1)) ((z))) → ((z) = lkF ((w80)) ((w81)) ((a1)) ((u6_49) : Int).toNat) → Q (some (I z)) σ c s) : Ew 418 (d + 0) 0 (rargs 0 [.ref (D 6), I a1]) [] σ c s Q := by
  have r1 : (0 : Int) ≤ u6_49 ∧ u6_49 ≤ 512 := rngE (show (0 : Int) ≤ F 6 49 ∧ F 6 49 ≤ 512 from H.frng 6 49) (show F 6 49 = u6_49 from (eu6_49))
  refine Ew_of (pcₚ := 1) (fun _ => x_iconst rfl) ?_
  refine Ew_of (pcₚ := 2) (fun _ => x_istore_n rfl) ?_
  refine Ew_of (pcₚ := 3) (fun _ => x_iconst rfl) ?_
  refine Ew_of (pcₚ := 4) (fun _ => x_istore_n rfl) ?_
  have : (-1) = lkF ((w80)) ((w81)) ((a1)) (0 : Int).toNat := rfl
  have : LM ((w80)) ((w81)) 0 ((a1)) (-1) := fun k a b => absurd b (by omega)
  suffices hl4 : ∀ (m : Nat), ∀ (ls : rO) (σ : rS) (F_4 : hF) (A_4 : hA) (x4_2 : Int) (x4_3 : Int), rlook ls 0 = some (.ref (D 6)) → rlook ls 1 = some (I (a1)) → rlook ls 2 = some (I (x4_2)) → rlook ls 3 = some (I (x4_3)) → HS σ0 σ D N F_4 A_4 → SF [] F F_4 → SA [] A A_4 → (inr (x4_2)) → (inr (x4_3)) → ((0) ≤ (x4_3)) → ((x4_3) ≤ (0) ∨ (x4_3) ≤ ((u6_49))) → ((x4_2) = -1 ∨ 0 ≤ (x4_2) ∧ (x4_2) < (x4_3) ∧ (x4_2) ≠ (a1) ∧ 0 < ((w80)) ((x4_2)) ∧ ((w81)) ((x4_2)) < 0) → (LM ((w80)) ((w81)) ((x4_3)) ((a1)) ((x4_2))) → ((x4_2) = lkF ((w80)) ((w81)) ((a1)) ((x4_3) : Int).toNat) → (((u6_49)) - (x4_3)).toNat = m → Ew 418 (d + 0) 4 ls [] σ c s Q from
    hl4 _ _ σ _ _ ((-1)) (0) (rk_o (rk_o (rfl) rfl rfl) rfl rfl) (rk_o (rk_o (rfl) rfl rfl) rfl rfl) (rk_o (rk_s) rfl rfl) (rk_s) H (SF_refl) (SA_refl)   (show inr ((-1)) from q_63) (show inr (0) from q_2) (show (0) ≤ (0) from q_1) (show (0) ≤ (0) ∨ (0) ≤ ((u6_49)) from q_5) (show ((-1)) = -1 ∨ 0 ≤ ((-1)) ∧ ((-1)) < (0) ∧ ((-1)) ≠ (a1) ∧ 0 < ((w80)) (((-1))) ∧ ((w81)) (((-1))) < 0 from q_2224) (show LM ((w80)) ((w81)) ((0)) ((a1)) (((-1))) by assumption) (show ((-1)) = lkF ((w80)) ((w81)) ((a1)) ((0) : Int).toNat by assumption) rfl
  as_aux_lemma =>
  intro m
  induction m using Nat.strongRecOn with
  | _ m ih4 =>
    intro ls σ F_4 A_4 x4_2 x4_3 l4_0 l4_1 l4_2 l4_3 H hS_4 hA_4   j4_0 j4_1 j4_2 j4_3 j4_4 j4_5 j4_6 hm4
    have j4_k : (x4_2) = lkF ((w80)) ((w81)) ((a1)) ((x4_3) : Int).toNat := by assumption
    refine Ew_of (pcₚ := 5) (fun _ => x_iload_n rfl l4_3) ?_
    refine Ew_of (pcₚ := 6) (fun _ => x_aload_n rfl l4_0) ?_
    refine w_gI H (o := 6) (w := u6_49) rfl (H.perm 6 rfl) rfl rfl rfl (fun _ => rfl) ((hS_4 6 49 rfl).trans (eu6_49)) ?_
    refine w_icmpge (t := 62) rfl rfl (show inr (x4_3) from j4_1) (show inr (u6_49) from q_2225 r1) (fun b2 => ?_) (fun b2 => ?_)
    · have : (x4_2) = lkF ((w80)) ((w81)) ((a1)) ((u6_49) : Int).toNat := by rw [show (u6_49) = (x4_3) by omega]; exact j4_k
      have : LM ((w80)) ((w81)) ((u6_49)) ((a1)) ((x4_2)) := by rw [show (u6_49) = (x4_3) by omega]; assumption
      refine Ew_of (pcₚ := 63) (fun _ => x_iload_n rfl l4_2) ?_
      exact w_ireturn rfl (k (x4_2) σ _ _ H (SF_trans (SF_refl) hS_4 (any_sub rfl)) (SA_trans (SA_refl) hA_4 (any_subA rfl)) (show inr (x4_2) from j4_0) (show (x4_2) = -1 ∨ 0 ≤ (x4_2) ∧ (x4_2) < (u6_49) ∧ (x4_2) ≠ a1 ∧ 0 < ((w80)) ((x4_2)) ∧ ((w81)) ((x4_2)) < 0 by omega) (show LM ((w80)) ((w81)) ((u6_49)) (a1) ((x4_2)) by assumption) (show (x4_2) = lkF ((w80)) ((w81)) (a1) ((u6_49) : Int).toNat by assumption))
    · have hlk := lkF_s (kn := (w80)) (is_ := (w81)) (but := (a1)) (i := (x4_3)) (by omega) j4_k.symm
      refine Ew_of (pcₚ := 13) (fun _ => x_iload_n rfl l4_3) ?_
      refine Ew_of (pcₚ := 14) (fun _ => x_iload_n rfl l4_1) ?_
      refine w_icmpeq (t := 56) rfl rfl (show inr (x4_3) from j4_1) (show inr (a1) from h0) (fun b3 => ?_) (fun b3 => ?_)
      · refine Ew_of (pcₚ := 59) (fun _ => x_iinc (len := 3) rfl (l4_3)) ?_
        refine Ew_of (pcₚ := 4) (fun _ => x_goto rfl rfl) ?_
        have : (x4_2) = lkF ((w80)) ((w81)) ((a1)) (((x4_3 + 1)) : Int).toNat := by omega
        have : LM ((w80)) ((w81)) (((x4_3 + 1))) ((a1)) ((x4_2)) := LM_next j4_5 rfl (fun a b c => by omega) (fun a => by omega)
        exact ih4 _ (msE hm4 q_16 (q_17 b2)) _ σ _ _ (x4_2) ((x4_3 + 1)) (rk_o (l4_0) rfl rfl) (rk_o (l4_1) rfl rfl) (rk_o (l4_2) rfl rfl) (rk_s) H (hS_4) (hA_4)   (show inr (x4_2) from j4_0) (show inr ((x4_3 + 1)) from q_2226 b2 j4_2 r1) (show (0) ≤ ((x4_3 + 1)) from q_14 j4_2) (show ((x4_3 + 1)) ≤ (0) ∨ ((x4_3 + 1)) ≤ ((u6_49)) from q_13 b2) (show (x4_2) = -1 ∨ 0 ≤ (x4_2) ∧ (x4_2) < ((x4_3 + 1)) ∧ (x4_2) ≠ (a1) ∧ 0 < ((w80)) ((x4_2)) ∧ ((w81)) ((x4_2)) < 0 by omega) (show LM ((w80)) ((w81)) (((x4_3 + 1))) ((a1)) ((x4_2)) by assumption) (show (x4_2) = lkF ((w80)) ((w81)) ((a1)) (((x4_3 + 1)) : Int).toNat by assumption) rfl
      · refine Ew_of (pcₚ := 18) (fun _ => x_aload_n rfl l4_0) ?_
        refine w_gT H (o := 6) (t := 80) rfl (H.perm 6 rfl) rfl rfl rfl rfl rfl rfl ?_
        refine Ew_of (pcₚ := 22) (fun _ => x_iload_n rfl l4_3) ?_
        refine w_lI H (o := 80) (n := 512) rfl (H.perm 80 rfl) rfl rfl (H.fix 80 rfl rfl) (show 0 ≤ x4_3 ∧ x4_3 < ((512 : Nat) : Int) from q_2227 b2 j4_2 r1) (by decide) (fun v4 ev4 qv4 => ?_)
        have qv4 : (-2147483648 : Int) ≤ v4 ∧ v4 ≤ 2147483647 := qv4
        have ev4 : (w80) (x4_3) = v4 := (congrFun ((funext (hA_4 80 rfl)).trans (ew80)) (x4_3)).symm.trans ev4
        refine w_ifle (t := 56) rfl rfl (show inr (v4) from q_18 qv4) (fun b5 => ?_) (fun b5 => ?_)
        · refine Ew_of (pcₚ := 59) (fun _ => x_iinc (len := 3) rfl (l4_3)) ?_
          refine Ew_of (pcₚ := 4) (fun _ => x_goto rfl rfl) ?_
          have : (x4_2) = lkF ((w80)) ((w81)) ((a1)) (((x4_3 + 1)) : Int).toNat := by omega
          have : LM ((w80)) ((w81)) (((x4_3 + 1))) ((a1)) ((x4_2)) := LM_next j4_5 rfl (fun a b c => by omega) (fun a => by omega)
          exact ih4 _ (msE hm4 q_16 (q_17 b2)) _ σ _ _ (x4_2) ((x4_3 + 1)) (rk_o (l4_0) rfl rfl) (rk_o (l4_1) rfl rfl) (rk_o (l4_2) rfl rfl) (rk_s) H (hS_4) (hA_4)   (show inr (x4_2) from j4_0) (show inr ((x4_3 + 1)) from q_2226 b2 j4_2 r1) (show (0) ≤ ((x4_3 + 1)) from q_14 j4_2) (show ((x4_3 + 1)) ≤ (0) ∨ ((x4_3 + 1)) ≤ ((u6_49)) from q_13 b2) (show (x4_2) = -1 ∨ 0 ≤ (x4_2) ∧ (x4_2) < ((x4_3 + 1)) ∧ (x4_2) ≠ (a1) ∧ 0 < ((w80)) ((x4_2)) ∧ ((w81)) ((x4_2)) < 0 by omega) (show LM ((w80)) ((w81)) (((x4_3 + 1))) ((a1)) ((x4_2)) by assumption) (show (x4_2) = lkF ((w80)) ((w81)) ((a1)) (((x4_3 + 1)) : Int).toNat by assumption) rfl
        · refine Ew_of (pcₚ := 27) (fun _ => x_aload_n rfl l4_0) ?_
          refine w_gT H (o := 6) (t := 81) rfl (H.perm 6 rfl) rfl rfl rfl rfl rfl rfl ?_
          refine Ew_of (pcₚ := 31) (fun _ => x_iload_n rfl l4_3) ?_
          refine w_lI H (o := 81) (n := 512) rfl (H.perm 81 rfl) rfl rfl (H.fix 81 rfl rfl) (show 0 ≤ x4_3 ∧ x4_3 < ((512 : Nat) : Int) from q_2227 b2 j4_2 r1) (by decide) (fun v6 ev6 qv6 => ?_)
          have qv6 : (-2147483648 : Int) ≤ v6 ∧ v6 ≤ 2147483647 := qv6
          have ev6 : (w81) (x4_3) = v6 := (congrFun ((funext (hA_4 81 rfl)).trans (ew81)) (x4_3)).symm.trans ev6
          refine w_ifge (t := 56) rfl rfl (show inr (v6) from q_18 qv6) (fun b7 => ?_) (fun b7 => ?_)
          · refine Ew_of (pcₚ := 59) (fun _ => x_iinc (len := 3) rfl (l4_3)) ?_
            refine Ew_of (pcₚ := 4) (fun _ => x_goto rfl rfl) ?_
            have : (x4_2) = lkF ((w80)) ((w81)) ((a1)) (((x4_3 + 1)) : Int).toNat := by omega
            have : LM ((w80)) ((w81)) (((x4_3 + 1))) ((a1)) ((x4_2)) := LM_next j4_5 rfl (fun a b c => by omega) (fun a => by omega)
            exact ih4 _ (msE hm4 q_16 (q_17 b2)) _ σ _ _ (x4_2) ((x4_3 + 1)) (rk_o (l4_0) rfl rfl) (rk_o (l4_1) rfl rfl) (rk_o (l4_2) rfl rfl) (rk_s) H (hS_4) (hA_4)   (show inr (x4_2) from j4_0) (show inr ((x4_3 + 1)) from q_2226 b2 j4_2 r1) (show (0) ≤ ((x4_3 + 1)) from q_14 j4_2) (show ((x4_3 + 1)) ≤ (0) ∨ ((x4_3 + 1)) ≤ ((u6_49)) from q_13 b2) (show (x4_2) = -1 ∨ 0 ≤ (x4_2) ∧ (x4_2) < ((x4_3 + 1)) ∧ (x4_2) ≠ (a1) ∧ 0 < ((w80)) ((x4_2)) ∧ ((w81)) ((x4_2)) < 0 by omega) (show LM ((w80)) ((w81)) (((x4_3 + 1))) ((a1)) ((x4_2)) by assumption) (show (x4_2) = lkF ((w80)) ((w81)) ((a1)) (((x4_3 + 1)) : Int).toNat by assumption) rfl
          · refine Ew_of (pcₚ := 36) (fun _ => x_iload_n rfl l4_2) ?_
            refine w_iflt (t := 54) rfl rfl (show inr (x4_2) from j4_0) (fun b8 => ?_) (fun b8 => ?_)
            · refine Ew_of (pcₚ := 55) (fun _ => x_iload_n rfl l4_3) ?_
              refine Ew_of (pcₚ := 56) (fun _ => x_istore_n rfl) ?_
              refine Ew_of (pcₚ := 59) (fun _ => x_iinc (len := 3) rfl (rk_o (l4_3) rfl rfl)) ?_
              refine Ew_of (pcₚ := 4) (fun _ => x_goto rfl rfl) ?_
              have : (x4_3) = lkF ((w80)) ((w81)) ((a1)) (((x4_3 + 1)) : Int).toNat := by omega
              have : LM ((w80)) ((w81)) (((x4_3 + 1))) ((a1)) ((x4_3)) := LM_next j4_5 rfl (fun a b c => by omega) (fun a => by omega)
              exact ih4 _ (msE hm4 q_16 (q_17 b2)) _ σ _ _ (x4_3) ((x4_3 + 1)) (rk_o (rk_o (l4_0) rfl rfl) rfl rfl) (rk_o (rk_o (l4_1) rfl rfl) rfl rfl) (rk_o (rk_s) rfl rfl) (rk_s) H (hS_4) (hA_4)   (show inr (x4_3) from j4_1) (show inr ((x4_3 + 1)) from q_2226 b2 j4_2 r1) (show (0) ≤ ((x4_3 + 1)) from q_14 j4_2) (show ((x4_3 + 1)) ≤ (0) ∨ ((x4_3 + 1)) ≤ ((u6_49)) from q_13 b2) (show (x4_3) = -1 ∨ 0 ≤ (x4_3) ∧ (x4_3) < ((x4_3 + 1)) ∧ (x4_3) ≠ (a1) ∧ 0 < ((w80)) ((x4_3)) ∧ ((w81)) ((x4_3)) < 0 from q_2228 b3 b5 b7 ev4 ev6 j4_2) (show LM ((w80)) ((w81)) (((x4_3 + 1))) ((a1)) ((x4_3)) by assumption) (show (x4_3) = lkF ((w80)) ((w81)) ((a1)) (((x4_3 + 1)) : Int).toNat by assumption) rfl
            · refine Ew_of (pcₚ := 40) (fun _ => x_aload_n rfl l4_0) ?_
              refine w_gT H (o := 6) (t := 80) rfl (H.perm 6 rfl) rfl rfl rfl rfl rfl rfl ?_
              refine Ew_of (pcₚ := 44) (fun _ => x_iload_n rfl l4_3) ?_
              refine w_lI H (o := 80) (n := 512) rfl (H.perm 80 rfl) rfl rfl (H.fix 80 rfl rfl) (show 0 ≤ x4_3 ∧ x4_3 < ((512 : Nat) : Int) from q_2227 b2 j4_2 r1) (by decide) (fun v9 ev9 qv9 => ?_)
              have qv9 : (-2147483648 : Int) ≤ v9 ∧ v9 ≤ 2147483647 := qv9
              have ev9 : (w80) (x4_3) = v9 := (congrFun ((funext (hA_4 80 rfl)).trans (ew80)) (x4_3)).symm.trans ev9
              refine Ew_of (pcₚ := 46) (fun _ => x_aload_n rfl l4_0) ?_
              refine w_gT H (o := 6) (t := 80) rfl (H.perm 6 rfl) rfl rfl rfl rfl rfl rfl ?_
              refine Ew_of (pcₚ := 50) (fun _ => x_iload_n rfl l4_2) ?_
              refine w_lI H (o := 80) (n := 512) rfl (H.perm 80 rfl) rfl rfl (H.fix 80 rfl rfl) (show 0 ≤ x4_2 ∧ x4_2 < ((512 : Nat) : Int) from q_2229 b2 b8 j4_4 r1) (by decide) (fun v10 ev10 qv10 => ?_)
              have qv10 : (-2147483648 : Int) ≤ v10 ∧ v10 ≤ 2147483647 := qv10
              have ev10 : (w80) (x4_2) = v10 := (congrFun ((funext (hA_4 80 rfl)).trans (ew80)) (x4_2)).symm.trans ev10
              refine w_icmpge (t := 56) rfl rfl (show inr (v9) from q_18 qv9) (show inr (v10) from q_18 qv10) (fun b11 => ?_) (fun b11 => ?_)
              · refine Ew_of (pcₚ := 59) (fun _ => x_iinc (len := 3) rfl (l4_3)) ?_
                refine Ew_of (pcₚ := 4) (fun _ => x_goto rfl rfl) ?_
                have : (x4_2) = lkF ((w80)) ((w81)) ((a1)) (((x4_3 + 1)) : Int).toNat := by omega
                have : LM ((w80)) ((w81)) (((x4_3 + 1))) ((a1)) ((x4_2)) := LM_next j4_5 rfl (fun a b c => by omega) (fun a => by omega)
                exact ih4 _ (msE hm4 q_16 (q_17 b2)) _ σ _ _ (x4_2) ((x4_3 + 1)) (rk_o (l4_0) rfl rfl) (rk_o (l4_1) rfl rfl) (rk_o (l4_2) rfl rfl) (rk_s) H (hS_4) (hA_4)   (show inr (x4_2) from j4_0) (show inr ((x4_3 + 1)) from q_2226 b2 j4_2 r1) (show (0) ≤ ((x4_3 + 1)) from q_14 j4_2) (show ((x4_3 + 1)) ≤ (0) ∨ ((x4_3 + 1)) ≤ ((u6_49)) from q_13 b2) (show (x4_2) = -1 ∨ 0 ≤ (x4_2) ∧ (x4_2) < ((x4_3 + 1)) ∧ (x4_2) ≠ (a1) ∧ 0 < ((w80)) ((x4_2)) ∧ ((w81)) ((x4_2)) < 0 by omega) (show LM ((w80)) ((w81)) (((x4_3 + 1))) ((a1)) ((x4_2)) by assumption) (show (x4_2) = lkF ((w80)) ((w81)) ((a1)) (((x4_3 + 1)) : Int).toNat by assumption) rfl
              · refine Ew_of (pcₚ := 55) (fun _ => x_iload_n rfl l4_3) ?_
                refine Ew_of (pcₚ := 56) (fun _ => x_istore_n rfl) ?_
                refine Ew_of (pcₚ := 59) (fun _ => x_iinc (len := 3) rfl (rk_o (l4_3) rfl rfl)) ?_
                refine Ew_of (pcₚ := 4) (fun _ => x_goto rfl rfl) ?_
                have : (x4_3) = lkF ((w80)) ((w81)) ((a1)) (((x4_3 + 1)) : Int).toNat := by omega
                have : LM ((w80)) ((w81)) (((x4_3 + 1))) ((a1)) ((x4_3)) := LM_next j4_5 rfl (fun a b c => by omega) (fun a => by omega)
                exact ih4 _ (msE hm4 q_16 (q_17 b2)) _ σ _ _ (x4_3) ((x4_3 + 1)) (rk_o (rk_o (l4_0) rfl rfl) rfl rfl) (rk_o (rk_o (l4_1) rfl rfl) rfl rfl) (rk_o (rk_s) rfl rfl) (rk_s) H (hS_4) (hA_4)   (show inr (x4_3) from j4_1) (show inr ((x4_3 + 1)) from q_2226 b2 j4_2 r1) (show (0) ≤ ((x4_3 + 1)) from q_14 j4_2) (show ((x4_3 + 1)) ≤ (0) ∨ ((x4_3 + 1)) ≤ ((u6_49)) from q_13 b2) (show (x4_3) = -1 ∨ 0 ≤ (x4_3) ∧ (x4_3) < ((x4_3 + 1)) ∧ (x4_3) ≠ (a1) ∧ 0 < ((w80)) ((x4_3)) ∧ ((w81)) ((x4_3)) < 0 from q_2228 b3 b5 b7 ev4 ev6 j4_2) (show LM ((w80)) ((w81)) (((x4_3 + 1))) ((a1)) ((x4_3)) by assumption) (show (x4_3) = lkF ((w80)) ((w81)) ((a1)) (((x4_3 + 1)) : Int).toNat by assumption) rfl

theorem M419 {σ0 σ : rS} {D N : Nat → Nat} {F : hF} {A : hA} {d c s : Nat} {Q : wQ} (H : HS σ0 σ D N F A)  (w79 : Int → Int) (ew79 : A 79 = w79) (h0 : ∀ i, (0 : Int) ≤ i → i < 256 → 0 ≤ ((w79)) i) (h1 : su (fun i => ((w79)) i) 256 ≤ 16385) (h2 : TWO ((w79))) (k : ∀ (z : Int) σ Fₚ Aₚ, HS σ0 σ D N Fₚ Aₚ → SF [(6, 49)] F Fₚ → SA [80, 81, 82] A Aₚ → ∀ v82 : Int → Int, Aₚ 82 = v82 → (inr (z)) → (0 ≤ (z) ∧ (z) ≤ 600) → ((z) = 0 ∨ GF ((z) : Int).toNat ≤ su (fun i => ((w79)) i) 256) → ((z) ≤ 11 → CI ((v82)) ((z))) → ((z) ≤ 11 → ∀ k, (0 : Int) ≤ k → k < 256 → 0 < ((w79)) k → 1 ≤ ((v82)) k) → (∀ i, (0 : Int) ≤ i → i < 256 → ((v82)) i = dpH ((w79)) i) → ((z) = mxF ((w79))) → Q (some (I z)) σ c s) : Ew 419 (d + 1) 0 (rargs 0 [.ref (D 6)]) [] σ c s Q := by
  refine Ew_of (pcₚ := 1) (fun _ => x_aload_n rfl rfl) ?_
  refine Ew_of (pcₚ := 4) (fun _ => x_sipush (z := 256) rfl (by decide)) ?_
  refine w_pI H (o := 6) rfl rfl (H.perm 6 rfl) rfl rfl rfl (fun _ => rfl) rfl (show (0 : Int) ≤ 256 ∧ 256 ≤ 512 from q_2230) (fun σ H => ?_)
  refine Ew_of (pcₚ := 8) (fun _ => x_iconst rfl) ?_
  refine Ew_of (pcₚ := 9) (fun _ => x_istore_n rfl) ?_
  have : ∀ i, (0 : Int) ≤ i → i < 0 → ((A 80)) i = ((w79)) i := fun i a b => absurd b (by omega)
  have : ∀ i, (0 : Int) ≤ i → i < 0 → ((A 81)) (0 + i) = -1 := fun i a b => absurd b (by omega)
  suffices hl9 : ∀ (m : Nat), ∀ (ls : rO) (σ : rS) (F_9 : hF) (A_9 : hA) (x9_1 : Int), rlook ls 0 = some (.ref (D 6)) → rlook ls 1 = some (I (x9_1)) → HS σ0 σ D N F_9 A_9 → SF [] (updF F 6 49 (256)) F_9 → SA [80, 81] A A_9 → ∀ w9_80 : Int → Int, A_9 80 = w9_80 → ∀ w9_81 : Int → Int, A_9 81 = w9_81 → (inr (x9_1)) → ((0) ≤ (x9_1)) → ((x9_1) ≤ (0) ∨ (x9_1) ≤ ((256))) → (∀ i, 0 ≤ i → i < (x9_1) → ((w9_80)) i = ((w79)) i) → (∀ i, 0 ≤ i → i < (x9_1) → ((w9_81)) (0 + i) = -1) → (((256)) - (x9_1)).toNat = m → Ew 419 (d + 1) 9 ls [] σ c s Q from
    hl9 _ _ σ _ _ (0) (rk_o (rfl) rfl rfl) (rk_s) H (SF_refl) (SA_refl)  (A 80) (rfl) (A 81) (rfl) (show inr (0) from q_2) (show (0) ≤ (0) from q_1) (show (0) ≤ (0) ∨ (0) ≤ ((256)) from q_0) (show ∀ i, 0 ≤ i → i < (0) → ((A 80)) i = ((w79)) i by assumption) (show ∀ i, 0 ≤ i → i < (0) → ((A 81)) (0 + i) = -1 by assumption) rfl
  as_aux_lemma =>
  intro m
  induction m using Nat.strongRecOn with
  | _ m ih9 =>
    intro ls σ F_9 A_9 x9_1 l9_0 l9_1 H hS_9 hA_9  w9_80 ew9_80 w9_81 ew9_81 j9_0 j9_1 j9_2 j9_3 j9_4 hm9
    refine Ew_of (pcₚ := 10) (fun _ => x_iload_n rfl l9_1) ?_
    refine Ew_of (pcₚ := 13) (fun _ => x_sipush (z := 256) rfl (by decide)) ?_
    refine w_icmpge (t := 41) rfl rfl (show inr (x9_1) from j9_0) (show inr (256) from q_3) (fun b1 => ?_) (fun b1 => ?_)
    · have hkh : ∀ i, (0 : Int) ≤ i → i < 256 → ((w9_80)) i = ((w79)) i := fun i a b => j9_3 i a (by omega)
      have hih : ∀ i, (0 : Int) ≤ i → i < 256 → ((w9_81)) i = -1 := fun i a b => by have := j9_4 i a (by omega); rw [Int.zero_add] at this; exact this
      have htr0 := TR_0 (kn := (w9_80)) (is_ := (w9_81)) (fun k a b => by rw [hkh k a b]; exact (h0) k a b) hih
      have htr1 : TR ((w9_80)) ((w9_81)) 256 (su (fun i => ((w79)) i) 256) := by have e : su ((w9_80)) 256 = su (fun i => ((w79)) i) 256 := su_congr (fun i a b => hkh i a (by omega)); rw [e] at htr0; exact htr0
      refine Ew_of (pcₚ := 42) (fun _ => x_aload_n rfl l9_0) ?_
      refine Ew_of (pcₚ := 43) (fun _ => x_iconst rfl) ?_
      refine w_inv H (o := 6) rfl rfl rfl (H.perm 6 rfl) rfl rfl (by rfl) (M418 H (256) ((hS_9 6 49 rfl)) (w9_80) (ew9_80) (w9_81) (ew9_81) (show inr ((-1)) from q_63) (show -1 ≤ ((-1)) from q_2231) (fun z6 σ F2 A3 H hS4 hA5 pz6_0 pz6_1 pz6_2 pz6_3 => ⟨rfl, ?_⟩))
      refine Ew_of (pcₚ := 47) (fun _ => x_istore_n rfl) ?_
      refine Ew_of (pcₚ := 48) (fun _ => x_aload_n rfl (rk_o (l9_0) rfl rfl)) ?_
      refine Ew_of (pcₚ := 49) (fun _ => x_iload_n rfl rk_s) ?_
      refine w_inv H (o := 6) rfl rfl rfl (H.perm 6 rfl) rfl rfl (by rfl) (M418 H (256) (((hS4 6 49 rfl).trans (hS_9 6 49 rfl))) (w9_80) ((funext (hA5 80 rfl)).trans (ew9_80)) (w9_81) ((funext (hA5 81 rfl)).trans (ew9_81)) (show inr (z6) from pz6_0) (show -1 ≤ (z6) from q_2232 pz6_1) (fun z11 σ F7 A8 H hS9 hA10 pz11_0 pz11_1 pz11_2 pz11_3 => ⟨rfl, ?_⟩))
      refine Ew_of (pcₚ := 53) (fun _ => x_istore_n rfl) ?_
      have hht0 : HTA ((w79)) ((w9_80)) ((w9_81)) 256 := HTA_0 hkh hih
      have hlk1 := pz6_3
      have hlk2 := pz11_3
      have hlm1 : LM ((w9_80)) ((w9_81)) ((256)) (-1) ((z6)) := pz6_2
      have hlm2 : LM ((w9_80)) ((w9_81)) ((256)) ((z6)) ((z11)) := pz11_2
      have htw : TWO ((w79)) := h2
      have h20 : 0 ≤ (z11) := by obtain ⟨x, y, x0, x1, y0, y1, xy, hx, hy⟩ := htw; by_cases e : x = (z6); exact (hlm2 y y0 (by omega) (fun q => xy (by omega)) (by rw [j9_3 y y0 (by omega)]; exact hy) (by have := j9_4 y y0 (by omega); rw [Int.zero_add] at this; omega)).1; exact (hlm2 x x0 (by omega) e (by rw [j9_3 x x0 (by omega)]; exact hx) (by have := j9_4 x x0 (by omega); rw [Int.zero_add] at this; omega)).1
      have h10 : 0 ≤ (z6) := by obtain ⟨x, y, x0, x1, y0, y1, xy, hx, hy⟩ := htw; exact (hlm1 x x0 (by omega) (by omega) (by rw [j9_3 x x0 (by omega)]; exact hx) (by have := j9_4 x x0 (by omega); rw [Int.zero_add] at this; omega)).1
      suffices hl53 : ∀ (m : Nat), ∀ (ls : rO) (σ : rS) (F_53 : hF) (A_53 : hA) (x53_1 : Int) (x53_2 : Int), rlook ls 0 = some (.ref (D 6)) → rlook ls 1 = some (I (x53_1)) → rlook ls 2 = some (I (x53_2)) → HS σ0 σ D N F_53 A_53 → SF [(6, 49)] F7 F_53 → SA [80, 81] A8 A_53 → ∀ y53_6_49 : Int, F_53 6 49 = y53_6_49 → ∀ w53_80 : Int → Int, A_53 80 = w53_80 → ∀ w53_81 : Int → Int, A_53 81 = w53_81 → (inr (x53_1)) → (inr (x53_2)) → (HTA ((w79)) ((w53_80)) ((w53_81)) ((y53_6_49))) → ((x53_1) = lkF ((w53_80)) ((w53_81)) (-1) ((y53_6_49) : Int).toNat) → ((x53_2) = lkF ((w53_80)) ((w53_81)) ((x53_1)) ((y53_6_49) : Int).toNat) → (-1 ≤ (x53_1) ∧ -1 ≤ (x53_2)) → ((x53_2) < 0 ∨ 0 ≤ (x53_1) ∧ (x53_1) < (y53_6_49) ∧ 0 < ((w53_80)) ((x53_1)) ∧ ((w53_81)) ((x53_1)) < 0 ∧ 0 ≤ (x53_2) ∧ (x53_2) < (y53_6_49) ∧ (x53_2) ≠ (x53_1) ∧ 0 < ((w53_80)) ((x53_2)) ∧ ((w53_81)) ((x53_2)) < 0) → (TR ((w53_80)) ((w53_81)) ((y53_6_49)) (su (fun i => ((w79)) i) 256)) → (LM ((w53_80)) ((w53_81)) ((y53_6_49)) (-1) ((x53_1))) → (LM ((w53_80)) ((w53_81)) ((y53_6_49)) ((x53_1)) ((x53_2))) → (0 ≤ (x53_2) ∨ 257 ≤ (y53_6_49)) → (∀ i, (0 : Int) ≤ i → i < 256 → ((w53_80)) i = ((w79)) i) → (256 ≤ (y53_6_49)) → ((x53_1) = -1 ∨ 0 ≤ (x53_1) ∧ (x53_1) < (y53_6_49) ∧ 0 < ((w53_80)) ((x53_1)) ∧ ((w53_81)) ((x53_1)) < 0) → (512 - (y53_6_49)).toNat = m → Ew 419 (d + 1) 53 ls [] σ c s Q from
        hl53 _ _ σ _ _ (z6) (z11) (rk_o (rk_o (l9_0) rfl rfl) rfl rfl) (rk_o (rk_s) rfl rfl) (rk_s) H (SF_refl) (SA_refl) (256) ((((hS9 6 49 rfl).trans (hS4 6 49 rfl)).trans (hS_9 6 49 rfl))) (w9_80) ((funext (hA10 80 rfl)).trans ((funext (hA5 80 rfl)).trans (ew9_80))) (w9_81) ((funext (hA10 81 rfl)).trans ((funext (hA5 81 rfl)).trans (ew9_81))) (show inr (z6) from pz6_0) (show inr (z11) from pz11_0) (hht0) (show (z6) = lkF ((w9_80)) ((w9_81)) (-1) ((256) : Int).toNat by assumption) (show (z11) = lkF ((w9_80)) ((w9_81)) ((z6)) ((256) : Int).toNat by assumption) (show -1 ≤ (z6) ∧ -1 ≤ (z11) from q_2235 h10 h20) (show (z11) < 0 ∨ 0 ≤ (z6) ∧ (z6) < (256) ∧ 0 < ((w9_80)) ((z6)) ∧ ((w9_81)) ((z6)) < 0 ∧ 0 ≤ (z11) ∧ (z11) < (256) ∧ (z11) ≠ (z6) ∧ 0 < ((w9_80)) ((z11)) ∧ ((w9_81)) ((z11)) < 0 by omega) (htr1) (hlm1) (hlm2) (show 0 ≤ (z11) ∨ 257 ≤ (256) from q_2234 h20) (hkh) (show 256 ≤ (256) from q_2233) (show (z6) = -1 ∨ 0 ≤ (z6) ∧ (z6) < (256) ∧ 0 < ((w9_80)) ((z6)) ∧ ((w9_81)) ((z6)) < 0 by omega) rfl
      as_aux_lemma =>
      intro m
      induction m using Nat.strongRecOn with
      | _ m ih53 =>
        intro ls σ F_53 A_53 x53_1 x53_2 l53_0 l53_1 l53_2 H hS_53 hA_53 y53_6_49 ey53_6_49 w53_80 ew53_80 w53_81 ew53_81 j53_0 j53_1 j53_2 j53_3 j53_4 j53_5 j53_6 j53_7 j53_8 j53_9 j53_10 j53_11 j53_12 j53_13 hm53
        have r12 : (0 : Int) ≤ y53_6_49 ∧ y53_6_49 ≤ 512 := rngE (show (0 : Int) ≤ F_53 6 49 ∧ F_53 6 49 ≤ 512 from H.frng 6 49) (show F_53 6 49 = y53_6_49 from (ey53_6_49))
        have j53_h : HTA ((w79)) ((w53_80)) ((w53_81)) ((y53_6_49)) := j53_2
        have j53_1 : (x53_1) = lkF ((w53_80)) ((w53_81)) (-1) ((y53_6_49) : Int).toNat := by assumption
        have j53_2 : (x53_2) = lkF ((w53_80)) ((w53_81)) ((x53_1)) ((y53_6_49) : Int).toNat := by assumption
        refine Ew_of (pcₚ := 54) (fun _ => x_iload_n rfl l53_2) ?_
        refine w_iflt (t := 134) rfl rfl (show inr (x53_2) from q_2236 j53_10 j53_5 j53_6 r12) (fun b13 => ?_) (fun b13 => ?_)
        · obtain ⟨kc_, ic_, hHT, hag_⟩ := HTA_e j53_h (by omega) j53_1 j53_2 (by omega)
          have hroot := TR_unique (j53_7) (by omega) (j53_9) (by omega)
          refine Ew_of (pcₚ := 135) (fun _ => x_iconst rfl) ?_
          refine Ew_of (pcₚ := 136) (fun _ => x_istore_n rfl) ?_
          refine Ew_of (pcₚ := 137) (fun _ => x_iconst rfl) ?_
          refine Ew_of (pcₚ := 139) (fun _ => x_istore rfl) ?_
          have htr : TR ((w53_80)) ((w53_81)) ((y53_6_49)) (su (fun i => ((w79)) i) 256) := by assumption
          have htb := TR_B htr
          have : ∀ i, (0 : Int) ≤ i → i < 0 → ((A 82)) i = dp ((w53_81)) i := fun i a b => absurd b (by omega)
          have : ∀ i, (0 : Int) ≤ i → i < 0 → ((A 82)) i ≤ 0 := fun i a b => absurd b (by omega)
          have : (0 : Int) = 0 ∨ EXD ((A 82)) 0 0 := .inl rfl
          suffices hl139 : ∀ (m : Nat), ∀ (ls : rO) (σ : rS) (F_139 : hF) (A_139 : hA) (x139_3 : Int) (x139_4 : Int), rlook ls 0 = some (.ref (D 6)) → rlook ls 3 = some (I (x139_3)) → rlook ls 4 = some (I (x139_4)) → HS σ0 σ D N F_139 A_139 → SF [] F_53 F_139 → SA [82] A_53 A_139 → ∀ w139_82 : Int → Int, A_139 82 = w139_82 → (inr (x139_3)) → (inr (x139_4)) → ((0) ≤ (x139_4)) → ((x139_4) ≤ (0) ∨ (x139_4) ≤ ((256))) → (∀ i, 0 ≤ i → i < (x139_4) → ((w139_82)) i = dp ((w53_81)) i) → (0 ≤ (x139_3) ∧ (x139_3) ≤ 600) → (∀ i, 0 ≤ i → i < (x139_4) → ((w139_82)) i ≤ (x139_3)) → ((x139_3) = 0 ∨ EXD ((w139_82)) ((x139_4)) ((x139_3))) → (((256)) - (x139_4)).toNat = m → Ew 419 (d + 1) 139 ls [] σ c s Q from
            hl139 _ _ σ _ _ (0) (0) (rk_o (rk_o (l53_0) rfl rfl) rfl rfl) (rk_o (rk_s) rfl rfl) (rk_s) H (SF_refl) (SA_refl)  (A 82) ((funext (hA_53 82 rfl)).trans ((funext (hA10 82 rfl)).trans ((funext (hA5 82 rfl)).trans (funext (hA_9 82 rfl))))) (show inr (0) from q_2) (show inr (0) from q_2) (show (0) ≤ (0) from q_1) (show (0) ≤ (0) ∨ (0) ≤ ((256)) from q_0) (show ∀ i, 0 ≤ i → i < (0) → ((A 82)) i = dp ((w53_81)) i by assumption) (show 0 ≤ (0) ∧ (0) ≤ 600 from q_2237) (show ∀ i, 0 ≤ i → i < (0) → ((A 82)) i ≤ (0) by assumption) (show (0) = 0 ∨ EXD ((A 82)) ((0)) ((0)) by assumption) rfl
          as_aux_lemma =>
          intro m
          induction m using Nat.strongRecOn with
          | _ m ih139 =>
            intro ls σ F_139 A_139 x139_3 x139_4 l139_0 l139_3 l139_4 H hS_139 hA_139  w139_82 ew139_82 j139_0 j139_1 j139_2 j139_3 j139_4 j139_5 j139_6 j139_7 hm139
            have j139_dp : ∀ i, 0 ≤ i → i < (x139_4) → ((w139_82)) i = dp ((w53_81)) i := by assumption
            have j139_le : ∀ i, 0 ≤ i → i < (x139_4) → ((w139_82)) i ≤ (x139_3) := by assumption
            have j139_ex : (x139_3) = 0 ∨ EXD ((w139_82)) ((x139_4)) ((x139_3)) := j139_7
            refine Ew_of (pcₚ := 141) (fun _ => x_iload rfl l139_4) ?_
            refine Ew_of (pcₚ := 144) (fun _ => x_sipush (z := 256) rfl (by decide)) ?_
            refine w_icmpge (t := 221) rfl rfl (show inr (x139_4) from j139_1) (show inr (256) from q_3) (fun b14 => ?_) (fun b14 => ?_)
            · have hdr_ : ∀ i, (0 : Int) ≤ i → i < 256 → ((w139_82)) i = dpH ((w79)) i := fun i a b => by unfold dpH; rw [hHT, j139_dp i a (by omega)]; exact (dp_cg hag_ (fun k x y u => (htb.2.2.1 k x y u).2) a (by omega)).symm
              have hmx_ : (x139_3) = mxF ((w79)) := by unfold mxF; rw [← mxN_cg (n := 256) (d := (w139_82)) (fun i a b => hdr_ i a (by omega))]; exact mxN_is (n := 256) (by omega) (fun i a b => j139_le i a (by omega)) (by rcases j139_ex with e | ⟨i, a, b, c⟩; (exact .inl e); (exact .inr ⟨i, a, by omega, c⟩))
              have hhk := (j53_11)
              have hci : (x139_3) ≤ 11 → CI ((w139_82)) ((x139_3)) ∧ ∀ k, (0 : Int) ≤ k → k < 256 → 0 < ((w53_80)) k → 1 ≤ ((w139_82)) k := fun q => TR_CI htr (by omega) hroot (fun k a b => j139_dp k a (by omega)) (fun k a b => j139_le k a (by omega)) (by rcases j139_ex with e | ⟨i, a, b, c⟩; exact ⟨0, by omega, by omega, by have q1 := j139_le 0 (by omega) (by omega); have q2 := j139_dp 0 (by omega) (by omega); have q3 := dp_nn (is_ := (w53_81)) 0; omega⟩; exact ⟨i, a, by omega, c⟩) q
              have : (x139_3) ≤ 11 → CI ((w139_82)) ((x139_3)) := fun q => (hci q).1
              have : (x139_3) ≤ 11 → ∀ k, (0 : Int) ≤ k → k < 256 → 0 < ((w79)) k → 1 ≤ ((w139_82)) k := fun q k a b c => (hci q).2 k a b (by rw [hhk k a b]; exact c)
              have : (x139_3) = 0 ∨ GF ((x139_3) : Int).toNat ≤ su (fun i => ((w79)) i) 256 := by rcases j139_ex with e | ⟨i, a, b, c⟩; exact .inl e; by_cases q : 0 < ((w53_80)) i; exact .inr (by rw [← c, j139_dp i a (by omega)]; exact TR_dep htr a (by omega) q); exact .inl (by rw [← c, j139_dp i a (by omega)]; rcases dp_s htb.2.1 htb.2.2.1 (k := i) a (by omega) with w | w; exact w.2; have := htb.2.2.2 i a (by omega) w.1; omega)
              refine Ew_of (pcₚ := 222) (fun _ => x_iload_n rfl l139_3) ?_
              exact w_ireturn rfl (k (x139_3) σ _ _ H (SF_trans (SF_trans (SF_trans (SF_trans (SF_trans (SF_upd (SF_refl) rfl) hS_9 (any_sub rfl)) hS4 (any_sub rfl)) hS9 (any_sub rfl)) hS_53 (any_sub rfl)) hS_139 (any_sub rfl)) (SA_trans (SA_trans (SA_trans (SA_trans (SA_trans (SA_refl) hA_9 (any_subA rfl)) hA5 (any_subA rfl)) hA10 (any_subA rfl)) hA_53 (any_subA rfl)) hA_139 (any_subA rfl)) (w139_82) (ew139_82) (show inr (x139_3) from j139_0) (show 0 ≤ (x139_3) ∧ (x139_3) ≤ 600 from j139_5) (show (x139_3) = 0 ∨ GF ((x139_3) : Int).toNat ≤ su (fun i => ((w79)) i) 256 by assumption) (show (x139_3) ≤ 11 → CI ((w139_82)) ((x139_3)) by first | assumption | exact fun h => absurd rfl h | exact fun h => absurd h (by decide) | omega) (show (x139_3) ≤ 11 → ∀ k, (0 : Int) ≤ k → k < 256 → 0 < ((w79)) k → 1 ≤ ((w139_82)) k by first | assumption | exact fun h => absurd rfl h | exact fun h => absurd h (by decide) | omega) (hdr_) (hmx_))
            · refine Ew_of (pcₚ := 148) (fun _ => x_aload_n rfl l139_0) ?_
              refine w_gT H (o := 6) (t := 82) rfl (H.perm 6 rfl) rfl rfl rfl rfl rfl rfl ?_
              refine Ew_of (pcₚ := 153) (fun _ => x_iload rfl l139_4) ?_
              refine Ew_of (pcₚ := 154) (fun _ => x_iconst rfl) ?_
              refine w_sI H (o := 82) (n := 256) rfl (H.perm 82 rfl) rfl rfl (H.fix 82 rfl rfl) (show 0 ≤ x139_4 ∧ x139_4 < ((256 : Nat) : Int) from q_23 b14 j139_2) (by decide) (show (-2147483648 : Int) ≤ 0 ∧ 0 ≤ 2147483647 from q_22) (fun σ H => ?_)
              refine Ew_of (pcₚ := 156) (fun _ => x_aload_n rfl l139_0) ?_
              refine w_gT H (o := 6) (t := 81) rfl (H.perm 6 rfl) rfl rfl rfl rfl rfl rfl ?_
              refine Ew_of (pcₚ := 161) (fun _ => x_iload rfl l139_4) ?_
              refine w_lI H (o := 81) (n := 512) rfl (H.perm 81 rfl) rfl rfl (H.fix 81 rfl rfl) (show 0 ≤ x139_4 ∧ x139_4 < ((512 : Nat) : Int) from q_2238 b14 j139_2) (by decide) (fun v15 ev15 qv15 => ?_)
              have qv15 : (-2147483648 : Int) ≤ v15 ∧ v15 ≤ 2147483647 := qv15
              have ev15 : (w53_81) (x139_4) = v15 := (congrFun ((funext (hA_139 81 rfl)).trans (ew53_81)) (x139_4)).symm.trans ev15
              refine Ew_of (pcₚ := 164) (fun _ => x_istore rfl) ?_
              have hd0 : ((upd1 (w139_82) (x139_4) (0))) ((x139_4)) = 0 := upd1_s
              have hdp := dp_s htb.2.1 htb.2.2.1 (k := (x139_4)) (by omega) (by omega)
              rw [ev15] at hdp
              have hbl := fun q => htb.2.2.1 ((x139_4)) (by omega) (by omega) q
              rw [ev15] at hbl
              have : ∀ i, 0 ≤ i → i < (x139_4) → ((upd1 (w139_82) (x139_4) (0))) i = dp ((w53_81)) i := fun i a b => by rw [upd1_o (by omega)]; exact j139_dp i a b
              have : ∀ i, 0 ≤ i → i < (x139_4) → ((upd1 (w139_82) (x139_4) (0))) i ≤ (x139_3) := fun i a b => by rw [upd1_o (by omega)]; exact j139_le i a b
              have : (x139_3) = 0 ∨ EXD ((upd1 (w139_82) (x139_4) (0))) ((x139_4)) ((x139_3)) := by rcases j139_ex with q | ⟨i, a, b, c⟩; exact .inl q; exact .inr ⟨i, a, b, by rw [upd1_o (by omega)]; exact c⟩
              suffices hl164 : ∀ (m : Nat), ∀ (ls : rO) (σ : rS) (F_164 : hF) (A_164 : hA) (x164_5 : Int), rlook ls 0 = some (.ref (D 6)) → rlook ls 3 = some (I (x139_3)) → rlook ls 4 = some (I (x139_4)) → rlook ls 5 = some (I (x164_5)) → HS σ0 σ D N F_164 A_164 → SF [] F_139 F_164 → SA [82] (updA A_139 82 (x139_4) (0)) A_164 → ∀ w164_82 : Int → Int, A_164 82 = w164_82 → (inr (x164_5)) → (-1 ≤ (x164_5) ∨ (x164_5) < 0) → ((x164_5) < (y53_6_49)) → (∀ i, 0 ≤ i → i < (x139_4) → ((w164_82)) i = dp ((w53_81)) i) → ((x164_5) < 0 ∧ ((w164_82)) ((x139_4)) = dp ((w53_81)) ((x139_4)) ∨ 0 ≤ (x164_5) ∧ ((w164_82)) ((x139_4)) + dp ((w53_81)) ((x164_5)) + 1 = dp ((w53_81)) ((x139_4))) → (0 ≤ ((w164_82)) ((x139_4))) → (∀ i, 0 ≤ i → i < (x139_4) → ((w164_82)) i ≤ (x139_3)) → ((x139_3) = 0 ∨ EXD ((w164_82)) ((x139_4)) ((x139_3))) → (if (x164_5) < 0 then 0 else (y53_6_49) - (x164_5)).toNat = m → Ew 419 (d + 1) 164 ls [] σ c s Q from
                hl164 _ _ σ _ _ (v15) (rk_o (l139_0) rfl rfl) (rk_o (l139_3) rfl rfl) (rk_o (l139_4) rfl rfl) (rk_s) H (SF_refl) (SA_refl)  (upd1 (w139_82) (x139_4) (0)) (congrArg (fun q => upd1 q (x139_4) (0)) (ew139_82)) (show inr (v15) from q_18 qv15) (show -1 ≤ (v15) ∨ (v15) < 0 from q_2240) (show (v15) < (y53_6_49) by omega) (show ∀ i, 0 ≤ i → i < (x139_4) → ((upd1 (w139_82) (x139_4) (0))) i = dp ((w53_81)) i by assumption) (show (v15) < 0 ∧ ((upd1 (w139_82) (x139_4) (0))) ((x139_4)) = dp ((w53_81)) ((x139_4)) ∨ 0 ≤ (v15) ∧ ((upd1 (w139_82) (x139_4) (0))) ((x139_4)) + dp ((w53_81)) ((v15)) + 1 = dp ((w53_81)) ((x139_4)) by omega) (show 0 ≤ ((upd1 (w139_82) (x139_4) (0))) ((x139_4)) from q_2239 hd0) (show ∀ i, 0 ≤ i → i < (x139_4) → ((upd1 (w139_82) (x139_4) (0))) i ≤ (x139_3) by assumption) (show (x139_3) = 0 ∨ EXD ((upd1 (w139_82) (x139_4) (0))) ((x139_4)) ((x139_3)) by assumption) rfl
              as_aux_lemma =>
              intro m
              induction m using Nat.strongRecOn with
              | _ m ih164 =>
                intro ls σ F_164 A_164 x164_5 l164_0 l164_3 l164_4 l164_5 H hS_164 hA_164  w164_82 ew164_82 j164_0 j164_1 j164_2 j164_3 j164_4 j164_5 j164_6 j164_7 hm164
                have j164_dp : ∀ i, 0 ≤ i → i < (x139_4) → ((w164_82)) i = dp ((w53_81)) i := by assumption
                have j164_le : ∀ i, 0 ≤ i → i < (x139_4) → ((w164_82)) i ≤ (x139_3) := by assumption
                have j164_ex : (x139_3) = 0 ∨ EXD ((w164_82)) ((x139_4)) ((x139_3)) := j164_7
                have hdn := dp_nn (is_ := (w53_81)) ((x139_4))
                have hdn2 := dp_nn (is_ := (w53_81)) ((x164_5))
                refine Ew_of (pcₚ := 166) (fun _ => x_iload rfl l164_5) ?_
                refine w_iflt (t := 192) rfl rfl (show inr (x164_5) from j164_0) (fun b16 => ?_) (fun b16 => ?_)
                · refine Ew_of (pcₚ := 193) (fun _ => x_aload_n rfl l164_0) ?_
                  refine w_gT H (o := 6) (t := 82) rfl (H.perm 6 rfl) rfl rfl rfl rfl rfl rfl ?_
                  refine Ew_of (pcₚ := 198) (fun _ => x_iload rfl l164_4) ?_
                  refine w_lI H (o := 82) (n := 256) rfl (H.perm 82 rfl) rfl rfl (H.fix 82 rfl rfl) (show 0 ≤ x139_4 ∧ x139_4 < ((256 : Nat) : Int) from q_23 b14 j139_2) (by decide) (fun v17 ev17 qv17 => ?_)
                  have qv17 : (-2147483648 : Int) ≤ v17 ∧ v17 ≤ 2147483647 := qv17
                  have ev17 : (w164_82) (x139_4) = v17 := (congrFun (ew164_82) (x139_4)).symm.trans ev17
                  refine Ew_of (pcₚ := 200) (fun _ => x_iload_n rfl l164_3) ?_
                  refine w_icmple (t := 213) rfl rfl (show inr (v17) from q_18 qv17) (show inr (x139_3) from j139_0) (fun b18 => ?_) (fun b18 => ?_)
                  · refine Ew_of (pcₚ := 214) (fun _ => x_iload_n rfl l164_3) ?_
                    refine Ew_of (pcₚ := 215) (fun _ => x_istore_n rfl) ?_
                    refine Ew_of (pcₚ := 218) (fun _ => x_iinc (len := 3) rfl (rk_o (l164_4) rfl rfl)) ?_
                    refine Ew_of (pcₚ := 139) (fun _ => x_goto rfl rfl) ?_
                    have hdd : ((w164_82)) (((x139_4 + 1)) - 1) = dp ((w53_81)) (((x139_4 + 1)) - 1) := by rw [show ((x139_4 + 1)) - 1 = x139_4 by omega]; omega
                    have : ∀ i, 0 ≤ i → i < ((x139_4 + 1)) → ((w164_82)) i = dp ((w53_81)) i := fun i a b => by by_cases e : i = ((x139_4 + 1)) - 1; rw [e]; exact hdd; exact j164_dp i a (by omega)
                    have : ∀ i, 0 ≤ i → i < ((x139_4 + 1)) → ((w164_82)) i ≤ (x139_3) := fun i a b => by by_cases e : i = x139_4; rw [e]; omega; have := j164_le i a (by omega); omega
                    have : (x139_3) = 0 ∨ EXD ((w164_82)) (((x139_4 + 1))) ((x139_3)) := by first | exact .inr ⟨x139_4, by omega, by omega, by omega⟩ | (rcases j164_ex with q | ⟨i, a, b, c⟩; exact .inl q; exact .inr ⟨i, a, by omega, c⟩)
                    exact ih139 _ (msE hm139 q_26 (q_27 b14)) _ σ _ _ (x139_3) ((x139_4 + 1)) (rk_o (rk_o (l164_0) rfl rfl) rfl rfl) (rk_o (rk_s) rfl rfl) (rk_s) H (SF_trans (hS_139) hS_164 (any_sub rfl)) (SA_trans (SA_upd (hA_139) rfl) hA_164 (any_subA rfl))  (w164_82) (ew164_82) (show inr (x139_3) from j139_0) (show inr ((x139_4 + 1)) from q_25 b14 j139_2) (show (0) ≤ ((x139_4 + 1)) from q_14 j139_2) (show ((x139_4 + 1)) ≤ (0) ∨ ((x139_4 + 1)) ≤ ((256)) from q_24 b14) (show ∀ i, 0 ≤ i → i < ((x139_4 + 1)) → ((w164_82)) i = dp ((w53_81)) i by assumption) (show 0 ≤ (x139_3) ∧ (x139_3) ≤ 600 from j139_5) (show ∀ i, 0 ≤ i → i < ((x139_4 + 1)) → ((w164_82)) i ≤ (x139_3) by assumption) (show (x139_3) = 0 ∨ EXD ((w164_82)) (((x139_4 + 1))) ((x139_3)) by assumption) rfl
                  · refine Ew_of (pcₚ := 204) (fun _ => x_aload_n rfl l164_0) ?_
                    refine w_gT H (o := 6) (t := 82) rfl (H.perm 6 rfl) rfl rfl rfl rfl rfl rfl ?_
                    refine Ew_of (pcₚ := 209) (fun _ => x_iload rfl l164_4) ?_
                    refine w_lI H (o := 82) (n := 256) rfl (H.perm 82 rfl) rfl rfl (H.fix 82 rfl rfl) (show 0 ≤ x139_4 ∧ x139_4 < ((256 : Nat) : Int) from q_23 b14 j139_2) (by decide) (fun v19 ev19 qv19 => ?_)
                    have qv19 : (-2147483648 : Int) ≤ v19 ∧ v19 ≤ 2147483647 := qv19
                    have ev19 : (w164_82) (x139_4) = v19 := (congrFun (ew164_82) (x139_4)).symm.trans ev19
                    refine Ew_of (pcₚ := 214) (fun _ => x_goto rfl rfl) ?_
                    refine Ew_of (pcₚ := 215) (fun _ => x_istore_n rfl) ?_
                    refine Ew_of (pcₚ := 218) (fun _ => x_iinc (len := 3) rfl (rk_o (l164_4) rfl rfl)) ?_
                    refine Ew_of (pcₚ := 139) (fun _ => x_goto rfl rfl) ?_
                    have hdd : ((w164_82)) (((x139_4 + 1)) - 1) = dp ((w53_81)) (((x139_4 + 1)) - 1) := by rw [show ((x139_4 + 1)) - 1 = x139_4 by omega]; omega
                    have : ∀ i, 0 ≤ i → i < ((x139_4 + 1)) → ((w164_82)) i = dp ((w53_81)) i := fun i a b => by by_cases e : i = ((x139_4 + 1)) - 1; rw [e]; exact hdd; exact j164_dp i a (by omega)
                    have : ∀ i, 0 ≤ i → i < ((x139_4 + 1)) → ((w164_82)) i ≤ (v19) := fun i a b => by by_cases e : i = x139_4; rw [e]; omega; have := j164_le i a (by omega); omega
                    have : (v19) = 0 ∨ EXD ((w164_82)) (((x139_4 + 1))) ((v19)) := by first | exact .inr ⟨x139_4, by omega, by omega, by omega⟩ | (rcases j164_ex with q | ⟨i, a, b, c⟩; exact .inl q; exact .inr ⟨i, a, by omega, c⟩)
                    exact ih139 _ (msE hm139 q_26 (q_27 b14)) _ σ _ _ (v19) ((x139_4 + 1)) (rk_o (rk_o (l164_0) rfl rfl) rfl rfl) (rk_o (rk_s) rfl rfl) (rk_s) H (SF_trans (hS_139) hS_164 (any_sub rfl)) (SA_trans (SA_upd (hA_139) rfl) hA_164 (any_subA rfl))  (w164_82) (ew164_82) (show inr (v19) from q_18 qv19) (show inr ((x139_4 + 1)) from q_25 b14 j139_2) (show (0) ≤ ((x139_4 + 1)) from q_14 j139_2) (show ((x139_4 + 1)) ≤ (0) ∨ ((x139_4 + 1)) ≤ ((256)) from q_24 b14) (show ∀ i, 0 ≤ i → i < ((x139_4 + 1)) → ((w164_82)) i = dp ((w53_81)) i by assumption) (show 0 ≤ (v19) ∧ (v19) ≤ 600 by omega) (show ∀ i, 0 ≤ i → i < ((x139_4 + 1)) → ((w164_82)) i ≤ (v19) by assumption) (show (v19) = 0 ∨ EXD ((w164_82)) (((x139_4 + 1))) ((v19)) by assumption) rfl
                · have hdl := dp_s htb.2.1 htb.2.2.1 (k := (x164_5)) (by omega) (by omega)
                  have hbl := fun q => htb.2.2.1 ((x164_5)) (by omega) (by omega) q
                  refine Ew_of (pcₚ := 170) (fun _ => x_aload_n rfl l164_0) ?_
                  refine w_gT H (o := 6) (t := 82) rfl (H.perm 6 rfl) rfl rfl rfl rfl rfl rfl ?_
                  refine Ew_of (pcₚ := 175) (fun _ => x_iload rfl l164_4) ?_
                  refine Ew_of (pcₚ := 176) (fun _ => x_dup2 rfl rfl rfl) ?_
                  refine w_lI H (o := 82) (n := 256) rfl (H.perm 82 rfl) rfl rfl (H.fix 82 rfl rfl) (show 0 ≤ x139_4 ∧ x139_4 < ((256 : Nat) : Int) from q_23 b14 j139_2) (by decide) (fun v20 ev20 qv20 => ?_)
                  have qv20 : (-2147483648 : Int) ≤ v20 ∧ v20 ≤ 2147483647 := qv20
                  have ev20 : (w164_82) (x139_4) = v20 := (congrFun (ew164_82) (x139_4)).symm.trans ev20
                  refine Ew_of (pcₚ := 178) (fun _ => x_iconst rfl) ?_
                  refine w_iadd rfl ?_
                  have hx0 : ((v20 + 1)) = ((w164_82)) ((x139_4)) + 1 := q_11 ev20
                  have : ∀ i, 0 ≤ i → i < (x139_4) → (upd1 ((w164_82)) ((x139_4)) (((v20 + 1)))) i = dp ((w53_81)) i := fun i a b => by rw [upd1_o (by omega)]; exact j164_dp i a b
                  have : ∀ i, 0 ≤ i → i < (x139_4) → (upd1 ((w164_82)) ((x139_4)) (((v20 + 1)))) i ≤ (x139_3) := fun i a b => by rw [upd1_o (by omega)]; exact j164_le i a b
                  have : (x139_3) = 0 ∨ EXD (upd1 ((w164_82)) ((x139_4)) (((v20 + 1)))) ((x139_4)) ((x139_3)) := by rcases j164_ex with q | ⟨i, a, b, c⟩; exact .inl q; exact .inr ⟨i, a, b, by rw [upd1_o (by omega)]; exact c⟩
                  have hx1 : (upd1 ((w164_82)) ((x139_4)) (((v20 + 1)))) ((x139_4)) = ((v20 + 1)) := upd1_s
                  refine w_sI H (o := 82) (n := 256) rfl (H.perm 82 rfl) rfl rfl (H.fix 82 rfl rfl) (show 0 ≤ x139_4 ∧ x139_4 < ((256 : Nat) : Int) from q_23 b14 j139_2) (by decide) (show (-2147483648 : Int) ≤ (v20 + 1) ∧ (v20 + 1) ≤ 2147483647 by omega) (fun σ H => ?_)
                  refine Ew_of (pcₚ := 181) (fun _ => x_aload_n rfl l164_0) ?_
                  refine w_gT H (o := 6) (t := 81) rfl (H.perm 6 rfl) rfl rfl rfl rfl rfl rfl ?_
                  refine Ew_of (pcₚ := 186) (fun _ => x_iload rfl l164_5) ?_
                  refine w_lI H (o := 81) (n := 512) rfl (H.perm 81 rfl) rfl rfl (H.fix 81 rfl rfl) (show 0 ≤ x164_5 ∧ x164_5 < ((512 : Nat) : Int) from q_2241 b16 j164_2 r12) (by decide) (fun v21 ev21 qv21 => ?_)
                  have qv21 : (-2147483648 : Int) ≤ v21 ∧ v21 ≤ 2147483647 := qv21
                  have ev21 : (w53_81) (x164_5) = v21 := (congrFun ((funext (hA_164 81 rfl)).trans ((funext (hA_139 81 rfl)).trans (ew53_81))) (x164_5)).symm.trans ev21
                  have hq5 := ev21
                  rw [hq5] at hdl hbl
                  refine Ew_of (pcₚ := 189) (fun _ => x_istore rfl) ?_
                  refine Ew_of (pcₚ := 164) (fun _ => x_goto rfl rfl) ?_
                  exact ih164 _ (by omega) _ σ _ _ (v21) (rk_o (l164_0) rfl rfl) (rk_o (l164_3) rfl rfl) (rk_o (l164_4) rfl rfl) (rk_s) H (hS_164) (SA_upd (hA_164) rfl)  (upd1 (w164_82) (x139_4) ((v20 + 1))) (congrArg (fun q => upd1 q (x139_4) ((v20 + 1))) (ew164_82)) (show inr (v21) from q_18 qv21) (show -1 ≤ (v21) ∨ (v21) < 0 from q_2240) (show (v21) < (y53_6_49) by omega) (show ∀ i, 0 ≤ i → i < (x139_4) → ((upd1 (w164_82) (x139_4) ((v20 + 1)))) i = dp ((w53_81)) i by assumption) (show (v21) < 0 ∧ ((upd1 (w164_82) (x139_4) ((v20 + 1)))) ((x139_4)) = dp ((w53_81)) ((x139_4)) ∨ 0 ≤ (v21) ∧ ((upd1 (w164_82) (x139_4) ((v20 + 1)))) ((x139_4)) + dp ((w53_81)) ((v21)) + 1 = dp ((w53_81)) ((x139_4)) by omega) (show 0 ≤ ((upd1 (w164_82) (x139_4) ((v20 + 1)))) ((x139_4)) from q_2242 hx0 hx1 j164_5) (show ∀ i, 0 ≤ i → i < (x139_4) → ((upd1 (w164_82) (x139_4) ((v20 + 1)))) i ≤ (x139_3) by assumption) (show (x139_3) = 0 ∨ EXD ((upd1 (w164_82) (x139_4) ((v20 + 1)))) ((x139_4)) ((x139_3)) by assumption) rfl
        · have hts := TR_step (j53_7) (o := (x53_1)) (t := (x53_2)) (by omega) (by omega) (by omega) (by omega) (by omega) (by omega) (by omega) (by omega) (by omega) (fun k a b c d => ((j53_8) k a b (by omega) c d).2) (fun k a b c d e => ((j53_9) k a b c d e).2)
          have hkh : ∀ i, (0 : Int) ≤ i → i < 256 → (upd1 ((w53_80)) ((y53_6_49)) (((w53_80)) ((x53_1)) + ((w53_80)) ((x53_2)))) i = ((w79)) i := fun i a b => by rw [upd1_o (by omega)]; exact (j53_11) i a b
          have hts1 := hts.1
          have hts2 := hts.2.1
          have hts3 := hts.2.2
          (try clear hts)
          refine Ew_of (pcₚ := 58) (fun _ => x_aload_n rfl l53_0) ?_
          refine w_gT H (o := 6) (t := 80) rfl (H.perm 6 rfl) rfl rfl rfl rfl rfl rfl ?_
          refine Ew_of (pcₚ := 62) (fun _ => x_aload_n rfl l53_0) ?_
          refine w_gI H (o := 6) (w := y53_6_49) rfl (H.perm 6 rfl) rfl rfl rfl (fun _ => rfl) (ey53_6_49) ?_
          refine Ew_of (pcₚ := 66) (fun _ => x_aload_n rfl l53_0) ?_
          refine w_gT H (o := 6) (t := 80) rfl (H.perm 6 rfl) rfl rfl rfl rfl rfl rfl ?_
          refine Ew_of (pcₚ := 70) (fun _ => x_iload_n rfl l53_1) ?_
          refine w_lI H (o := 80) (n := 512) rfl (H.perm 80 rfl) rfl rfl (H.fix 80 rfl rfl) (show 0 ≤ x53_1 ∧ x53_1 < ((512 : Nat) : Int) from q_2243 b13 j53_13 j53_5 j53_6 r12) (by decide) (fun v22 ev22 qv22 => ?_)
          have qv22 : (-2147483648 : Int) ≤ v22 ∧ v22 ≤ 2147483647 := qv22
          have ev22 : (w53_80) (x53_1) = v22 := (congrFun (ew53_80) (x53_1)).symm.trans ev22
          refine Ew_of (pcₚ := 72) (fun _ => x_aload_n rfl l53_0) ?_
          refine w_gT H (o := 6) (t := 80) rfl (H.perm 6 rfl) rfl rfl rfl rfl rfl rfl ?_
          refine Ew_of (pcₚ := 76) (fun _ => x_iload_n rfl l53_2) ?_
          refine w_lI H (o := 80) (n := 512) rfl (H.perm 80 rfl) rfl rfl (H.fix 80 rfl rfl) (show 0 ≤ x53_2 ∧ x53_2 < ((512 : Nat) : Int) from q_2244 b13 j53_10 j53_6 r12) (by decide) (fun v23 ev23 qv23 => ?_)
          have qv23 : (-2147483648 : Int) ≤ v23 ∧ v23 ≤ 2147483647 := qv23
          have ev23 : (w53_80) (x53_2) = v23 := (congrFun (ew53_80) (x53_2)).symm.trans ev23
          have hkv1 := ev22
          have hkv2 := ev23
          rw [ev22, ev23] at hts3 hkh
          refine w_iadd rfl ?_
          refine w_sI H (o := 80) (n := 512) rfl (H.perm 80 rfl) rfl rfl (H.fix 80 rfl rfl) (show 0 ≤ y53_6_49 ∧ y53_6_49 < ((512 : Nat) : Int) by omega) (by decide) (show (-2147483648 : Int) ≤ (v22 + v23) ∧ (v22 + v23) ≤ 2147483647 by omega) (fun σ H => ?_)
          refine Ew_of (pcₚ := 80) (fun _ => x_aload_n rfl l53_0) ?_
          refine w_gT H (o := 6) (t := 81) rfl (H.perm 6 rfl) rfl rfl rfl rfl rfl rfl ?_
          refine Ew_of (pcₚ := 84) (fun _ => x_aload_n rfl l53_0) ?_
          refine w_gI H (o := 6) (w := y53_6_49) rfl (H.perm 6 rfl) rfl rfl rfl (fun _ => rfl) (ey53_6_49) ?_
          refine Ew_of (pcₚ := 88) (fun _ => x_iconst rfl) ?_
          refine w_sI H (o := 81) (n := 512) rfl (H.perm 81 rfl) rfl rfl (H.fix 81 rfl rfl) (show 0 ≤ y53_6_49 ∧ y53_6_49 < ((512 : Nat) : Int) by omega) (by decide) (show (-2147483648 : Int) ≤ (-1) ∧ (-1) ≤ 2147483647 from q_152) (fun σ H => ?_)
          refine Ew_of (pcₚ := 90) (fun _ => x_aload_n rfl l53_0) ?_
          refine w_gT H (o := 6) (t := 81) rfl (H.perm 6 rfl) rfl rfl rfl rfl rfl rfl ?_
          refine Ew_of (pcₚ := 94) (fun _ => x_iload_n rfl l53_1) ?_
          refine Ew_of (pcₚ := 95) (fun _ => x_aload_n rfl l53_0) ?_
          refine w_gI H (o := 6) (w := y53_6_49) rfl (H.perm 6 rfl) rfl rfl rfl (fun _ => rfl) (ey53_6_49) ?_
          refine w_sI H (o := 81) (n := 512) rfl (H.perm 81 rfl) rfl rfl (H.fix 81 rfl rfl) (show 0 ≤ x53_1 ∧ x53_1 < ((512 : Nat) : Int) from q_2243 b13 j53_13 j53_5 j53_6 r12) (by decide) (show (-2147483648 : Int) ≤ y53_6_49 ∧ y53_6_49 ≤ 2147483647 from q_2245 r12) (fun σ H => ?_)
          refine Ew_of (pcₚ := 100) (fun _ => x_aload_n rfl l53_0) ?_
          refine w_gT H (o := 6) (t := 81) rfl (H.perm 6 rfl) rfl rfl rfl rfl rfl rfl ?_
          refine Ew_of (pcₚ := 104) (fun _ => x_iload_n rfl l53_2) ?_
          refine Ew_of (pcₚ := 105) (fun _ => x_aload_n rfl l53_0) ?_
          refine w_gI H (o := 6) (w := y53_6_49) rfl (H.perm 6 rfl) rfl rfl rfl (fun _ => rfl) (ey53_6_49) ?_
          refine w_sI H (o := 81) (n := 512) rfl (H.perm 81 rfl) rfl rfl (H.fix 81 rfl rfl) (show 0 ≤ x53_2 ∧ x53_2 < ((512 : Nat) : Int) from q_2244 b13 j53_10 j53_6 r12) (by decide) (show (-2147483648 : Int) ≤ y53_6_49 ∧ y53_6_49 ≤ 2147483647 from q_2245 r12) (fun σ H => ?_)
          refine Ew_of (pcₚ := 110) (fun _ => x_aload_n rfl l53_0) ?_
          refine Ew_of (pcₚ := 111) (fun _ => x_dup rfl rfl) ?_
          refine w_gI H (o := 6) (w := y53_6_49) rfl (H.perm 6 rfl) rfl rfl rfl (fun _ => rfl) (ey53_6_49) ?_
          refine Ew_of (pcₚ := 115) (fun _ => x_iconst rfl) ?_
          refine w_iadd rfl ?_
          refine w_pI H (o := 6) rfl rfl (H.perm 6 rfl) rfl rfl rfl (fun _ => rfl) rfl (show (0 : Int) ≤ (y53_6_49 + 1) ∧ (y53_6_49 + 1) ≤ 512 by omega) (fun σ H => ?_)
          refine Ew_of (pcₚ := 120) (fun _ => x_aload_n rfl l53_0) ?_
          refine Ew_of (pcₚ := 121) (fun _ => x_iconst rfl) ?_
          refine w_inv H (o := 6) rfl rfl rfl (H.perm 6 rfl) rfl rfl (by rfl) (M418 H ((y53_6_49 + 1)) (rfl) (upd1 (w53_80) (y53_6_49) ((v22 + v23))) (congrArg (fun q => upd1 q (y53_6_49) ((v22 + v23))) (ew53_80)) (upd1 (upd1 (upd1 (w53_81) (y53_6_49) ((-1))) (x53_1) (y53_6_49)) (x53_2) (y53_6_49)) (congrArg (fun q => upd1 q (x53_2) (y53_6_49)) (congrArg (fun q => upd1 q (x53_1) (y53_6_49)) (congrArg (fun q => upd1 q (y53_6_49) ((-1))) (ew53_81)))) (show inr ((-1)) from q_63) (show -1 ≤ ((-1)) from q_2231) (fun z28 σ F24 A25 H hS26 hA27 pz28_0 pz28_1 pz28_2 pz28_3 => ⟨rfl, ?_⟩))
          refine Ew_of (pcₚ := 125) (fun _ => x_istore_n rfl) ?_
          refine Ew_of (pcₚ := 126) (fun _ => x_aload_n rfl (rk_o (l53_0) rfl rfl)) ?_
          refine Ew_of (pcₚ := 127) (fun _ => x_iload_n rfl rk_s) ?_
          refine w_inv H (o := 6) rfl rfl rfl (H.perm 6 rfl) rfl rfl (by rfl) (M418 H ((y53_6_49 + 1)) ((hS26 6 49 rfl)) (upd1 (w53_80) (y53_6_49) ((v22 + v23))) ((funext (hA27 80 rfl)).trans (congrArg (fun q => upd1 q (y53_6_49) ((v22 + v23))) (ew53_80))) (upd1 (upd1 (upd1 (w53_81) (y53_6_49) ((-1))) (x53_1) (y53_6_49)) (x53_2) (y53_6_49)) ((funext (hA27 81 rfl)).trans (congrArg (fun q => upd1 q (x53_2) (y53_6_49)) (congrArg (fun q => upd1 q (x53_1) (y53_6_49)) (congrArg (fun q => upd1 q (y53_6_49) ((-1))) (ew53_81))))) (show inr (z28) from pz28_0) (show -1 ≤ (z28) from q_2246 pz28_1) (fun z33 σ F29 A30 H hS31 hA32 pz33_0 pz33_1 pz33_2 pz33_3 => ⟨rfl, ?_⟩))
          refine Ew_of (pcₚ := 131) (fun _ => x_istore_n rfl) ?_
          refine Ew_of (pcₚ := 53) (fun _ => x_goto rfl rfl) ?_
          have hht1 : HTA ((w79)) ((upd1 (w53_80) (y53_6_49) ((v22 + v23)))) ((upd1 (upd1 (upd1 (w53_81) (y53_6_49) ((-1))) (x53_1) (y53_6_49)) (x53_2) (y53_6_49))) (((y53_6_49 + 1))) := HTA_s j53_h (by omega) j53_1 j53_2 (by omega) rfl (by rw [hkv1, hkv2])
          have hlk1 : (z28) = lkF ((upd1 (w53_80) (y53_6_49) ((v22 + v23)))) ((upd1 (upd1 (upd1 (w53_81) (y53_6_49) ((-1))) (x53_1) (y53_6_49)) (x53_2) (y53_6_49))) (-1) (((y53_6_49 + 1)) : Int).toNat := pz28_3
          have hlk2 : (z33) = lkF ((upd1 (w53_80) (y53_6_49) ((v22 + v23)))) ((upd1 (upd1 (upd1 (w53_81) (y53_6_49) ((-1))) (x53_1) (y53_6_49)) (x53_2) (y53_6_49))) ((z28)) (((y53_6_49 + 1)) : Int).toNat := pz33_3
          have h10 : 0 ≤ (z33) → 0 ≤ (z28) := fun q => ((pz28_2) ((z33)) (by omega) (by omega) (by omega) (by omega) (by omega)).1
          exact ih53 _ (by omega) _ σ _ _ (z28) (z33) (rk_o (rk_o (l53_0) rfl rfl) rfl rfl) (rk_o (rk_s) rfl rfl) (rk_s) H (SF_trans (SF_trans (SF_upd (hS_53) rfl) hS26 (any_sub rfl)) hS31 (any_sub rfl)) (SA_trans (SA_trans (SA_upd (SA_upd (SA_upd (SA_upd (hA_53) rfl) rfl) rfl) rfl) hA27 (any_subA rfl)) hA32 (any_subA rfl)) ((y53_6_49 + 1)) (((hS31 6 49 rfl).trans (hS26 6 49 rfl))) (upd1 (w53_80) (y53_6_49) ((v22 + v23))) ((funext (hA32 80 rfl)).trans ((funext (hA27 80 rfl)).trans (congrArg (fun q => upd1 q (y53_6_49) ((v22 + v23))) (ew53_80)))) (upd1 (upd1 (upd1 (w53_81) (y53_6_49) ((-1))) (x53_1) (y53_6_49)) (x53_2) (y53_6_49)) ((funext (hA32 81 rfl)).trans ((funext (hA27 81 rfl)).trans (congrArg (fun q => upd1 q (x53_2) (y53_6_49)) (congrArg (fun q => upd1 q (x53_1) (y53_6_49)) (congrArg (fun q => upd1 q (y53_6_49) ((-1))) (ew53_81)))))) (show inr (z28) from pz28_0) (show inr (z33) from pz33_0) (hht1) (hlk1) (hlk2) (show -1 ≤ (z28) ∧ -1 ≤ (z33) from q_2249 h10 pz28_1 pz33_1) (show (z33) < 0 ∨ 0 ≤ (z28) ∧ (z28) < ((y53_6_49 + 1)) ∧ 0 < ((upd1 (w53_80) (y53_6_49) ((v22 + v23)))) ((z28)) ∧ ((upd1 (upd1 (upd1 (w53_81) (y53_6_49) ((-1))) (x53_1) (y53_6_49)) (x53_2) (y53_6_49))) ((z28)) < 0 ∧ 0 ≤ (z33) ∧ (z33) < ((y53_6_49 + 1)) ∧ (z33) ≠ (z28) ∧ 0 < ((upd1 (w53_80) (y53_6_49) ((v22 + v23)))) ((z33)) ∧ ((upd1 (upd1 (upd1 (w53_81) (y53_6_49) ((-1))) (x53_1) (y53_6_49)) (x53_2) (y53_6_49))) ((z33)) < 0 by omega) (show TR ((upd1 (w53_80) (y53_6_49) ((v22 + v23)))) ((upd1 (upd1 (upd1 (w53_81) (y53_6_49) ((-1))) (x53_1) (y53_6_49)) (x53_2) (y53_6_49))) (((y53_6_49 + 1))) (su (fun i => ((w79)) i) 256) by assumption) (pz28_2) (pz33_2) (show 0 ≤ (z33) ∨ 257 ≤ ((y53_6_49 + 1)) from q_2248 j53_12) (show ∀ i, (0 : Int) ≤ i → i < 256 → ((upd1 (w53_80) (y53_6_49) ((v22 + v23)))) i = ((w79)) i by assumption) (show 256 ≤ ((y53_6_49 + 1)) from q_2247 j53_12 r12) (show (z28) = -1 ∨ 0 ≤ (z28) ∧ (z28) < ((y53_6_49 + 1)) ∧ 0 < ((upd1 (w53_80) (y53_6_49) ((v22 + v23)))) ((z28)) ∧ ((upd1 (upd1 (upd1 (w53_81) (y53_6_49) ((-1))) (x53_1) (y53_6_49)) (x53_2) (y53_6_49))) ((z28)) < 0 by omega) rfl
    · refine Ew_of (pcₚ := 17) (fun _ => x_aload_n rfl l9_0) ?_
      refine w_gT H (o := 6) (t := 80) rfl (H.perm 6 rfl) rfl rfl rfl rfl rfl rfl ?_
      refine Ew_of (pcₚ := 21) (fun _ => x_iload_n rfl l9_1) ?_
      refine Ew_of (pcₚ := 22) (fun _ => x_aload_n rfl l9_0) ?_
      refine w_gT H (o := 6) (t := 79) rfl (H.perm 6 rfl) rfl rfl rfl rfl rfl rfl ?_
      refine Ew_of (pcₚ := 26) (fun _ => x_iload_n rfl l9_1) ?_
      refine w_lI H (o := 79) (n := 256) rfl (H.perm 79 rfl) rfl rfl (H.fix 79 rfl rfl) (show 0 ≤ x9_1 ∧ x9_1 < ((256 : Nat) : Int) from q_23 b1 j9_1) (by decide) (fun v34 ev34 qv34 => ?_)
      have qv34 : (-2147483648 : Int) ≤ v34 ∧ v34 ≤ 2147483647 := qv34
      have ev34 : (w79) (x9_1) = v34 := (congrFun ((funext (hA_9 79 rfl)).trans (ew79)) (x9_1)).symm.trans ev34
      refine w_sI H (o := 80) (n := 512) rfl (H.perm 80 rfl) rfl rfl (H.fix 80 rfl rfl) (show 0 ≤ x9_1 ∧ x9_1 < ((512 : Nat) : Int) from q_2238 b1 j9_1) (by decide) (show (-2147483648 : Int) ≤ v34 ∧ v34 ≤ 2147483647 from qv34) (fun σ H => ?_)
      refine Ew_of (pcₚ := 29) (fun _ => x_aload_n rfl l9_0) ?_
      refine w_gT H (o := 6) (t := 81) rfl (H.perm 6 rfl) rfl rfl rfl rfl rfl rfl ?_
      refine Ew_of (pcₚ := 33) (fun _ => x_iload_n rfl l9_1) ?_
      refine Ew_of (pcₚ := 34) (fun _ => x_iconst rfl) ?_
      refine w_sI H (o := 81) (n := 512) rfl (H.perm 81 rfl) rfl rfl (H.fix 81 rfl rfl) (show 0 ≤ x9_1 ∧ x9_1 < ((512 : Nat) : Int) from q_2238 b1 j9_1) (by decide) (show (-2147483648 : Int) ≤ (-1) ∧ (-1) ≤ 2147483647 from q_152) (fun σ H => ?_)
      refine Ew_of (pcₚ := 38) (fun _ => x_iinc (len := 3) rfl (l9_1)) ?_
      refine Ew_of (pcₚ := 9) (fun _ => x_goto rfl rfl) ?_
      have : ∀ i, (0 : Int) ≤ i → i < ((x9_1 + 1)) → ((upd1 (w9_80) (x9_1) (v34))) i = ((w79)) i := pt_copy j9_3 (by omega)
      have : ∀ i, (0 : Int) ≤ i → i < ((x9_1 + 1)) → ((upd1 (w9_81) (x9_1) ((-1)))) (0 + i) = -1 := share_m j9_4
      exact ih9 _ (msE hm9 q_26 (q_27 b1)) _ σ _ _ ((x9_1 + 1)) (rk_o (l9_0) rfl rfl) (rk_s) H (hS_9) (SA_upd (SA_upd (hA_9) rfl) rfl)  (upd1 (w9_80) (x9_1) (v34)) (congrArg (fun q => upd1 q (x9_1) (v34)) (ew9_80)) (upd1 (w9_81) (x9_1) ((-1))) (congrArg (fun q => upd1 q (x9_1) ((-1))) (ew9_81)) (show inr ((x9_1 + 1)) from q_25 b1 j9_1) (show (0) ≤ ((x9_1 + 1)) from q_14 j9_1) (show ((x9_1 + 1)) ≤ (0) ∨ ((x9_1 + 1)) ≤ ((256)) from q_24 b1) (show ∀ i, 0 ≤ i → i < ((x9_1 + 1)) → ((upd1 (w9_80) (x9_1) (v34))) i = ((w79)) i by assumption) (show ∀ i, 0 ≤ i → i < ((x9_1 + 1)) → ((upd1 (w9_81) (x9_1) ((-1)))) (0 + i) = -1 by assumption) rfl


end
section
/-! 57.ref -/
theorem M420 {σ0 σ : rS} {D N : Nat → Nat} {F : hF} {A : hA} {d c s : Nat} {Q : wQ} (H : HS σ0 σ D N F A)  (u6_30 : Int) (eu6_30 : F 6 30 = u6_30) (w65 : Int → Int) (ew65 : A 65 = w65) (h0 : DIFF ((w65)) ((u6_30))) (k : ∀ (z : Int) σ Fₚ Aₚ, HS σ0 σ D N Fₚ Aₚ → SF [(6, 49)] F Fₚ → SA [79, 80, 81, 82] A Aₚ → ∀ v82 : Int → Int, Aₚ 82 = v82 → (inr (z)) → (1 ≤ (z) ∧ (z) ≤ 11) → (CI ((v82)) ((z))) → (∀ k, 0 ≤ k → k < (u6_30) → ((v82)) (((w65)) k) ≠ 0) → (∀ s, 0 ≤ s → s < 256 → ((v82)) s = dpH (hvF (ctF ((w65)) ((u6_30))) (LBT (ctF ((w65)) ((u6_30))))) s) → ((z) = mxF (hvF (ctF ((w65)) ((u6_30))) (LBT (ctF ((w65)) ((u6_30)))))) → Q (some (I z)) σ c s) : Ew 420 (d + 2) 0 (rargs 0 [.ref (D 6)]) [] σ c s Q := by
  have r1 : (0 : Int) ≤ u6_30 ∧ u6_30 ≤ 16385 := rngE (show (0 : Int) ≤ F 6 30 ∧ F 6 30 ≤ 16385 from H.frng 6 30) (show F 6 30 = u6_30 from (eu6_30))
  refine Ew_of (pcₚ := 1) (fun _ => x_iconst rfl) ?_
  refine Ew_of (pcₚ := 2) (fun _ => x_istore_n rfl) ?_
  have : ∀ i, (0 : Int) ≤ i → i < 0 → ((A 79)) (0 + i) = 0 := fun i a b => absurd b (by omega)
  suffices hl2 : ∀ (m : Nat), ∀ (ls : rO) (σ : rS) (F_2 : hF) (A_2 : hA) (x2_1 : Int), rlook ls 0 = some (.ref (D 6)) → rlook ls 1 = some (I (x2_1)) → HS σ0 σ D N F_2 A_2 → SF [] F F_2 → SA [79] A A_2 → ∀ w2_79 : Int → Int, A_2 79 = w2_79 → (inr (x2_1)) → ((0) ≤ (x2_1)) → ((x2_1) ≤ (0) ∨ (x2_1) ≤ ((256))) → (∀ i, 0 ≤ i → i < (x2_1) → ((w2_79)) (0 + i) = 0) → (((256)) - (x2_1)).toNat = m → Ew 420 (d + 2) 2 ls [] σ c s Q from
    hl2 _ _ σ _ _ (0) (rk_o (rfl) rfl rfl) (rk_s) H (SF_refl) (SA_refl)  (A 79) (rfl) (show inr (0) from q_2) (show (0) ≤ (0) from q_1) (show (0) ≤ (0) ∨ (0) ≤ ((256)) from q_0) (show ∀ i, 0 ≤ i → i < (0) → ((A 79)) (0 + i) = 0 by assumption) rfl
  as_aux_lemma =>
  intro m
  induction m using Nat.strongRecOn with
  | _ m ih2 =>
    intro ls σ F_2 A_2 x2_1 l2_0 l2_1 H hS_2 hA_2  w2_79 ew2_79 j2_0 j2_1 j2_2 j2_3 hm2
    refine Ew_of (pcₚ := 3) (fun _ => x_iload_n rfl l2_1) ?_
    refine Ew_of (pcₚ := 6) (fun _ => x_sipush (z := 256) rfl (by decide)) ?_
    refine w_icmpge (t := 22) rfl rfl (show inr (x2_1) from j2_0) (show inr (256) from q_3) (fun b2 => ?_) (fun b2 => ?_)
    · refine Ew_of (pcₚ := 23) (fun _ => x_iconst rfl) ?_
      refine Ew_of (pcₚ := 24) (fun _ => x_istore_n rfl) ?_
      have hz : ∀ i, (0 : Int) ≤ i → i < 256 → ((w2_79)) i = 0 := fun i a b => by have := j2_3 i a (by omega); rw [Int.zero_add] at this; exact this
      have : su (fun i => ((w2_79)) i) 256 = 0 := su_z (g := (w2_79)) (fun x => x) rfl (fun i a b => hz i a (by omega))
      have hct0 : ∀ i, (0 : Int) ≤ i → i < 256 → ((w2_79)) i = ctF ((w65)) 0 i := fun i a b => hz i a b
      have : ∀ i, (0 : Int) ≤ i → i < 256 → 0 ≤ ((w2_79)) i := fun i a b => by rw [hz i a b]; decide
      have : ∀ i, (0 : Int) ≤ i → i < 256 → ((w2_79)) i ≤ 0 := fun i a b => by rw [hz i a b]; decide
      have : ∀ j, (0 : Int) ≤ j → j < 0 → 1 ≤ ((w2_79)) (((w65)) j) := fun j a b => absurd b (by omega)
      suffices hl24 : ∀ (m : Nat), ∀ (ls : rO) (σ : rS) (F_24 : hF) (A_24 : hA) (x24_1 : Int), rlook ls 0 = some (.ref (D 6)) → rlook ls 1 = some (I (x24_1)) → HS σ0 σ D N F_24 A_24 → SF [] F_2 F_24 → SA [79] A_2 A_24 → ∀ w24_79 : Int → Int, A_24 79 = w24_79 → (inr (x24_1)) → ((0) ≤ (x24_1)) → ((x24_1) ≤ (0) ∨ (x24_1) ≤ ((u6_30))) → (∀ i, (0 : Int) ≤ i → i < 256 → ((w24_79)) i = ctF ((w65)) ((x24_1)) i) → (su (fun i => ((w24_79)) i) 256 = (x24_1)) → (∀ i, (0 : Int) ≤ i → i < 256 → 0 ≤ ((w24_79)) i) → (∀ j, 0 ≤ j → j < (x24_1) → 1 ≤ ((w24_79)) (((w65)) j)) → (∀ i, (0 : Int) ≤ i → i < 256 → ((w24_79)) i ≤ (x24_1)) → (((u6_30)) - (x24_1)).toNat = m → Ew 420 (d + 2) 24 ls [] σ c s Q from
        hl24 _ _ σ _ _ (0) (rk_o (l2_0) rfl rfl) (rk_s) H (SF_refl) (SA_refl)  (w2_79) (ew2_79) (show inr (0) from q_2) (show (0) ≤ (0) from q_1) (show (0) ≤ (0) ∨ (0) ≤ ((u6_30)) from q_5) (hct0) (show su (fun i => ((w2_79)) i) 256 = (0) by omega) (show ∀ i, (0 : Int) ≤ i → i < 256 → 0 ≤ ((w2_79)) i by assumption) (show ∀ j, 0 ≤ j → j < (0) → 1 ≤ ((w2_79)) (((w65)) j) by assumption) (show ∀ i, (0 : Int) ≤ i → i < 256 → ((w2_79)) i ≤ (0) by assumption) rfl
      as_aux_lemma =>
      intro m
      induction m using Nat.strongRecOn with
      | _ m ih24 =>
        intro ls σ F_24 A_24 x24_1 l24_0 l24_1 H hS_24 hA_24  w24_79 ew24_79 j24_0 j24_1 j24_2 j24_3 j24_4 j24_5 j24_6 j24_7 hm24
        refine Ew_of (pcₚ := 25) (fun _ => x_iload_n rfl l24_1) ?_
        refine Ew_of (pcₚ := 26) (fun _ => x_aload_n rfl l24_0) ?_
        refine w_gI H (o := 6) (w := u6_30) rfl (H.perm 6 rfl) rfl rfl rfl (fun _ => rfl) (((hS_24 6 30 rfl).trans (hS_2 6 30 rfl)).trans (eu6_30)) ?_
        refine w_icmpge (t := 53) rfl rfl (show inr (x24_1) from j24_0) (show inr (u6_30) from q_2125 r1) (fun b3 => ?_) (fun b3 => ?_)
        · have hct : ∀ i, (0 : Int) ≤ i → i < 256 → ((w24_79)) i = (ctF ((w65)) ((u6_30))) i := fun i a b => by have h := (j24_3) i a b; rw [show (x24_1) = (u6_30) by omega] at h; exact h
          have hB : ∀ i, (0 : Int) ≤ (w65) i ∧ (w65) i ≤ 255 := fun i => by have h1 : (0 : Int) ≤ A_24 65 i ∧ A_24 65 i ≤ 255 := H.arng 65 i; rw [show A_24 65 = w65 from (funext (hA_24 65 rfl)).trans ((funext (hA_2 65 rfl)).trans (ew65))] at h1; exact h1
          have hlp : ∀ j, 0 ≤ j → j < (u6_30) → 1 ≤ ((w24_79)) (((w65)) j) := fun j a b => (j24_6) j a (by omega)
          have htwo : TWO ((w24_79)) := by obtain ⟨k, a, b, c⟩ := (h0); have h1 := hB k; have h2 := hB 0; have h3 := hlp k a b; have h4 := hlp 0 (by omega) (by omega); exact ⟨_, _, h1.1, by omega, h2.1, by omega, c, by omega, by omega⟩
          refine Ew_of (pcₚ := 54) (fun _ => x_aload_n rfl l24_0) ?_
          refine w_inv H (o := 6) rfl rfl rfl (H.perm 6 rfl) rfl rfl (by rfl) (M419 H (w24_79) (ew24_79) (j24_5) (show su (fun i => ((w24_79)) i) 256 ≤ 16385 by omega) (htwo) (fun z8 σ F4 A5 H hS6 hA7 wq9 ewq10 pz8_0 pz8_1 pz8_2 pz8_3 pz8_4 pz8_5 pz8_6 => ⟨rfl, ?_⟩))
          refine Ew_of (pcₚ := 58) (fun _ => x_istore_n rfl) ?_
          have hlb0 : ∃ t, 0 ≤ t ∧ LBO (ctF ((w65)) ((u6_30))) t ∧ (∀ i, (0 : Int) ≤ i → i < 256 → ((w24_79)) i = hvF (ctF ((w65)) ((u6_30))) (t) i) ∧ (∀ i, (0 : Int) ≤ i → i < 256 → ((wq9)) i = dpH ((w24_79)) i) ∧ (z8) = mxF ((w24_79)) := ⟨0, Int.le_refl 0, LBO_0, by rw [hvF_0]; exact hct, pz8_5, pz8_6⟩
          suffices hl58 : ∀ (m : Nat), ∀ (ls : rO) (σ : rS) (F_58 : hF) (A_58 : hA) (x58_1 : Int), rlook ls 0 = some (.ref (D 6)) → rlook ls 1 = some (I (x58_1)) → HS σ0 σ D N F_58 A_58 → SF [(6, 49)] F4 F_58 → SA [79, 80, 81, 82] A5 A_58 → ∀ w58_79 : Int → Int, A_58 79 = w58_79 → ∀ w58_82 : Int → Int, A_58 82 = w58_82 → (inr (x58_1)) → (∃ t, 0 ≤ t ∧ LBO (ctF ((w65)) ((u6_30))) t ∧ (∀ i, (0 : Int) ≤ i → i < 256 → ((w58_79)) i = hvF (ctF ((w65)) ((u6_30))) (t) i) ∧ (∀ i, (0 : Int) ≤ i → i < 256 → ((w58_82)) i = dpH ((w58_79)) i) ∧ (x58_1) = mxF ((w58_79))) → (0 ≤ (x58_1) ∧ (x58_1) ≤ 600) → ((x58_1) = 0 ∨ GF ((x58_1) : Int).toNat ≤ su (fun i => ((w58_79)) i) 256) → ((x58_1) ≤ 11 → CI ((w58_82)) ((x58_1))) → ((x58_1) ≤ 11 → ∀ k, (0 : Int) ≤ k → k < 256 → 0 < ((w58_79)) k → 1 ≤ ((w58_82)) k) → (∀ i, (0 : Int) ≤ i → i < 256 → 0 ≤ ((w58_79)) i) → (su (fun i => ((w58_79)) i) 256 ≤ 16385) → (TWO ((w58_79))) → (∀ j, 0 ≤ j → j < (u6_30) → 1 ≤ ((w58_79)) (((w65)) j)) → (su (fun i => ((w58_79)) i) 256).toNat = m → Ew 420 (d + 2) 58 ls [] σ c s Q from
            hl58 _ _ σ _ _ (z8) (rk_o (l24_0) rfl rfl) (rk_s) H (SF_refl) (SA_refl)  (w24_79) ((funext (hA7 79 rfl)).trans (ew24_79)) (wq9) (ewq10) (show inr (z8) from pz8_0) (hlb0) (show 0 ≤ (z8) ∧ (z8) ≤ 600 from pz8_1) (show (z8) = 0 ∨ GF ((z8) : Int).toNat ≤ su (fun i => ((w24_79)) i) 256 by assumption) (pz8_3) (show (z8) ≤ 11 → ∀ k, (0 : Int) ≤ k → k < 256 → 0 < ((w24_79)) k → 1 ≤ ((wq9)) k by assumption) (j24_5) (show su (fun i => ((w24_79)) i) 256 ≤ 16385 by omega) (htwo) (hlp) rfl
          as_aux_lemma =>
          intro m
          induction m using Nat.strongRecOn with
          | _ m ih58 =>
            intro ls σ F_58 A_58 x58_1 l58_0 l58_1 H hS_58 hA_58  w58_79 ew58_79 w58_82 ew58_82 j58_0 j58_1 j58_2 j58_3 j58_4 j58_5 j58_6 j58_7 j58_8 j58_9 hm58
            have j58_t : ∃ t, 0 ≤ t ∧ LBO (ctF ((w65)) ((u6_30))) t ∧ (∀ i, (0 : Int) ≤ i → i < 256 → ((w58_79)) i = hvF (ctF ((w65)) ((u6_30))) (t) i) ∧ (∀ i, (0 : Int) ≤ i → i < 256 → ((w58_82)) i = dpH ((w58_79)) i) ∧ (x58_1) = mxF ((w58_79)) := by assumption
            have hl1m : (x58_1) = mxF ((w58_79)) := by obtain ⟨t, t0, t1, t2, t3, t4⟩ := j58_t; exact t4
            refine Ew_of (pcₚ := 59) (fun _ => x_iload_n rfl l58_1) ?_
            refine Ew_of (pcₚ := 61) (fun _ => x_bipush (z := 11) rfl (by decide)) ?_
            refine w_icmple (t := 103) rfl rfl (show inr (x58_1) from j58_0) (show inr (11) from q_326) (fun b11 => ?_) (fun b11 => ?_)
            · have hfin : (∀ s, 0 ≤ s → s < 256 → ((w58_82)) s = dpH (hvF (ctF ((w65)) ((u6_30))) (LBT (ctF ((w65)) ((u6_30))))) s) ∧ (x58_1) = mxF (hvF (ctF ((w65)) ((u6_30))) (LBT (ctF ((w65)) ((u6_30))))) := by obtain ⟨t, t0, t1, t2, t3, t4⟩ := j58_t; have e := LBO_e t1 (by rw [← mxF_cg t2, ← t4]; omega); rw [e]; exact ⟨fun s a b => by rw [t3 s a b]; unfold dpH; rw [HTR_cg t2], by rw [← mxF_cg t2]; exact t4⟩
              have hfin1 := hfin.1
              have hfin2 := hfin.2
              have hci := (j58_4) (by omega)
              have hc1 := CI_1 hci
              have hB : ∀ i, (0 : Int) ≤ (w65) i ∧ (w65) i ≤ 255 := fun i => by have h1 : (0 : Int) ≤ A_58 65 i ∧ A_58 65 i ≤ 255 := H.arng 65 i; rw [show A_58 65 = w65 from (funext (hA_58 65 rfl)).trans ((funext (hA7 65 rfl)).trans ((funext (hA_24 65 rfl)).trans ((funext (hA_2 65 rfl)).trans (ew65))))] at h1; exact h1
              have : ∀ k, 0 ≤ k → k < (u6_30) → ((w58_82)) (((w65)) k) ≠ 0 := fun k a b => by have h1 := hB k; have h2 := (j58_9) k a b; have h3 := (j58_5) (by omega) _ h1.1 (by omega) (by omega); omega
              refine Ew_of (pcₚ := 104) (fun _ => x_iload_n rfl l58_1) ?_
              exact w_ireturn rfl (k (x58_1) σ _ _ H (SF_trans (SF_trans (SF_trans (SF_trans (SF_refl) hS_2 (any_sub rfl)) hS_24 (any_sub rfl)) hS6 (any_sub rfl)) hS_58 (any_sub rfl)) (SA_trans (SA_trans (SA_trans (SA_trans (SA_refl) hA_2 (any_subA rfl)) hA_24 (any_subA rfl)) hA7 (any_subA rfl)) hA_58 (any_subA rfl)) (w58_82) (ew58_82) (show inr (x58_1) from j58_0) (show 1 ≤ (x58_1) ∧ (x58_1) ≤ 11 by omega) (show CI ((w58_82)) ((x58_1)) by assumption) (show ∀ k, 0 ≤ k → k < (u6_30) → ((w58_82)) (((w65)) k) ≠ 0 by assumption) (show ∀ s, 0 ≤ s → s < 256 → ((w58_82)) s = dpH (hvF (ctF ((w65)) ((u6_30))) (LBT (ctF ((w65)) ((u6_30))))) s by assumption) (show (x58_1) = mxF (hvF (ctF ((w65)) ((u6_30))) (LBT (ctF ((w65)) ((u6_30))))) by assumption))
            · have h377 : 377 ≤ su (fun i => ((w58_79)) i) 256 := by rcases (show (x58_1) = 0 ∨ GF ((x58_1) : Int).toNat ≤ su (fun i => ((w58_79)) i) 256 from j58_3) with q | q; omega; have h5 := GF_le (show 12 ≤ ((x58_1) : Int).toNat by omega); have e : GF 12 = 377 := (by decide); omega
              refine Ew_of (pcₚ := 65) (fun _ => x_iconst rfl) ?_
              refine Ew_of (pcₚ := 66) (fun _ => x_istore_n rfl) ?_
              have : HV ((w58_79)) ((w58_79)) 0 := HV_0
              suffices hl66 : ∀ (m : Nat), ∀ (ls : rO) (σ : rS) (F_66 : hF) (A_66 : hA) (x66_2 : Int), rlook ls 0 = some (.ref (D 6)) → rlook ls 2 = some (I (x66_2)) → HS σ0 σ D N F_66 A_66 → SF [] F_58 F_66 → SA [79] A_58 A_66 → ∀ w66_79 : Int → Int, A_66 79 = w66_79 → (inr (x66_2)) → ((0) ≤ (x66_2)) → ((x66_2) ≤ (0) ∨ (x66_2) ≤ ((256))) → (HV ((w58_79)) ((w66_79)) ((x66_2))) → (((256)) - (x66_2)).toNat = m → Ew 420 (d + 2) 66 ls [] σ c s Q from
                hl66 _ _ σ _ _ (0) (rk_o (l58_0) rfl rfl) (rk_s) H (SF_refl) (SA_refl)  (w58_79) (ew58_79) (show inr (0) from q_2) (show (0) ≤ (0) from q_1) (show (0) ≤ (0) ∨ (0) ≤ ((256)) from q_0) (show HV ((w58_79)) ((w58_79)) ((0)) by assumption) rfl
              as_aux_lemma =>
              intro m
              induction m using Nat.strongRecOn with
              | _ m ih66 =>
                intro ls σ F_66 A_66 x66_2 l66_0 l66_2 H hS_66 hA_66  w66_79 ew66_79 j66_0 j66_1 j66_2 j66_3 hm66
                refine Ew_of (pcₚ := 67) (fun _ => x_iload_n rfl l66_2) ?_
                refine Ew_of (pcₚ := 70) (fun _ => x_sipush (z := 256) rfl (by decide)) ?_
                refine w_icmpge (t := 95) rfl rfl (show inr (x66_2) from j66_0) (show inr (256) from q_3) (fun b12 => ?_) (fun b12 => ?_)
                · have hhv : HV (w58_79) ((w66_79)) 256 := by rw [show (256 : Int) = (x66_2) by omega]; assumption
                  have hsu := HV_su hhv
                  have hnn : ∀ i, (0 : Int) ≤ i → i < 256 → 0 ≤ ((w66_79)) i := HV_nn hhv (by assumption)
                  have htwo : TWO ((w66_79)) := HV_two hhv (by assumption)
                  have hB : ∀ i, (0 : Int) ≤ (w65) i ∧ (w65) i ≤ 255 := fun i => by have h1 : (0 : Int) ≤ A_66 65 i ∧ A_66 65 i ≤ 255 := H.arng 65 i; rw [show A_66 65 = w65 from (funext (hA_66 65 rfl)).trans ((funext (hA_58 65 rfl)).trans ((funext (hA7 65 rfl)).trans ((funext (hA_24 65 rfl)).trans ((funext (hA_2 65 rfl)).trans (ew65)))))] at h1; exact h1
                  have hlp : ∀ j, 0 ≤ j → j < (u6_30) → 1 ≤ ((w66_79)) (((w65)) j) := fun j a b => by have h1 := hB j; exact HV_pos hhv h1.1 (by omega) ((j58_9) j a b)
                  refine Ew_of (pcₚ := 96) (fun _ => x_aload_n rfl l66_0) ?_
                  refine w_inv H (o := 6) rfl rfl rfl (H.perm 6 rfl) rfl rfl (by rfl) (M419 H (w66_79) (ew66_79) (hnn) (show su (fun i => ((w66_79)) i) 256 ≤ 16385 by omega) (htwo) (fun z17 σ F13 A14 H hS15 hA16 wq18 ewq19 pz17_0 pz17_1 pz17_2 pz17_3 pz17_4 pz17_5 pz17_6 => ⟨rfl, ?_⟩))
                  refine Ew_of (pcₚ := 100) (fun _ => x_istore_n rfl) ?_
                  refine Ew_of (pcₚ := 58) (fun _ => x_goto rfl rfl) ?_
                  have hlb1 : ∃ t, 0 ≤ t ∧ LBO (ctF ((w65)) ((u6_30))) t ∧ (∀ i, (0 : Int) ≤ i → i < 256 → ((w66_79)) i = hvF (ctF ((w65)) ((u6_30))) (t) i) ∧ (∀ i, (0 : Int) ≤ i → i < 256 → ((wq18)) i = dpH ((w66_79)) i) ∧ (z17) = mxF ((w66_79)) := by obtain ⟨t, t0, t1, t2, t3, t4⟩ := j58_t; exact ⟨t + 1, by omega, LBO_s t1 (by rw [← mxF_cg t2, ← hl1m]; omega) rfl, fun i a b => by rw [hhv.1 i a (by omega), t2 i a b]; exact hvF_s t0 rfl, pz17_5, pz17_6⟩
                  exact ih58 _ (by omega) _ σ _ _ (z17) (rk_o (l66_0) rfl rfl) (rk_s) H (SF_trans (SF_trans (hS_58) hS_66 (any_sub rfl)) hS15 (any_sub rfl)) (SA_trans (SA_trans (hA_58) hA_66 (any_subA rfl)) hA16 (any_subA rfl))  (w66_79) ((funext (hA16 79 rfl)).trans (ew66_79)) (wq18) (ewq19) (show inr (z17) from pz17_0) (hlb1) (show 0 ≤ (z17) ∧ (z17) ≤ 600 from pz17_1) (show (z17) = 0 ∨ GF ((z17) : Int).toNat ≤ su (fun i => ((w66_79)) i) 256 by assumption) (pz17_3) (show (z17) ≤ 11 → ∀ k, (0 : Int) ≤ k → k < 256 → 0 < ((w66_79)) k → 1 ≤ ((wq18)) k by assumption) (hnn) (show su (fun i => ((w66_79)) i) 256 ≤ 16385 by omega) (htwo) (hlp) rfl
                · have hbb := HV_b (j66_3) (by assumption) (by omega) (by omega)
                  refine Ew_of (pcₚ := 74) (fun _ => x_aload_n rfl l66_0) ?_
                  refine w_gT H (o := 6) (t := 79) rfl (H.perm 6 rfl) rfl rfl rfl rfl rfl rfl ?_
                  refine Ew_of (pcₚ := 78) (fun _ => x_iload_n rfl l66_2) ?_
                  refine Ew_of (pcₚ := 79) (fun _ => x_aload_n rfl l66_0) ?_
                  refine w_gT H (o := 6) (t := 79) rfl (H.perm 6 rfl) rfl rfl rfl rfl rfl rfl ?_
                  refine Ew_of (pcₚ := 83) (fun _ => x_iload_n rfl l66_2) ?_
                  refine w_lI H (o := 79) (n := 256) rfl (H.perm 79 rfl) rfl rfl (H.fix 79 rfl rfl) (show 0 ≤ x66_2 ∧ x66_2 < ((256 : Nat) : Int) from q_23 b12 j66_1) (by decide) (fun v20 ev20 qv20 => ?_)
                  have qv20 : (-2147483648 : Int) ≤ v20 ∧ v20 ≤ 2147483647 := qv20
                  have ev20 : (w66_79) (x66_2) = v20 := (congrFun (ew66_79) (x66_2)).symm.trans ev20
                  refine Ew_of (pcₚ := 85) (fun _ => x_iconst rfl) ?_
                  refine w_iadd rfl ?_
                  refine Ew_of (pcₚ := 87) (fun _ => x_iconst rfl) ?_
                  refine w_idiv rfl (show inr ((v20 + 1)) ∧ 0 ≤ (v20 + 1) by omega) (show inr (2) ∧ 0 < 2 from q_1234) ?_
                  refine w_sI H (o := 79) (n := 256) rfl (H.perm 79 rfl) rfl rfl (H.fix 79 rfl rfl) (show 0 ≤ x66_2 ∧ x66_2 < ((256 : Nat) : Int) from q_23 b12 j66_1) (by decide) (show (-2147483648 : Int) ≤ ((v20 + 1) / 2) ∧ ((v20 + 1) / 2) ≤ 2147483647 from q_2251 qv20) (fun σ H => ?_)
                  refine Ew_of (pcₚ := 92) (fun _ => x_iinc (len := 3) rfl (l66_2)) ?_
                  refine Ew_of (pcₚ := 66) (fun _ => x_goto rfl rfl) ?_
                  have : HV (w58_79) ((upd1 (w66_79) (x66_2) (((v20 + 1) / 2)))) (((x66_2 + 1))) := HV_next (by assumption) rfl (by omega)
                  exact ih66 _ (msE hm66 q_26 (q_27 b12)) _ σ _ _ ((x66_2 + 1)) (rk_o (l66_0) rfl rfl) (rk_s) H (hS_66) (SA_upd (hA_66) rfl)  (upd1 (w66_79) (x66_2) (((v20 + 1) / 2))) (congrArg (fun q => upd1 q (x66_2) (((v20 + 1) / 2))) (ew66_79)) (show inr ((x66_2 + 1)) from q_25 b12 j66_1) (show (0) ≤ ((x66_2 + 1)) from q_14 j66_1) (show ((x66_2 + 1)) ≤ (0) ∨ ((x66_2 + 1)) ≤ ((256)) from q_24 b12) (show HV ((w58_79)) ((upd1 (w66_79) (x66_2) (((v20 + 1) / 2)))) (((x66_2 + 1))) by assumption) rfl
        · refine Ew_of (pcₚ := 33) (fun _ => x_aload_n rfl l24_0) ?_
          refine w_gT H (o := 6) (t := 79) rfl (H.perm 6 rfl) rfl rfl rfl rfl rfl rfl ?_
          refine Ew_of (pcₚ := 37) (fun _ => x_aload_n rfl l24_0) ?_
          refine w_gT H (o := 6) (t := 65) rfl (H.perm 6 rfl) rfl rfl rfl rfl rfl rfl ?_
          refine Ew_of (pcₚ := 41) (fun _ => x_iload_n rfl l24_1) ?_
          refine w_lI H (o := 65) (n := 16385) rfl (H.perm 65 rfl) rfl rfl (H.fix 65 rfl rfl) (show 0 ≤ x24_1 ∧ x24_1 < ((16385 : Nat) : Int) from q_2166 b3 j24_1 r1) (by decide) (fun v21 ev21 qv21 => ?_)
          have qv21 : (0 : Int) ≤ v21 ∧ v21 ≤ 255 := qv21
          have ev21 : (w65) (x24_1) = v21 := (congrFun ((funext (hA_24 65 rfl)).trans ((funext (hA_2 65 rfl)).trans (ew65))) (x24_1)).symm.trans ev21
          have hly := ev21
          have hcts := fun i (a : (0 : Int) ≤ i) (b : i < 256) => ctF_s (lt := (w65)) (n := (x24_1)) (i := i) (by omega) hly
          have hctl : ∀ i, (0 : Int) ≤ i → i < 256 → ((w24_79)) i = ctF ((w65)) ((x24_1)) i := by assumption
          have hnn := (j24_5) ((v21)) (by omega) (by omega)
          have hup := (j24_7) ((v21)) (by omega) (by omega)
          have hs1 := su_upd1 (g := (w24_79)) (fun x => x) (j := (v21)) (v := ((w24_79)) ((v21)) + 1) (n := 256) (by omega) (by omega)
          refine Ew_of (pcₚ := 43) (fun _ => x_dup2 rfl rfl rfl) ?_
          refine w_lI H (o := 79) (n := 256) rfl (H.perm 79 rfl) rfl rfl (H.fix 79 rfl rfl) (show 0 ≤ v21 ∧ v21 < ((256 : Nat) : Int) from q_1433 qv21) (by decide) (fun v22 ev22 qv22 => ?_)
          have qv22 : (-2147483648 : Int) ≤ v22 ∧ v22 ≤ 2147483647 := qv22
          have ev22 : (w24_79) (v21) = v22 := (congrFun (ew24_79) (v21)).symm.trans ev22
          refine Ew_of (pcₚ := 45) (fun _ => x_iconst rfl) ?_
          refine w_iadd rfl ?_
          have hxx : ((v22 + 1)) = ((w24_79)) ((v21)) + 1 := q_11 ev22
          have hct1 : ∀ i, (0 : Int) ≤ i → i < 256 → (upd1 ((w24_79)) ((v21)) (((v22 + 1)))) i = ctF ((w65)) ((x24_1) + 1) i := fun i a b => by have hc := hcts i a b; by_cases e : i = (v21); ((rw [e, upd1_s, hxx, hctl ((v21)) (by omega) (by omega)]; rw [e] at hc; omega)); ((rw [upd1_o e, hctl i a b]; omega))
          rw [← hxx] at hs1
          have : ∀ i, (0 : Int) ≤ i → i < 256 → 0 ≤ (upd1 ((w24_79)) ((v21)) (((v22 + 1)))) i := fun i a b => by by_cases e : i = (v21); rw [e, upd1_s]; omega; rw [upd1_o e]; exact (j24_5) i a b
          have : ∀ i, (0 : Int) ≤ i → i < 256 → (upd1 ((w24_79)) ((v21)) (((v22 + 1)))) i ≤ (x24_1) + 1 := fun i a b => by by_cases e : i = (v21); rw [e, upd1_s]; omega; rw [upd1_o e]; have := (j24_7) i a b; omega
          have : ∀ j, 0 ≤ j → j < (x24_1) + 1 → 1 ≤ (upd1 ((w24_79)) ((v21)) (((v22 + 1)))) (((w65)) j) := fun j a b => by by_cases e : ((w65)) j = (v21); rw [e, upd1_s]; omega; rw [upd1_o e]; refine (j24_6) j a ?_; by_cases e2 : j = (x24_1); rw [e2] at e; exact absurd hly e; omega
          refine w_sI H (o := 79) (n := 256) rfl (H.perm 79 rfl) rfl rfl (H.fix 79 rfl rfl) (show 0 ≤ v21 ∧ v21 < ((256 : Nat) : Int) from q_1433 qv21) (by decide) (show (-2147483648 : Int) ≤ (v22 + 1) ∧ (v22 + 1) ≤ 2147483647 by omega) (fun σ H => ?_)
          refine Ew_of (pcₚ := 50) (fun _ => x_iinc (len := 3) rfl (l24_1)) ?_
          refine Ew_of (pcₚ := 24) (fun _ => x_goto rfl rfl) ?_
          exact ih24 _ (msE hm24 q_16 (q_17 b3)) _ σ _ _ ((x24_1 + 1)) (rk_o (l24_0) rfl rfl) (rk_s) H (hS_24) (SA_upd (hA_24) rfl)  (upd1 (w24_79) (v21) ((v22 + 1))) (congrArg (fun q => upd1 q (v21) ((v22 + 1))) (ew24_79)) (show inr ((x24_1 + 1)) from q_2167 b3 j24_1 r1) (show (0) ≤ ((x24_1 + 1)) from q_14 j24_1) (show ((x24_1 + 1)) ≤ (0) ∨ ((x24_1 + 1)) ≤ ((u6_30)) from q_13 b3) (hct1) (show su (fun i => ((upd1 (w24_79) (v21) ((v22 + 1)))) i) 256 = ((x24_1 + 1)) by omega) (show ∀ i, (0 : Int) ≤ i → i < 256 → 0 ≤ ((upd1 (w24_79) (v21) ((v22 + 1)))) i by assumption) (show ∀ j, 0 ≤ j → j < ((x24_1 + 1)) → 1 ≤ ((upd1 (w24_79) (v21) ((v22 + 1)))) (((w65)) j) by assumption) (show ∀ i, (0 : Int) ≤ i → i < 256 → ((upd1 (w24_79) (v21) ((v22 + 1)))) i ≤ ((x24_1 + 1)) by assumption) rfl
    · refine Ew_of (pcₚ := 10) (fun _ => x_aload_n rfl l2_0) ?_
      refine w_gT H (o := 6) (t := 79) rfl (H.perm 6 rfl) rfl rfl rfl rfl rfl rfl ?_
      refine Ew_of (pcₚ := 14) (fun _ => x_iload_n rfl l2_1) ?_
      refine Ew_of (pcₚ := 15) (fun _ => x_iconst rfl) ?_
      refine w_sI H (o := 79) (n := 256) rfl (H.perm 79 rfl) rfl rfl (H.fix 79 rfl rfl) (show 0 ≤ x2_1 ∧ x2_1 < ((256 : Nat) : Int) from q_23 b2 j2_1) (by decide) (show (-2147483648 : Int) ≤ 0 ∧ 0 ≤ 2147483647 from q_22) (fun σ H => ?_)
      refine Ew_of (pcₚ := 19) (fun _ => x_iinc (len := 3) rfl (l2_1)) ?_
      refine Ew_of (pcₚ := 2) (fun _ => x_goto rfl rfl) ?_
      have : ∀ i, (0 : Int) ≤ i → i < ((x2_1 + 1)) → ((upd1 (w2_79) (x2_1) (0))) (0 + i) = 0 := share_z j2_3
      exact ih2 _ (msE hm2 q_26 (q_27 b2)) _ σ _ _ ((x2_1 + 1)) (rk_o (l2_0) rfl rfl) (rk_s) H (hS_2) (SA_upd (hA_2) rfl)  (upd1 (w2_79) (x2_1) (0)) (congrArg (fun q => upd1 q (x2_1) (0)) (ew2_79)) (show inr ((x2_1 + 1)) from q_25 b2 j2_1) (show (0) ≤ ((x2_1 + 1)) from q_14 j2_1) (show ((x2_1 + 1)) ≤ (0) ∨ ((x2_1 + 1)) ≤ ((256)) from q_24 b2) (show ∀ i, 0 ≤ i → i < ((x2_1 + 1)) → ((upd1 (w2_79) (x2_1) (0))) (0 + i) = 0 by assumption) rfl


end
section
/-! 59.ref -/
theorem M304b {σ0 σ : rS} {D N : Nat → Nat} {F : hF} {A : hA} {d c s : Nat} {Q : wQ} (H : HS σ0 σ D N F A) {a1 : Int} (h0 : inr (a1)) (k : ∀ σ Fₚ Aₚ, HS σ0 σ D N Fₚ Aₚ → SF [(2, 1)] F Fₚ → SA [] A Aₚ → ∀ y2_1 : Int, Fₚ 2 1 = y2_1 → ((y2_1) = (a1)) → Q none σ c s) : Ew 304 (d + 0) 0 (rargs 0 [.ref (D 2), I a1]) [] σ c s Q := by
  refine Ew_of (pcₚ := 1) (fun _ => x_aload_n rfl rfl) ?_
  refine Ew_of (pcₚ := 2) (fun _ => x_iload_n rfl rfl) ?_
  refine w_pI H (o := 2) rfl rfl (H.perm 2 rfl) rfl rfl rfl (fun _ => rfl) rfl (show (-2147483648 : Int) ≤ a1 ∧ a1 ≤ 2147483647 from q_31 h0) (fun σ H => ?_)
  exact w_ret rfl (k σ _ _ H (SF_upd (SF_refl) rfl) (SA_refl) (a1) (rfl) (show (a1) = a1 from q_303))

theorem M79 {σ0 σ : rS} {D N : Nat → Nat} {F : hF} {A : hA} {d c s : Nat} {Q : wQ} (H : HS σ0 σ D N F A) {a1 : Int} (u3_2 : Int) (eu3_2 : F 3 2 = u3_2) (u5_2 : Int) (eu5_2 : F 5 2 = u5_2) (h0 : inr (a1)) (k : ∀ (z : Int) σ Fₚ Aₚ, HS σ0 σ D N Fₚ Aₚ → SF [] F Fₚ → SA [] A Aₚ → (inr (z)) → (0 ≤ (z) ∧ (z) ≤ 65536) → ((a1) < 2 ∧ (z) = (u3_2) ∨ (a1) = 4 ∧ (z) = (u5_2) ∨ 2 ≤ (a1) ∧ (a1) ≠ 4 ∧ (z) = 0) → Q (some (I z)) σ c s) : Ew 79 (d + 0) 0 (rargs 0 [.ref (D 0), I a1]) [] σ c s Q := by
  have r1 : (0 : Int) ≤ u3_2 ∧ u3_2 ≤ 65536 := rngE (show (0 : Int) ≤ F 3 2 ∧ F 3 2 ≤ 65536 from H.frng 3 2) (show F 3 2 = u3_2 from (eu3_2))
  have r2 : (0 : Int) ≤ u5_2 ∧ u5_2 ≤ 65536 := rngE (show (0 : Int) ≤ F 5 2 ∧ F 5 2 ≤ 65536 from H.frng 5 2) (show F 5 2 = u5_2 from (eu5_2))
  refine Ew_of (pcₚ := 1) (fun _ => x_iload_n rfl rfl) ?_
  refine Ew_of (pcₚ := 2) (fun _ => x_iconst rfl) ?_
  refine w_icmpge (t := 15) rfl rfl (show inr (a1) from h0) (show inr (2) from q_122) (fun b3 => ?_) (fun b3 => ?_)
  · refine Ew_of (pcₚ := 16) (fun _ => x_iload_n rfl rfl) ?_
    refine Ew_of (pcₚ := 17) (fun _ => x_iconst rfl) ?_
    refine w_icmpne (t := 30) rfl rfl (show inr (a1) from h0) (show inr (4) from q_216) (fun b4 => ?_) (fun b4 => ?_)
    · refine Ew_of (pcₚ := 31) (fun _ => x_iconst rfl) ?_
      exact w_ireturn rfl (k (0) σ _ _ H (SF_refl) (SA_refl) (show inr (0) from q_2) (show 0 ≤ (0) ∧ (0) ≤ 65536 by first | exact q_300 | omega) (show a1 < 2 ∧ (0) = (u3_2) ∨ a1 = 4 ∧ (0) = (u5_2) ∨ 2 ≤ a1 ∧ a1 ≠ 4 ∧ (0) = 0 by first | exact q_2303 b3 b4 | omega))
    · refine Ew_of (pcₚ := 21) (fun _ => x_aload_n rfl rfl) ?_
      refine w_gT H (o := 0) (t := 5) rfl (H.perm 0 rfl) rfl rfl rfl rfl rfl rfl ?_
      refine w_gI H (o := 5) (w := u5_2) rfl (H.perm 5 rfl) rfl rfl rfl (fun _ => rfl) (eu5_2) ?_
      refine Ew_of (pcₚ := 31) (fun _ => x_goto rfl rfl) ?_
      exact w_ireturn rfl (k (u5_2) σ _ _ H (SF_refl) (SA_refl) (show inr (u5_2) from q_286 r2) (show 0 ≤ (u5_2) ∧ (u5_2) ≤ 65536 from r2) (show a1 < 2 ∧ (u5_2) = (u3_2) ∨ a1 = 4 ∧ (u5_2) = (u5_2) ∨ 2 ≤ a1 ∧ a1 ≠ 4 ∧ (u5_2) = 0 from q_2304 b4))
  · refine Ew_of (pcₚ := 6) (fun _ => x_aload_n rfl rfl) ?_
    refine w_gT H (o := 0) (t := 3) rfl (H.perm 0 rfl) rfl rfl rfl rfl rfl rfl ?_
    refine w_gI H (o := 3) (w := u3_2) rfl (H.perm 3 rfl) rfl rfl rfl (fun _ => rfl) (eu3_2) ?_
    refine Ew_of (pcₚ := 31) (fun _ => x_goto rfl rfl) ?_
    exact w_ireturn rfl (k (u3_2) σ _ _ H (SF_refl) (SA_refl) (show inr (u3_2) from q_286 r1) (show 0 ≤ (u3_2) ∧ (u3_2) ≤ 65536 from r1) (show a1 < 2 ∧ (u3_2) = (u3_2) ∨ a1 = 4 ∧ (u3_2) = (u5_2) ∨ 2 ≤ a1 ∧ a1 ≠ 4 ∧ (u3_2) = 0 from q_2305 b3))


end
