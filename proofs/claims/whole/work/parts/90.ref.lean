set_option maxHeartbeats 16000000 in
/-- Writer.saySequences -/
theorem M444 {σ0 σ : rS} {D N : Nat → Nat} {F : hF} {A : hA} {d c s : Nat} {Q : wQ} (H : HS σ0 σ D N F A)  (u6_28 : Int) (eu6_28 : F 6 28 = u6_28) (u6_35 : Int) (eu6_35 : F 6 35 = u6_35) (u6_37 : Int) (eu6_37 : F 6 37 = u6_37) (w54 : Int → Int) (ew54 : A 54 = w54) (w55 : Int → Int) (ew55 : A 55 = w55) (w62 : Int → Int) (ew62 : A 62 = w62) (w63 : Int → Int) (ew63 : A 63 = w63) (w64 : Int → Int) (ew64 : A 64 = w64) (w66 : Int → Int) (ew66 : A 66 = w66) (w67 : Int → Int) (ew67 : A 67 = w67) (w68 : Int → Int) (ew68 : A 68 = w68) (w69 : Int → Int) (ew69 : A 69 = w69) (w70 : Int → Int) (ew70 : A 70 = w70) (w87 : Int → Int) (ew87 : A 87 = w87) (rr : Int × Int × Int) (h0 : WO ((w54)) ((w55))) (h1 : 0 ≤ (u6_37) ∧ (u6_37) ≤ 70000000) (h2 : TLI ((w66)) ((w67)) ((w62)) ((w63)) ((u6_28))) (h3 : GOE ((w62)) ((w63)) ((u6_28)) 16384) (h4 : TLW ((w66)) ((w67)) ((w68)) ((w62)) ((w63)) ((w64)) rr ((u6_28))) (k : ∀ σ F' A', HS σ0 σ D N F' A' → SF [(6, 35), (6, 37)] F F' → SA [54, 55, 69, 70, 71, 72, 73, 74, 75, 76, 77, 78, 87] A A' → ∀ y6_35 : Int, F' 6 35 = y6_35 → ∀ y6_37 : Int, F' 6 37 = y6_37 → ∀ v54 : Int → Int, A' 54 = v54 → ∀ v55 : Int → Int, A' 55 = v55 → ∀ v69 : Int → Int, A' 69 = v69 → ∀ v70 : Int → Int, A' 70 = v70 → ∀ v87 : Int → Int, A' 87 = v87 → ((u6_37) ≤ (y6_37) ∧ (y6_37) ≤ (u6_37) + 30000) → (WO ((v54)) ((v55))) → (IMP (MDX ((w69)) ((u6_35))) (SQW (BR ((w54)) ((w55))) (BR ((v54)) ((v55))) (sq ((w62)) ((w63)) ((w64)) ((u6_28))) rr ((w87)) ((v87)) ((v69)) ((y6_35)) (fun M_ => QAP 65536 ((w70)) ((u6_37)) ((v70)) ((y6_37)) (M_)))) → Q none σ c s) : Ew 444 (d + 6) 0 (rargs 0 [.ref (D 6)]) [] σ c s Q := by
  have r1 : (0 : Int) ≤ u6_28 ∧ u6_28 ≤ 8001 := by have h1 : (0 : Int) ≤ F 6 28 ∧ F 6 28 ≤ 8001 := H.frng 6 28; rw [show F 6 28 = u6_28 from (eu6_28)] at h1; exact h1
  have r2 : (0 : Int) ≤ u6_35 ∧ u6_35 ≤ 100000000 := by have h1 : (0 : Int) ≤ F 6 35 ∧ F 6 35 ≤ 100000000 := H.frng 6 35; rw [show F 6 35 = u6_35 from (eu6_35)] at h1; exact h1
  have r3 : (0 : Int) ≤ u6_37 ∧ u6_37 ≤ 100000000 := by have h1 : (0 : Int) ≤ F 6 37 ∧ F 6 37 ≤ 100000000 := H.frng 6 37; rw [show F 6 37 = u6_37 from (eu6_37)] at h1; exact h1
  have htl : TLI ((w66)) ((w67)) ((w62)) ((w63)) ((u6_28)) := by assumption
  have hgo : GOE ((w62)) ((w63)) ((u6_28)) 16384 := by assumption
  have htw : TLW ((w66)) ((w67)) ((w68)) ((w62)) ((w63)) ((w64)) rr ((u6_28)) := by assumption
  have hQl : ((sq ((w62)) ((w63)) ((w64)) ((u6_28))).length : Int) = (u6_28) := by rw [sq_len]; omega
  have hs8 : (u6_28) ≤ 8001 := by omega
  refine Ew_of (pc' := 1) (fun _ => x_aload_n rfl rfl) ?_
  refine w_gI H (o := 6) (w := u6_28) rfl (H.perm 6 rfl) rfl rfl rfl (fun _ => rfl) (eu6_28) ?_
  refine Ew_of (pc' := 5) (fun _ => x_istore_n rfl) ?_
  have hc70 : ∀ (ls : rO) (σ : rS) (F_c70 : hF) (A_c70 : hA) , rlook ls 0 = some (.ref (D 6)) → rlook ls 1 = some (I (u6_28)) → HS σ0 σ D N F_c70 A_c70 → SF [(6, 37)] F F_c70 → SA [70] A A_c70 → ∀ yc70_6_37 : Int, F_c70 6 37 = yc70_6_37 → ∀ wc70_70 : Int → Int, A_c70 70 = wc70_70 → ((u6_37) ≤ (yc70_6_37) ∧ (yc70_6_37) ≤ (u6_37) + 3) → (QAP 65536 ((w70)) ((u6_37)) ((wc70_70)) ((yc70_6_37)) (numB ((u6_28)))) → Ew 444 (d + 6) 70 ls [] σ c s Q := by
   as_aux_lemma =>
    intro  ls σ F_c70 A_c70  lc70_0 lc70_1 H hS_c70 hA_c70 yc70_6_37 eyc70_6_37 wc70_70 ewc70_70 jc70_0 jc70_1
    have r4 : (0 : Int) ≤ yc70_6_37 ∧ yc70_6_37 ≤ 100000000 := by have h1 : (0 : Int) ≤ F_c70 6 37 ∧ F_c70 6 37 ≤ 100000000 := H.frng 6 37; rw [show F_c70 6 37 = yc70_6_37 from (eyc70_6_37)] at h1; exact h1
    have j70_q : QAP 65536 ((w70)) ((u6_37)) ((wc70_70)) ((yc70_6_37)) (numB ((u6_28))) := by assumption
    refine Ew_of (pc' := 71) (fun _ => x_iload_n rfl lc70_1) ?_
    refine w_ifne (t := 75) rfl rfl (show inr (u6_28) by omega) (fun b5 => ?_) (fun b5 => ?_)
    · refine Ew_of (pc' := 76) (fun _ => x_aload_n rfl lc70_0) ?_
      refine w_gI H (o := 6) (w := yc70_6_37) rfl (H.perm 6 rfl) rfl rfl rfl (fun _ => rfl) (eyc70_6_37) ?_
      obtain ⟨gm, hgm⟩ : ∃ g : Int → Int, g = (wc70_70) := ⟨_, rfl⟩
      obtain ⟨qm, hqm⟩ : ∃ q : Int, q = (yc70_6_37) := ⟨_, rfl⟩
      rw [← hgm, ← hqm] at j70_q
      refine Ew_of (pc' := 80) (fun _ => x_istore_n rfl) ?_
      refine Ew_of (pc' := 81) (fun _ => x_aload_n rfl (rk_o (lc70_0) rfl rfl)) ?_
      refine Ew_of (pc' := 82) (fun _ => x_iconst rfl) ?_
      refine w_inv H (o := 6) rfl rfl rfl (H.perm 6 rfl) rfl rfl (by rfl) (M392 H (yc70_6_37) ((eyc70_6_37)) (wc70_70) (ewc70_70) (show inr (0) by omega) (show 0 ≤ (yc70_6_37) ∧ (yc70_6_37) ≤ 99999999 by omega) (fun σ F6 A7 H hS8 hA9 y11 ey12 wq13 ewq14 pz10_0 pz10_1 => ⟨rfl, ?_⟩))
      have r15 : (0 : Int) ≤ y11 ∧ y11 ≤ 100000000 := by have h1 : (0 : Int) ≤ F6 6 37 ∧ F6 6 37 ≤ 100000000 := H.frng 6 37; rw [show F6 6 37 = y11 from (ey12)] at h1; exact h1
      have hu0 : u8 0 = 0 := rfl
      have h85 := pz10_1
      rw [← hgm, ← hqm] at h85
      refine Ew_of (pc' := 86) (fun _ => x_iconst rfl) ?_
      refine Ew_of (pc' := 87) (fun _ => x_istore_n rfl) ?_
      refine Ew_of (pc' := 88) (fun _ => x_iconst rfl) ?_
      refine Ew_of (pc' := 90) (fun _ => x_istore rfl) ?_
      have : ∀ t, (0 : Int) ≤ t → t < (0 : Int) → TBL ((w54)) ((w55)) (sh ((w66)) (8001 * t)) t ((u6_28)) := fun t a b => absurd b (by omega)
      have : IMP (MDX ((w69)) ((u6_35))) (BDO (BR ((w54)) ((w55))) (BR ((w54)) ((w55))) (sq ((w62)) ((w63)) ((w64)) ((u6_28))) rr 0 ∧ MDX ((w69)) ((u6_35)) ∧ (0 : Int) = mdU (BR ((w54)) ((w55))) (sq ((w62)) ((w63)) ((w64)) ((u6_28))) rr (0 : Int).toNat ∧ (w87) = ntU 8 (BR ((w54)) ((w55))) (sq ((w62)) ((w63)) ((w64)) ((u6_28))) rr ((w87)) (0 : Int).toNat ∧ QAP 65536 gm qm ((wq13)) ((y11)) ([0] ++ tqU (BR ((w54)) ((w55))) (sq ((w62)) ((w63)) ((w64)) ((u6_28))) rr (0 : Int).toNat)) := fun q => ⟨BDO_0, q, rfl, rfl, by have h := h85; rw [hu0] at h; exact QAP_c h (by rfl)⟩
      suffices hl90 : ∀ (m : Nat), ∀ (ls : rO) (σ : rS) (F_90 : hF) (A_90 : hA) (x90_3 : Int) (x90_4 : Int), rlook ls 0 = some (.ref (D 6)) → rlook ls 2 = some (I (yc70_6_37)) → rlook ls 3 = some (I (x90_3)) → rlook ls 4 = some (I (x90_4)) → HS σ0 σ D N F_90 A_90 → SF [(6, 35), (6, 37)] F6 F_90 → SA [54, 55, 69, 70, 71, 72, 73, 74, 75, 76, 77, 78, 87] A7 A_90 → ∀ y90_6_35 : Int, F_90 6 35 = y90_6_35 → ∀ y90_6_37 : Int, F_90 6 37 = y90_6_37 → ∀ w90_54 : Int → Int, A_90 54 = w90_54 → ∀ w90_55 : Int → Int, A_90 55 = w90_55 → ∀ w90_69 : Int → Int, A_90 69 = w90_69 → ∀ w90_70 : Int → Int, A_90 70 = w90_70 → ∀ w90_87 : Int → Int, A_90 87 = w90_87 → (inr (x90_3)) → (inr (x90_4)) → ((0) ≤ (x90_4)) → ((x90_4) ≤ (0) ∨ (x90_4) ≤ (3)) → (WO ((w90_54)) ((w90_55))) → (∀ t, (0 : Int) ≤ t → t < (x90_4) → TBL ((w90_54)) ((w90_55)) (sh ((w66)) (8001 * t)) t ((u6_28))) → ((u6_37) ≤ (y90_6_37) ∧ (y90_6_37) ≤ (u6_37) + (4 + 100 * (x90_4))) → (0 ≤ (x90_3) ∧ (x90_3) ≤ 252) → ((x90_4) = 0 ∧ (x90_3) = 0 ∨ (x90_4) = 1 ∧ (x90_3) % 64 = 0 ∧ (x90_3) ≤ 192 ∨ (x90_4) = 2 ∧ (x90_3) % 16 = 0 ∧ (x90_3) ≤ 240 ∨ (x90_4) = 3) → (IMP (MDX ((w69)) ((u6_35))) (BDO (BR ((w90_54)) ((w90_55))) (BR ((w54)) ((w55))) (sq ((w62)) ((w63)) ((w64)) ((u6_28))) rr ((x90_4)) ∧ MDX ((w90_69)) ((y90_6_35)) ∧ (x90_3) = mdU (BR ((w54)) ((w55))) (sq ((w62)) ((w63)) ((w64)) ((u6_28))) rr ((x90_4) : Int).toNat ∧ (w90_87) = ntU 8 (BR ((w54)) ((w55))) (sq ((w62)) ((w63)) ((w64)) ((u6_28))) rr ((w87)) ((x90_4) : Int).toNat ∧ QAP 65536 gm qm ((w90_70)) ((y90_6_37)) ([0] ++ tqU (BR ((w54)) ((w55))) (sq ((w62)) ((w63)) ((w64)) ((u6_28))) rr ((x90_4) : Int).toNat))) → ((3) - (x90_4)).toNat = m → Ew 444 (d + 6) 90 ls [] σ c s Q from
        hl90 _ _ σ _ _ (0) (0) (rk_o (rk_o (rk_o (lc70_0) rfl rfl) rfl rfl) rfl rfl) (rk_o (rk_o (rk_s) rfl rfl) rfl rfl) (rk_o (rk_s) rfl rfl) (rk_s) H (SF_refl) (SA_refl) (u6_35) ((((hS8 6 35 rfl).trans (hS_c70 6 35 rfl)).trans (eu6_35))) (y11) ((ey12)) (w54) ((funext (hA9 54 rfl)).trans ((funext (hA_c70 54 rfl)).trans (ew54))) (w55) ((funext (hA9 55 rfl)).trans ((funext (hA_c70 55 rfl)).trans (ew55))) (w69) ((funext (hA9 69 rfl)).trans ((funext (hA_c70 69 rfl)).trans (ew69))) (wq13) (ewq14) (w87) ((funext (hA9 87 rfl)).trans ((funext (hA_c70 87 rfl)).trans (ew87))) (show inr (0) by omega) (show inr (0) by omega) (show (0) ≤ (0) by omega) (show (0) ≤ (0) ∨ (0) ≤ (3) by omega) (show WO ((w54)) ((w55)) by assumption) (show ∀ t, (0 : Int) ≤ t → t < (0) → TBL ((w54)) ((w55)) (sh ((w66)) (8001 * t)) t ((u6_28)) by assumption) (show (u6_37) ≤ (y11) ∧ (y11) ≤ (u6_37) + (4 + 100 * (0)) by omega) (show 0 ≤ (0) ∧ (0) ≤ 252 by omega) (show (0) = 0 ∧ (0) = 0 ∨ (0) = 1 ∧ (0) % 64 = 0 ∧ (0) ≤ 192 ∨ (0) = 2 ∧ (0) % 16 = 0 ∧ (0) ≤ 240 ∨ (0) = 3 by omega) (show IMP (MDX ((w69)) ((u6_35))) (BDO (BR ((w54)) ((w55))) (BR ((w54)) ((w55))) (sq ((w62)) ((w63)) ((w64)) ((u6_28))) rr ((0)) ∧ MDX ((w69)) ((u6_35)) ∧ (0) = mdU (BR ((w54)) ((w55))) (sq ((w62)) ((w63)) ((w64)) ((u6_28))) rr ((0) : Int).toNat ∧ (w87) = ntU 8 (BR ((w54)) ((w55))) (sq ((w62)) ((w63)) ((w64)) ((u6_28))) rr ((w87)) ((0) : Int).toNat ∧ QAP 65536 gm qm ((wq13)) ((y11)) ([0] ++ tqU (BR ((w54)) ((w55))) (sq ((w62)) ((w63)) ((w64)) ((u6_28))) rr ((0) : Int).toNat)) by assumption) rfl
      as_aux_lemma =>
      intro m
      induction m using Nat.strongRecOn with
      | _ m ih90 =>
        intro ls σ F_90 A_90 x90_3 x90_4 l90_0 l90_2 l90_3 l90_4 H hS_90 hA_90 y90_6_35 ey90_6_35 y90_6_37 ey90_6_37 w90_54 ew90_54 w90_55 ew90_55 w90_69 ew90_69 w90_70 ew90_70 w90_87 ew90_87 j90_0 j90_1 j90_2 j90_3 j90_4 j90_5 j90_6 j90_7 j90_8 j90_9 hm90
        have r16 : (0 : Int) ≤ y90_6_35 ∧ y90_6_35 ≤ 100000000 := by have h1 : (0 : Int) ≤ F_90 6 35 ∧ F_90 6 35 ≤ 100000000 := H.frng 6 35; rw [show F_90 6 35 = y90_6_35 from (ey90_6_35)] at h1; exact h1
        have r17 : (0 : Int) ≤ y90_6_37 ∧ y90_6_37 ≤ 100000000 := by have h1 : (0 : Int) ≤ F_90 6 37 ∧ F_90 6 37 ≤ 100000000 := H.frng 6 37; rw [show F_90 6 37 = y90_6_37 from (ey90_6_37)] at h1; exact h1
        have j90_t : ∀ t, (0 : Int) ≤ t → t < (x90_4) → TBL ((w90_54)) ((w90_55)) (sh ((w66)) (8001 * t)) t ((u6_28)) := by assumption
        have j90_j : IMP (MDX ((w69)) ((u6_35))) (BDO (BR ((w90_54)) ((w90_55))) (BR ((w54)) ((w55))) (sq ((w62)) ((w63)) ((w64)) ((u6_28))) rr ((x90_4)) ∧ MDX ((w90_69)) ((y90_6_35)) ∧ (x90_3) = mdU (BR ((w54)) ((w55))) (sq ((w62)) ((w63)) ((w64)) ((u6_28))) rr ((x90_4) : Int).toNat ∧ (w90_87) = ntU 8 (BR ((w54)) ((w55))) (sq ((w62)) ((w63)) ((w64)) ((u6_28))) rr ((w87)) ((x90_4) : Int).toNat ∧ QAP 65536 gm qm ((w90_70)) ((y90_6_37)) ([0] ++ tqU (BR ((w54)) ((w55))) (sq ((w62)) ((w63)) ((w64)) ((u6_28))) rr ((x90_4) : Int).toNat)) := by assumption
        obtain ⟨ql4, hql4⟩ : ∃ q : Int, q = (x90_4) := ⟨_, rfl⟩
        obtain ⟨ql3, hql3⟩ : ∃ q : Int, q = (x90_3) := ⟨_, rfl⟩
        refine Ew_of (pc' := 92) (fun _ => x_iload rfl l90_4) ?_
        refine Ew_of (pc' := 93) (fun _ => x_iconst rfl) ?_
        refine w_icmpge (t := 141) rfl rfl (show inr (x90_4) by omega) (show inr (3) by omega) (fun b18 => ?_) (fun b18 => ?_)
        · have hc154 : ∀ (ls : rO) (σ : rS) (F_c154 : hF) (A_c154 : hA) , rlook ls 0 = some (.ref (D 6)) → HS σ0 σ D N F_c154 A_c154 → SF [] F_90 F_c154 → SA [70] A_90 A_c154 → ∀ wc154_70 : Int → Int, A_c154 70 = wc154_70 → (IMP (MDX ((w69)) ((u6_35))) (QAP 65536 gm qm ((wc154_70)) ((y90_6_37)) ([ql3] ++ tqU (BR ((w54)) ((w55))) (sq ((w62)) ((w63)) ((w64)) ((u6_28))) rr (3 : Int).toNat))) → Ew 444 (d + 6) 154 ls [] σ c s Q := by
           as_aux_lemma =>
            intro  ls σ F_c154 A_c154  lc154_0 H hS_c154 hA_c154  wc154_70 ewc154_70 jc154_0
            have hts := TLI_sum htl hgo (by omega)
            have : TBL ((w90_54)) ((w90_55)) (sh ((w66)) (8001 * 0)) 0 ((u6_28)) := j90_t 0 (by omega) (by omega)
            have : TBL ((w90_54)) ((w90_55)) (sh ((w66)) (8001 * 1)) 1 ((u6_28)) := j90_t 1 (by omega) (by omega)
            have : TBL ((w90_54)) ((w90_55)) (sh ((w66)) (8001 * 2)) 2 ((u6_28)) := j90_t 2 (by omega) (by omega)
            have k154 : IMP (MDX ((w69)) ((u6_35))) (QAP 65536 gm qm ((wc154_70)) ((y90_6_37)) ([ql3] ++ tqU (BR ((w54)) ((w55))) (sq ((w62)) ((w63)) ((w64)) ((u6_28))) rr (3 : Int).toNat)) := by assumption
            have hJ3 : IMP (MDX ((w69)) ((u6_35))) (BDO (BR ((w90_54)) ((w90_55))) (BR ((w54)) ((w55))) (sq ((w62)) ((w63)) ((w64)) ((u6_28))) rr 3 ∧ MDX ((w90_69)) ((y90_6_35)) ∧ ql3 = mdU (BR ((w54)) ((w55))) (sq ((w62)) ((w63)) ((w64)) ((u6_28))) rr (3 : Int).toNat ∧ (w90_87) = ntU 8 (BR ((w54)) ((w55))) (sq ((w62)) ((w63)) ((w64)) ((u6_28))) rr ((w87)) (3 : Int).toNat) := fun q => by obtain ⟨a1_, a2_, a3_, a4_, a5_⟩ := j90_j q; rw [← hql4, show ql4 = 3 by omega] at a1_ a3_ a4_; exact ⟨a1_, a2_, hql3.trans a3_, a4_⟩
            refine Ew_of (pc' := 155) (fun _ => x_aload_n rfl lc154_0) ?_
            refine w_inv H (o := 6) rfl rfl rfl (H.perm 6 rfl) rfl rfl (by rfl) (M443f H (u6_28) ((((((hS_c154 6 28 rfl).trans (hS_90 6 28 rfl)).trans (hS8 6 28 rfl)).trans (hS_c70 6 28 rfl)).trans (eu6_28))) (y90_6_35) (((hS_c154 6 35 rfl).trans (ey90_6_35))) (y90_6_37) (((hS_c154 6 37 rfl).trans (ey90_6_37))) (w90_54) ((funext (hA_c154 54 rfl)).trans (ew90_54)) (w90_55) ((funext (hA_c154 55 rfl)).trans (ew90_55)) (w66) ((funext (hA_c154 66 rfl)).trans ((funext (hA_90 66 rfl)).trans ((funext (hA9 66 rfl)).trans ((funext (hA_c70 66 rfl)).trans (ew66))))) (w67) ((funext (hA_c154 67 rfl)).trans ((funext (hA_90 67 rfl)).trans ((funext (hA9 67 rfl)).trans ((funext (hA_c70 67 rfl)).trans (ew67))))) (w68) ((funext (hA_c154 68 rfl)).trans ((funext (hA_90 68 rfl)).trans ((funext (hA9 68 rfl)).trans ((funext (hA_c70 68 rfl)).trans (ew68))))) (w90_69) ((funext (hA_c154 69 rfl)).trans (ew90_69)) (wc154_70) (ewc154_70) (show 1 ≤ (u6_28) by omega) (show WO ((w90_54)) ((w90_55)) by assumption) (show TBL ((w90_54)) ((w90_55)) (sh ((w66)) (8001 * 0)) 0 ((u6_28)) by assumption) (show TBL ((w90_54)) ((w90_55)) (sh ((w66)) (8001 * 1)) 1 ((u6_28)) by assumption) (show TBL ((w90_54)) ((w90_55)) (sh ((w66)) (8001 * 2)) 2 ((u6_28)) by assumption) (show 0 ≤ (y90_6_37) ∧ (y90_6_37) ≤ 80000000 by omega) (show 17 * (u6_28) + su (mo3 ((w67))) ((u6_28) : Int).toNat ≤ 180224 by omega) (fun σ F19 A20 H hS21 hA22 y24 ey25 y26 ey27 wq28 ewq29 wq30 ewq31 pz23_0 pz23_1 => ⟨rfl, ?_⟩))
            have r32 : (0 : Int) ≤ y24 ∧ y24 ≤ 100000000 := by have h1 : (0 : Int) ≤ F19 6 35 ∧ F19 6 35 ≤ 100000000 := H.frng 6 35; rw [show F19 6 35 = y24 from (ey25)] at h1; exact h1
            have r33 : (0 : Int) ≤ y26 ∧ y26 ≤ 100000000 := by have h1 : (0 : Int) ≤ F19 6 37 ∧ F19 6 37 ≤ 100000000 := H.frng 6 37; rw [show F19 6 37 = y26 from (ey27)] at h1; exact h1
            have : IMP (MDX ((w69)) ((u6_35))) (SQW (BR ((w54)) ((w55))) (BR ((w90_54)) ((w90_55))) (sq ((w62)) ((w63)) ((w64)) ((u6_28))) rr ((w87)) ((w90_87)) ((wq28)) ((y24)) (fun M_ => QAP 65536 ((w70)) ((u6_37)) ((wq30)) ((y26)) (M_))) := fun q => by obtain ⟨b1, b2, b3, b4⟩ := hJ3 q; have hs := pz23_1 b2; have hst : strB (BR ((w90_54)) ((w90_55))) (fun t => sh ((w66)) (8001 * t)) (XR ((w68)) ((w67))) ((u6_28)) = strB (bnQ (BR ((w54)) ((w55))) (sq ((w62)) ((w63)) ((w64)) ((u6_28))) rr) (Sc (sq ((w62)) ((w63)) ((w64)) ((u6_28))) rr) (XN_ (sq ((w62)) ((w63)) ((w64)) ((u6_28))) rr) ((sq ((w62)) ((w63)) ((w64)) ((u6_28))).length : Int)   := (by rw [hQl, strB_B (b1.1 0 (by omega) (by omega)) (b1.1 1 (by omega) (by omega)) (b1.1 2 (by omega) (by omega))]; exact strB_cg3 (by omega) (fun j a b => by rw [← TLW_Sc (t := 0) (by omega) htw (by decide), cutP_in ⟨a, b⟩]) (fun j a b => by rw [← TLW_Sc (t := 1) (by omega) htw (by decide), cutP_in ⟨a, b⟩]) (fun j a b => by rw [← TLW_Sc (t := 2) (by omega) htw (by decide), cutP_in ⟨a, b⟩]) (fun j a b => TLW_XR htw a b (gsB_nn 31))); have hz : ¬ ((sq ((w62)) ((w63)) ((w64)) ((u6_28))).length : Int) = 0 := (by omega); refine ⟨?_, fun t a b => by unfold bsQ; rw [if_neg hz]; exact b1.1 t a b, by rw [if_neg hz]; exact b4, hs.2⟩; unfold sqB; rw [if_neg hz, hQl, ← mdU_3, ← b3, ← tqU_3]; have hx := hs.1; rw [hst, hQl] at hx; have hy := QAP_trans (k154 q) hx; rw [List.append_assoc] at hy; exact QAP_trans j70_q hy
            exact w_ret rfl (k σ _ _ H (SF_trans (SF_trans (SF_trans (SF_trans (SF_trans (SF_refl) hS_c70 (any_sub rfl)) hS8 (any_sub rfl)) hS_90 (any_sub rfl)) hS_c154 (any_sub rfl)) hS21 (any_sub rfl)) (SA_trans (SA_trans (SA_trans (SA_trans (SA_trans (SA_refl) hA_c70 (any_subA rfl)) hA9 (any_subA rfl)) hA_90 (any_subA rfl)) hA_c154 (any_subA rfl)) hA22 (any_subA rfl)) (y24) ((ey25)) (y26) ((ey27)) (w90_54) ((funext (hA22 54 rfl)).trans ((funext (hA_c154 54 rfl)).trans (ew90_54))) (w90_55) ((funext (hA22 55 rfl)).trans ((funext (hA_c154 55 rfl)).trans (ew90_55))) (wq28) (ewq29) (wq30) (ewq31) (w90_87) ((funext (hA22 87 rfl)).trans ((funext (hA_c154 87 rfl)).trans (ew90_87))) (show (u6_37) ≤ (y26) ∧ (y26) ≤ (u6_37) + 30000 by omega) (show WO ((w90_54)) ((w90_55)) by assumption) (show IMP (MDX ((w69)) ((u6_35))) (SQW (BR ((w54)) ((w55))) (BR ((w90_54)) ((w90_55))) (sq ((w62)) ((w63)) ((w64)) ((u6_28))) rr ((w87)) ((w90_87)) ((wq28)) ((y24)) (fun M_ => QAP 65536 ((w70)) ((u6_37)) ((wq30)) ((y26)) (M_))) by assumption))
          have hj154 : IMP (MDX ((w69)) ((u6_35))) ((x90_3) = mdU (BR ((w54)) ((w55))) (sq ((w62)) ((w63)) ((w64)) ((u6_28))) rr (3 : Int).toNat ∧ QAP 65536 gm qm ((w90_70)) ((y90_6_37)) ([0] ++ tqU (BR ((w54)) ((w55))) (sq ((w62)) ((w63)) ((w64)) ((u6_28))) rr (3 : Int).toNat)) := fun q => by obtain ⟨a1_, a2_, a3_, a4_, a5_⟩ := j90_j q; rw [show (x90_4) = 3 by omega] at a3_ a5_; exact ⟨a3_, a5_⟩
          refine Ew_of (pc' := 142) (fun _ => x_iload_n rfl l90_2) ?_
          refine Ew_of (pc' := 144) (fun _ => x_ldc (z := 65536) rfl (by decide)) ?_
          refine w_icmpge (t := 154) rfl rfl (show inr (yc70_6_37) by omega) (show inr (65536) by omega) (fun b34 => ?_) (fun b34 => ?_)
          · have : IMP (MDX ((w69)) ((u6_35))) (QAP 65536 gm qm ((w90_70)) ((y90_6_37)) ([ql3] ++ tqU (BR ((w54)) ((w55))) (sq ((w62)) ((w63)) ((w64)) ((u6_28))) rr (3 : Int).toNat)) := fun q => by have h := hj154 q; first | exact QAP_ow (Z := [0]) (P := [ql3]) (m := qm + 1) h.2 (by rw [hql3, hqm]; exact QAP_in (by omega) (by omega) rfl) rfl (fun i a => upd1_o (by omega)) | exact QAP_ow (Z := [0]) (P := [ql3]) (m := qm + 1) h.2 (QAP_out (by omega) rfl) rfl (fun _ _ => rfl)
            exact hc154  _ σ _ _  (l90_0) H (SF_refl) (SA_refl)  (w90_70) (ew90_70) (show IMP (MDX ((w69)) ((u6_35))) (QAP 65536 gm qm ((w90_70)) ((y90_6_37)) ([ql3] ++ tqU (BR ((w54)) ((w55))) (sq ((w62)) ((w63)) ((w64)) ((u6_28))) rr (3 : Int).toNat)) by assumption)
          · refine Ew_of (pc' := 148) (fun _ => x_aload_n rfl l90_0) ?_
            refine w_gT H (o := 6) (t := 70) rfl (H.perm 6 rfl) rfl rfl rfl rfl rfl rfl ?_
            refine Ew_of (pc' := 152) (fun _ => x_iload_n rfl l90_2) ?_
            refine Ew_of (pc' := 153) (fun _ => x_iload_n rfl l90_3) ?_
            refine w_sI H (o := 70) (n := 65536) rfl (H.perm 70 rfl) rfl rfl (H.fix 70 rfl rfl) (show 0 ≤ yc70_6_37 ∧ yc70_6_37 < ((65536 : Nat) : Int) by omega) (by decide) (show (0 : Int) ≤ x90_3 ∧ x90_3 ≤ 255 by omega) (fun σ H => ?_)
            have : IMP (MDX ((w69)) ((u6_35))) (QAP 65536 gm qm ((upd1 (w90_70) (yc70_6_37) (x90_3))) ((y90_6_37)) ([ql3] ++ tqU (BR ((w54)) ((w55))) (sq ((w62)) ((w63)) ((w64)) ((u6_28))) rr (3 : Int).toNat)) := fun q => by have h := hj154 q; first | exact QAP_ow (Z := [0]) (P := [ql3]) (m := qm + 1) h.2 (by rw [hql3, hqm]; exact QAP_in (by omega) (by omega) rfl) rfl (fun i a => upd1_o (by omega)) | exact QAP_ow (Z := [0]) (P := [ql3]) (m := qm + 1) h.2 (QAP_out (by omega) rfl) rfl (fun _ _ => rfl)
            exact hc154  _ σ _ _  (l90_0) H (SF_refl) (SA_upd (SA_refl) rfl)  (upd1 (w90_70) (yc70_6_37) (x90_3)) (congrArg (fun q => upd1 q (yc70_6_37) (x90_3)) (ew90_70)) (show IMP (MDX ((w69)) ((u6_35))) (QAP 65536 gm qm ((upd1 (w90_70) (yc70_6_37) (x90_3))) ((y90_6_37)) ([ql3] ++ tqU (BR ((w54)) ((w55))) (sq ((w62)) ((w63)) ((w64)) ((u6_28))) rr (3 : Int).toNat)) by assumption)
        · refine Ew_of (pc' := 97) (fun _ => x_aload_n rfl l90_0) ?_
          refine Ew_of (pc' := 99) (fun _ => x_iload rfl l90_4) ?_
          have : ∀ j, 0 ≤ j → j < (u6_28) → (sh ((w66)) (8001 * (x90_4))) j ≤ lS ((x90_4)) := TLI_sy htl (by omega) (by omega)
          have hSc : cutP ((u6_28)) (sh ((w66)) (8001 * (x90_4))) = Sc (sq ((w62)) ((w63)) ((w64)) ((u6_28))) rr ((x90_4)) := TLW_Sc (by omega) htw (by omega)
          have hBt : BDO (BR ((w90_54)) ((w90_55))) (BR ((w54)) ((w55))) (sq ((w62)) ((w63)) ((w64)) ((u6_28))) rr ((x90_4)) → btS (((w90_55)) ((x90_4))) (sh ((w90_54)) (64 * ((x90_4)))) = (BR ((w54)) ((w55))) ((x90_4)) := fun h => h.2 ((x90_4)) (Int.le_refl _) (by omega)
          refine w_inv H (o := 6) rfl rfl rfl (H.perm 6 rfl) rfl rfl (by rfl) (M437f H (u6_28) (((((hS_90 6 28 rfl).trans (hS8 6 28 rfl)).trans (hS_c70 6 28 rfl)).trans (eu6_28))) (y90_6_35) ((ey90_6_35)) (w90_54) (ew90_54) (w90_55) (ew90_55) (w66) ((funext (hA_90 66 rfl)).trans ((funext (hA9 66 rfl)).trans ((funext (hA_c70 66 rfl)).trans (ew66)))) (w90_69) (ew90_69) (show inr (x90_4) by omega) (show 0 ≤ (x90_4) ∧ (x90_4) ≤ 2 by omega) (show 1 ≤ (u6_28) by omega) (show WO ((w90_54)) ((w90_55)) by assumption) (show ∀ j, 0 ≤ j → j < (u6_28) → (sh ((w66)) (8001 * (x90_4))) j ≤ lS ((x90_4)) by assumption) (fun z39 σ F35 A36 H hS37 hA38 y40 ey41 wq42 ewq43 wq44 ewq45 wq46 ewq47 pz39_0 pz39_1 pz39_2 pz39_3 pz39_4 pz39_5 pz39_6 pz39_7 => ⟨rfl, ?_⟩))
          have r48 : (0 : Int) ≤ y40 ∧ y40 ≤ 100000000 := by have h1 : (0 : Int) ≤ F35 6 35 ∧ F35 6 35 ≤ 100000000 := H.frng 6 35; rw [show F35 6 35 = y40 from (ey41)] at h1; exact h1
          have ht1 := pz39_3
          have ht2 := pz39_5
          have ht3 := pz39_6
          have hTT := pz39_7
          have : ∀ t, (0 : Int) ≤ t → t < ((x90_4) + 1) → TBL ((wq42)) ((wq44)) (sh ((w66)) (8001 * t)) t ((u6_28)) := fun t a b => by by_cases e : t = (x90_4); (rw [e]; exact ht1); exact TBL_keep (j90_t t a (by omega)) ht2 ht3 e
          refine Ew_of (pc' := 104) (fun _ => x_istore rfl) ?_
          refine Ew_of (pc' := 105) (fun _ => x_aload_n rfl (rk_o (l90_0) rfl rfl)) ?_
          refine w_inv H (o := 6) rfl rfl rfl (H.perm 6 rfl) rfl rfl (by rfl) (M394 H (y40) ((ey41)) (y90_6_37) (((hS37 6 37 rfl).trans (ey90_6_37))) (wq46) (ewq47) (w90_70) ((funext (hA38 70 rfl)).trans (ew90_70)) (show 0 ≤ (y40) ∧ (y40) ≤ 192000 by omega) (show 0 ≤ (y90_6_37) ∧ (y90_6_37) ≤ 90000000 by omega) (fun σ F49 A50 H hS51 hA52 y54 ey55 wq56 ewq57 pz53_0 pz53_1 => ⟨rfl, ?_⟩))
          have r58 : (0 : Int) ≤ y54 ∧ y54 ≤ 100000000 := by have h1 : (0 : Int) ≤ F49 6 37 ∧ F49 6 37 ≤ 100000000 := H.frng 6 37; rw [show F49 6 37 = y54 from (ey55)] at h1; exact h1
          refine Ew_of (pc' := 109) (fun _ => x_iload_n rfl (rk_o (l90_3) rfl rfl)) ?_
          refine Ew_of (pc' := 111) (fun _ => x_iload rfl rk_s) ?_
          refine Ew_of (pc' := 113) (fun _ => x_bipush (z := 6) rfl (by decide)) ?_
          refine Ew_of (pc' := 114) (fun _ => x_iconst rfl) ?_
          refine Ew_of (pc' := 116) (fun _ => x_iload rfl (rk_o (l90_4) rfl rfl)) ?_
          refine w_imul rfl ?_
          refine w_isub rfl ?_
          refine w_ishlE rfl ?_
          have g59 : inr (slI (z39) ((6 - (2 * x90_4)))) := toI_inr _
          refine w_iorE rfl ?_
          have g60 : inr (orI (x90_3) ((slI (z39) ((6 - (2 * x90_4)))))) := toI_inr _
          have hor : ((orI (x90_3) ((slI (z39) ((6 - (2 * x90_4))))))) = (x90_3) + z39 * p2 (6 - 2 * (x90_4)) := md_or (k := (x90_4)) (by omega) (by omega) (by omega) rfl
          have hp6 : (x90_4) = 0 ∧ p2 (6 - 2 * (x90_4)) = 64 ∨ (x90_4) = 1 ∧ p2 (6 - 2 * (x90_4)) = 16 ∨ (x90_4) = 2 ∧ p2 (6 - 2 * (x90_4)) = 4 := by rcases (show (x90_4) = 0 ∨ (x90_4) = 1 ∨ (x90_4) = 2 by omega) with q | q | q <;> rw [q] <;> decide
          have hmz : z39 = 0 ∨ z39 = 1 ∨ z39 = 2 ∨ z39 = 3 := by omega
          have hos : ((orI (x90_3) ((slI (z39) ((6 - (2 * x90_4))))))) = (x90_3) + 64 * z39 ∧ (x90_4) = 0 ∨ ((orI (x90_3) ((slI (z39) ((6 - (2 * x90_4))))))) = (x90_3) + 16 * z39 ∧ (x90_4) = 1 ∨ ((orI (x90_3) ((slI (z39) ((6 - (2 * x90_4))))))) = (x90_3) + 4 * z39 ∧ (x90_4) = 2 := by rw [hor]; rcases hp6 with ⟨a, b⟩ | ⟨a, b⟩ | ⟨a, b⟩ <;> rw [b] <;> omega
          obtain ⟨qo, hqo⟩ : ∃ q : Int, q = ((orI (x90_3) ((slI (z39) ((6 - (2 * x90_4))))))) := ⟨_, rfl⟩
          rw [← hqo]
          have gqo : inr qo := by rw [hqo]; first | assumption | omega
          replace hqo : IMP True (qo = ((orI (x90_3) ((slI (z39) ((6 - (2 * x90_4)))))))) := fun _ => hqo
          try clear g60
          try clear g59
          have hqo1 : qo = (x90_3) + 64 * z39 ∧ (x90_4) = 0 ∨ qo = (x90_3) + 16 * z39 ∧ (x90_4) = 1 ∨ qo = (x90_3) + 4 * z39 ∧ (x90_4) = 2 := by rw [hqo trivial]; exact hos
          have hor : qo = (x90_3) + z39 * p2 (6 - 2 * (x90_4)) := by rw [hqo trivial]; exact hor
          refine Ew_of (pc' := 121) (fun _ => x_istore_n rfl) ?_
          refine Ew_of (pc' := 122) (fun _ => x_aload_n rfl (rk_o (rk_o (l90_0) rfl rfl) rfl rfl)) ?_
          refine w_gT H (o := 6) (t := 87) rfl (H.perm 6 rfl) rfl rfl rfl rfl rfl rfl ?_
          refine Ew_of (pc' := 127) (fun _ => x_bipush (z := 8) rfl (by decide)) ?_
          refine Ew_of (pc' := 129) (fun _ => x_iload rfl (rk_o (rk_s) rfl rfl)) ?_
          refine w_iadd rfl ?_
          refine Ew_of (pc' := 131) (fun _ => x_dup2 rfl rfl rfl) ?_
          refine w_lI H (o := 87) (n := 12) rfl (H.perm 87 rfl) rfl rfl (H.fix 87 rfl rfl) (show 0 ≤ (8 + z39) ∧ (8 + z39) < ((12 : Nat) : Int) by omega) (by decide) (fun v61 ev61 qv61 => ?_)
          have qv61 : (-2147483648 : Int) ≤ v61 ∧ v61 ≤ 2147483647 := qv61
          have ev61 : (w90_87) ((8 + z39)) = v61 := (congrFun ((funext (hA52 87 rfl)).trans ((funext (hA38 87 rfl)).trans (ew90_87))) ((8 + z39))).symm.trans ev61
          have hnv := ev61
          refine Ew_of (pc' := 133) (fun _ => x_iconst rfl) ?_
          refine w_iaddE rfl ?_
          have g62 : inr (adI (v61) (1)) := toI_inr _
          refine w_sI H (o := 87) (n := 12) rfl (H.perm 87 rfl) rfl rfl (H.fix 87 rfl rfl) (show 0 ≤ (8 + z39) ∧ (8 + z39) < ((12 : Nat) : Int) by omega) (by decide) (show (-2147483648 : Int) ≤ (adI (v61) (1)) ∧ (adI (v61) (1)) ≤ 2147483647 by omega) (fun σ H => ?_)
          have hnj : IMP (MDX ((w69)) ((u6_35))) (BDO (BR ((wq42)) ((wq44))) (BR ((w54)) ((w55))) (sq ((w62)) ((w63)) ((w64)) ((u6_28))) rr ((x90_4) + 1) ∧ MDX ((wq46)) ((y40)) ∧ (qo) = mdU (BR ((w54)) ((w55))) (sq ((w62)) ((w63)) ((w64)) ((u6_28))) rr ((x90_4) + 1 : Int).toNat ∧ (upd1 (w90_87) ((8 + z39)) ((adI (v61) (1)))) = ntU 8 (BR ((w54)) ((w55))) (sq ((w62)) ((w63)) ((w64)) ((u6_28))) rr ((w87)) ((x90_4) + 1 : Int).toNat ∧ QAP 65536 gm qm ((wq56)) ((y54)) ([0] ++ tqU (BR ((w54)) ((w55))) (sq ((w62)) ((w63)) ((w64)) ((u6_28))) rr ((x90_4) + 1 : Int).toNat)) := fun q => by obtain ⟨a1_, a2_, a3_, a4_, a5_⟩ := j90_j q; have hT := hTT (a2_); rw [hSc] at hT; have hm_ : z39 = mdQ (BR ((w54)) ((w55))) (sq ((w62)) ((w63)) ((w64)) ((u6_28))) rr ((x90_4)) := (hT.1.trans (by unfold mdQ; rw [hQl, hBt a1_])); refine ⟨BDO_s a1_ rfl (by have h := hT.2.2; unfold bnQ; rw [hQl, ← hm_, ← hBt a1_]; exact h) (fun t b c e => BR_o ht2 ht3 e) (by omega), MBY_X hT.2.1, ?_, ?_, ?_⟩; (rw [mdU_s (k := (x90_4)) (by omega) rfl, ← hm_, ← a3_]; exact hor); (rw [ntU_s (k := (x90_4)) (by omega) rfl, ← hm_, ← a4_, hnv]); (rw [tqU_s (k := (x90_4)) (by omega) rfl, ← List.append_assoc]; have h := pz53_1; rw [MBY_sc hT.2.1 (by omega)] at h; refine QAP_trans a5_ (QAP_c h ?_); unfold tqB; rw [hQl, ← hm_])
          refine Ew_of (pc' := 138) (fun _ => x_iinc (len := 3) rfl (rk_o (rk_o (l90_4) rfl rfl) rfl rfl)) ?_
          refine Ew_of (pc' := 90) (fun _ => x_goto rfl rfl) ?_
          exact ih90 _ (by omega) _ σ _ _ (qo) ((x90_4 + 1)) (rk_o (rk_o (rk_o (l90_0) rfl rfl) rfl rfl) rfl rfl) (rk_o (rk_o (rk_o (l90_2) rfl rfl) rfl rfl) rfl rfl) (rk_o (rk_s) rfl rfl) (rk_s) H (SF_trans (SF_trans (hS_90) hS37 (any_sub rfl)) hS51 (any_sub rfl)) (SA_upd (SA_trans (SA_trans (hA_90) hA38 (any_subA rfl)) hA52 (any_subA rfl)) rfl) (y40) (((hS51 6 35 rfl).trans (ey41))) (y54) ((ey55)) (wq42) ((funext (hA52 54 rfl)).trans (ewq43)) (wq44) ((funext (hA52 55 rfl)).trans (ewq45)) (wq46) ((funext (hA52 69 rfl)).trans (ewq47)) (wq56) (ewq57) (upd1 (w90_87) ((8 + z39)) ((adI (v61) (1)))) (congrArg (fun q => upd1 q ((8 + z39)) ((adI (v61) (1)))) ((funext (hA52 87 rfl)).trans ((funext (hA38 87 rfl)).trans (ew90_87)))) (show inr (qo) by omega) (show inr ((x90_4 + 1)) by omega) (show (0) ≤ ((x90_4 + 1)) by omega) (show ((x90_4 + 1)) ≤ (0) ∨ ((x90_4 + 1)) ≤ (3) by omega) (show WO ((wq42)) ((wq44)) by assumption) (show ∀ t, (0 : Int) ≤ t → t < ((x90_4 + 1)) → TBL ((wq42)) ((wq44)) (sh ((w66)) (8001 * t)) t ((u6_28)) by assumption) (show (u6_37) ≤ (y54) ∧ (y54) ≤ (u6_37) + (4 + 100 * ((x90_4 + 1))) by omega) (show 0 ≤ (qo) ∧ (qo) ≤ 252 by omega) (show ((x90_4 + 1)) = 0 ∧ (qo) = 0 ∨ ((x90_4 + 1)) = 1 ∧ (qo) % 64 = 0 ∧ (qo) ≤ 192 ∨ ((x90_4 + 1)) = 2 ∧ (qo) % 16 = 0 ∧ (qo) ≤ 240 ∨ ((x90_4 + 1)) = 3 by omega) (show IMP (MDX ((w69)) ((u6_35))) (BDO (BR ((wq42)) ((wq44))) (BR ((w54)) ((w55))) (sq ((w62)) ((w63)) ((w64)) ((u6_28))) rr (((x90_4 + 1))) ∧ MDX ((wq46)) ((y40)) ∧ (qo) = mdU (BR ((w54)) ((w55))) (sq ((w62)) ((w63)) ((w64)) ((u6_28))) rr (((x90_4 + 1)) : Int).toNat ∧ (upd1 (w90_87) ((8 + z39)) ((adI (v61) (1)))) = ntU 8 (BR ((w54)) ((w55))) (sq ((w62)) ((w63)) ((w64)) ((u6_28))) rr ((w87)) (((x90_4 + 1)) : Int).toNat ∧ QAP 65536 gm qm ((wq56)) ((y54)) ([0] ++ tqU (BR ((w54)) ((w55))) (sq ((w62)) ((w63)) ((w64)) ((u6_28))) rr (((x90_4 + 1)) : Int).toNat)) by assumption) rfl
    · have : IMP (MDX ((w69)) ((u6_35))) (SQW (BR ((w54)) ((w55))) (BR ((w54)) ((w55))) (sq ((w62)) ((w63)) ((w64)) ((u6_28))) rr ((w87)) ((w87)) ((w69)) ((u6_35)) (fun M_ => QAP 65536 ((w70)) ((u6_37)) ((wc70_70)) ((yc70_6_37)) (M_))) := fun q => ⟨by rw [sqB_0 (by omega), hQl]; exact j70_q, fun t a b => by unfold bsQ; rw [if_pos (by omega)], by rw [if_pos (by omega)], q⟩
      exact w_ret rfl (k σ _ _ H (SF_trans (SF_refl) hS_c70 (any_sub rfl)) (SA_trans (SA_refl) hA_c70 (any_subA rfl)) (u6_35) (((hS_c70 6 35 rfl).trans (eu6_35))) (yc70_6_37) ((eyc70_6_37)) (w54) ((funext (hA_c70 54 rfl)).trans (ew54)) (w55) ((funext (hA_c70 55 rfl)).trans (ew55)) (w69) ((funext (hA_c70 69 rfl)).trans (ew69)) (wc70_70) (ewc70_70) (w87) ((funext (hA_c70 87 rfl)).trans (ew87)) (show (u6_37) ≤ (yc70_6_37) ∧ (yc70_6_37) ≤ (u6_37) + 30000 by omega) (show WO ((w54)) ((w55)) by assumption) (show IMP (MDX ((w69)) ((u6_35))) (SQW (BR ((w54)) ((w55))) (BR ((w54)) ((w55))) (sq ((w62)) ((w63)) ((w64)) ((u6_28))) rr ((w87)) ((w87)) ((w69)) ((u6_35)) (fun M_ => QAP 65536 ((w70)) ((u6_37)) ((wc70_70)) ((yc70_6_37)) (M_))) by assumption))
  refine Ew_of (pc' := 6) (fun _ => x_iload_n rfl rk_s) ?_
  refine Ew_of (pc' := 9) (fun _ => x_sipush (z := 128) rfl (by decide)) ?_
  refine w_icmpge (t := 20) rfl rfl (show inr (u6_28) by omega) (show inr (128) by omega) (fun b63 => ?_) (fun b63 => ?_)
  · refine Ew_of (pc' := 21) (fun _ => x_iload_n rfl rk_s) ?_
    refine Ew_of (pc' := 24) (fun _ => x_sipush (z := 32512) rfl (by decide)) ?_
    refine w_icmpge (t := 52) rfl rfl (show inr (u6_28) by omega) (show inr (32512) by omega) (fun b64 => ?_) (fun b64 => ?_)
    · refine Ew_of (pc' := 53) (fun _ => x_aload_n rfl (rk_o (rfl) rfl rfl)) ?_
      refine Ew_of (pc' := 56) (fun _ => x_sipush (z := 255) rfl (by decide)) ?_
      refine w_inv H (o := 6) rfl rfl rfl (H.perm 6 rfl) rfl rfl (by rfl) (M392 H (u6_37) ((eu6_37)) (w70) (ew70) (show inr (255) by omega) (show 0 ≤ (u6_37) ∧ (u6_37) ≤ 99999999 by omega) (fun σ F65 A66 H hS67 hA68 y70 ey71 wq72 ewq73 pz69_0 pz69_1 => ⟨rfl, ?_⟩))
      have r74 : (0 : Int) ≤ y70 ∧ y70 ≤ 100000000 := by have h1 : (0 : Int) ≤ F65 6 37 ∧ F65 6 37 ≤ 100000000 := H.frng 6 37; rw [show F65 6 37 = y70 from (ey71)] at h1; exact h1
      refine Ew_of (pc' := 60) (fun _ => x_aload_n rfl (rk_o (rfl) rfl rfl)) ?_
      refine Ew_of (pc' := 61) (fun _ => x_iload_n rfl rk_s) ?_
      refine Ew_of (pc' := 64) (fun _ => x_sipush (z := 32512) rfl (by decide)) ?_
      refine w_isub rfl ?_
      refine w_i2l rfl (show inr ((u6_28 - 32512)) by omega) ?_
      refine Ew_of (pc' := 67) (fun _ => x_iconst rfl) ?_
      refine w_inv H (o := 6) rfl rfl rfl (H.perm 6 rfl) rfl rfl (by rfl) (M393 H (y70) ((ey71)) (wq72) (ewq73) (show inrJ ((u6_28 - 32512)) by omega) (show inr (2) by omega) (show 0 ≤ (2) ∧ (2) ≤ 8 by omega) (show 0 ≤ (y70) ∧ (y70) ≤ 90000000 by omega) (fun σ F75 A76 H hS77 hA78 y80 ey81 wq82 ewq83 pz79_0 pz79_1 => ⟨rfl, ?_⟩))
      have r84 : (0 : Int) ≤ y80 ∧ y80 ≤ 100000000 := by have h1 : (0 : Int) ≤ F75 6 37 ∧ F75 6 37 ≤ 100000000 := H.frng 6 37; rw [show F75 6 37 = y80 from (ey81)] at h1; exact h1
      have : QAP 65536 ((w70)) ((u6_37)) ((wq82)) ((y80)) (numB ((u6_28))) := by first | (rw [numB_1 (by omega)]; have h := pzMISS_1; rw [u8_id (by omega)] at h; exact h) | (rw [numB_2 (by omega)]; have h1 := pzMISS_1; have h2 := pzMISS_1; rw [u8_id (by omega)] at h1 h2; exact QAP_trans h1 h2) | (exfalso; omega)
      exact hc70  _ σ _ _  (rk_o (rfl) rfl rfl) (rk_s) H (SF_trans (SF_trans (SF_refl) hS67 (any_sub rfl)) hS77 (any_sub rfl)) (SA_trans (SA_trans (SA_refl) hA68 (any_subA rfl)) hA78 (any_subA rfl)) (y80) ((ey81)) (wq82) (ewq83) (show (u6_37) ≤ (y80) ∧ (y80) ≤ (u6_37) + 3 by omega) (show QAP 65536 ((w70)) ((u6_37)) ((wq82)) ((y80)) (numB ((u6_28))) by assumption)
    · refine Ew_of (pc' := 28) (fun _ => x_aload_n rfl (rk_o (rfl) rfl rfl)) ?_
      refine Ew_of (pc' := 31) (fun _ => x_sipush (z := 128) rfl (by decide)) ?_
      refine Ew_of (pc' := 32) (fun _ => x_iload_n rfl rk_s) ?_
      refine Ew_of (pc' := 35) (fun _ => x_sipush (z := 256) rfl (by decide)) ?_
      refine w_idiv rfl (show inr (u6_28) ∧ 0 ≤ u6_28 by omega) (show inr (256) ∧ 0 < 256 by omega) ?_
      refine w_iadd rfl ?_
      refine w_inv H (o := 6) rfl rfl rfl (H.perm 6 rfl) rfl rfl (by rfl) (M392 H (u6_37) ((eu6_37)) (w70) (ew70) (show inr ((128 + (u6_28 / 256))) by omega) (show 0 ≤ (u6_37) ∧ (u6_37) ≤ 99999999 by omega) (fun σ F85 A86 H hS87 hA88 y90 ey91 wq92 ewq93 pz89_0 pz89_1 => ⟨rfl, ?_⟩))
      have r94 : (0 : Int) ≤ y90 ∧ y90 ≤ 100000000 := by have h1 : (0 : Int) ≤ F85 6 37 ∧ F85 6 37 ≤ 100000000 := H.frng 6 37; rw [show F85 6 37 = y90 from (ey91)] at h1; exact h1
      refine Ew_of (pc' := 41) (fun _ => x_aload_n rfl (rk_o (rfl) rfl rfl)) ?_
      refine Ew_of (pc' := 42) (fun _ => x_iload_n rfl rk_s) ?_
      refine Ew_of (pc' := 45) (fun _ => x_sipush (z := 256) rfl (by decide)) ?_
      refine w_irem rfl (show inr (u6_28) ∧ 0 ≤ u6_28 by omega) (show inr (256) ∧ 0 < 256 by omega) ?_
      refine w_inv H (o := 6) rfl rfl rfl (H.perm 6 rfl) rfl rfl (by rfl) (M392 H (y90) ((ey91)) (wq92) (ewq93) (show inr ((u6_28 % 256)) by omega) (show 0 ≤ (y90) ∧ (y90) ≤ 99999999 by omega) (fun σ F95 A96 H hS97 hA98 y100 ey101 wq102 ewq103 pz99_0 pz99_1 => ⟨rfl, ?_⟩))
      have r104 : (0 : Int) ≤ y100 ∧ y100 ≤ 100000000 := by have h1 : (0 : Int) ≤ F95 6 37 ∧ F95 6 37 ≤ 100000000 := H.frng 6 37; rw [show F95 6 37 = y100 from (ey101)] at h1; exact h1
      refine Ew_of (pc' := 70) (fun _ => x_goto rfl rfl) ?_
      have : QAP 65536 ((w70)) ((u6_37)) ((wq102)) ((y100)) (numB ((u6_28))) := by first | (rw [numB_1 (by omega)]; have h := pzMISS_1; rw [u8_id (by omega)] at h; exact h) | (rw [numB_2 (by omega)]; have h1 := pz89_1; have h2 := pz99_1; rw [u8_id (by omega)] at h1 h2; exact QAP_trans h1 h2) | (exfalso; omega)
      exact hc70  _ σ _ _  (rk_o (rfl) rfl rfl) (rk_s) H (SF_trans (SF_trans (SF_refl) hS87 (any_sub rfl)) hS97 (any_sub rfl)) (SA_trans (SA_trans (SA_refl) hA88 (any_subA rfl)) hA98 (any_subA rfl)) (y100) ((ey101)) (wq102) (ewq103) (show (u6_37) ≤ (y100) ∧ (y100) ≤ (u6_37) + 3 by omega) (show QAP 65536 ((w70)) ((u6_37)) ((wq102)) ((y100)) (numB ((u6_28))) by assumption)
  · refine Ew_of (pc' := 13) (fun _ => x_aload_n rfl (rk_o (rfl) rfl rfl)) ?_
    refine Ew_of (pc' := 14) (fun _ => x_iload_n rfl rk_s) ?_
    refine w_inv H (o := 6) rfl rfl rfl (H.perm 6 rfl) rfl rfl (by rfl) (M392 H (u6_37) ((eu6_37)) (w70) (ew70) (show inr (u6_28) by omega) (show 0 ≤ (u6_37) ∧ (u6_37) ≤ 99999999 by omega) (fun σ F105 A106 H hS107 hA108 y110 ey111 wq112 ewq113 pz109_0 pz109_1 => ⟨rfl, ?_⟩))
    have r114 : (0 : Int) ≤ y110 ∧ y110 ≤ 100000000 := by have h1 : (0 : Int) ≤ F105 6 37 ∧ F105 6 37 ≤ 100000000 := H.frng 6 37; rw [show F105 6 37 = y110 from (ey111)] at h1; exact h1
    refine Ew_of (pc' := 70) (fun _ => x_goto rfl rfl) ?_
    have : QAP 65536 ((w70)) ((u6_37)) ((wq112)) ((y110)) (numB ((u6_28))) := by first | (rw [numB_1 (by omega)]; have h := pz109_1; rw [u8_id (by omega)] at h; exact h) | (rw [numB_2 (by omega)]; have h1 := pz89_1; have h2 := pz99_1; rw [u8_id (by omega)] at h1 h2; exact QAP_trans h1 h2) | (exfalso; omega)
    exact hc70  _ σ _ _  (rk_o (rfl) rfl rfl) (rk_s) H (SF_trans (SF_refl) hS107 (any_sub rfl)) (SA_trans (SA_refl) hA108 (any_subA rfl)) (y110) ((ey111)) (wq112) (ewq113) (show (u6_37) ≤ (y110) ∧ (y110) ≤ (u6_37) + 3 by omega) (show QAP 65536 ((w70)) ((u6_37)) ((wq112)) ((y110)) (numB ((u6_28))) by assumption)
