/-! the law: its cases -/
set_option maxHeartbeats 4000000 in
theorem LC_0 {g : Nat → Bool} {σ : rS} {D N D2 N2 : Nat → Nat} {F F2 : hF} {A A2 : hA} {d c s L : Nat} {xs : Nat → Int} {Q : wQ} (X : PHI g σ D N F A) (Y : RHI σ D2 N2 F2 A2) (hs : SEP g D D2) (hc : SCR σ L xs) (hE : EQS (A 10) (A2 12)) (hx : ∀ j, inr (xs j)) (hL : L ≤ 1000000) {i : Int} (hi : 0 ≤ i ∧ i + 6 ≤ L) {ls : rO} (l0 : rlook ls 0 = some (.ref 11)) (l1 : rlook ls 1 = some (.ref (D 0))) (l2 : rlook ls 2 = some (.ref (D2 0))) (l3 : rlook ls 3 = some (I i)) (k : ∀ (gₚ : Nat → Bool) (σₚ : rS) (Dₚ Nₚ : Nat → Nat) (Fₚ : hF) (Aₚ : hA) (F2ₚ : hF) (A2ₚ : hA) (cₚ sₚ : Nat), PHI gₚ σₚ Dₚ Nₚ Fₚ Aₚ → RHI σₚ D2 N2 F2ₚ A2ₚ → SEP gₚ Dₚ D2 → SCR σₚ L xs → Dₚ 0 = D 0 → RMG g N c s gₚ Nₚ cₚ sₚ → EQS (Aₚ 10) (A2ₚ 12) → Ew 455 (d + 14) 1065 ls [] σₚ cₚ sₚ Q) : Ew 455 (d + 14) 140 ls [] σ c s Q := by
  refine Ew_of (pcₚ := 141) (fun _ => x_aload_n rfl l1) ?_
  refine Ew_of (pcₚ := 142) (fun _ => x_aload_n rfl l0) ?_
  refine Ew_of (pcₚ := 143) (fun _ => x_iload_n rfl l3) ?_
  refine Ew_of (pcₚ := 144) (fun _ => x_iconst rfl) ?_
  refine w_iadd rfl ?_
  refine w_scr hc rfl (by omega) (by omega) ?_
  refine Ew_of (pcₚ := 147) (fun _ => x_aload_n rfl l0) ?_
  refine Ew_of (pcₚ := 148) (fun _ => x_iload_n rfl l3) ?_
  refine Ew_of (pcₚ := 149) (fun _ => x_iconst rfl) ?_
  refine w_iadd rfl ?_
  refine w_scr hc rfl (by omega) (by omega) ?_
  refine Ew_of (pcₚ := 152) (fun _ => x_aload_n rfl l0) ?_
  refine Ew_of (pcₚ := 153) (fun _ => x_iload_n rfl l3) ?_
  refine Ew_of (pcₚ := 154) (fun _ => x_iconst rfl) ?_
  refine w_iadd rfl ?_
  refine w_scr hc rfl (by omega) (by omega) ?_
  refine Ew_of (pcₚ := 157) (fun _ => x_aload_n rfl l0) ?_
  refine Ew_of (pcₚ := 158) (fun _ => x_iload_n rfl l3) ?_
  refine Ew_of (pcₚ := 159) (fun _ => x_iconst rfl) ?_
  refine w_iadd rfl ?_
  refine w_scr hc rfl (by omega) (by omega) ?_
  refine Ew_of (pcₚ := 162) (fun _ => x_aload_n rfl l0) ?_
  refine Ew_of (pcₚ := 163) (fun _ => x_iload_n rfl l3) ?_
  refine Ew_of (pcₚ := 164) (fun _ => x_iconst rfl) ?_
  refine w_iadd rfl ?_
  refine w_scr hc rfl (by omega) (by omega) ?_
  refine w_callk rfl (fun rec => rinvv rfl rfl (X.1.obj 0 (by decide +kernel) (show g 0 = true from X.2.2.1) rfl) rec) rfl (T_feed (d := d + 9) X (hx _) (hx _) (hx _) (hx _) (hx _) (fun z σ1 D1 N1 F1 A1 c1 s1 X1 S1 zr => ⟨(rretB rfl zr), ?_⟩))
  have Y1 := CL_ref Y hs S1.1
  have hc1 := CL_scr X.1 hc S1.1
  have E1 : EQS (A1 10) (A2 12) := by rw [S1.2]; exact hE
  refine Ew_of (pcₚ := 170) (fun _ => x_pop rfl rfl) ?_
  refine Ew_of (pcₚ := 171) (fun _ => x_aload_n rfl l2) ?_
  refine Ew_of (pcₚ := 172) (fun _ => x_aload_n rfl l0) ?_
  refine Ew_of (pcₚ := 173) (fun _ => x_iload_n rfl l3) ?_
  refine Ew_of (pcₚ := 174) (fun _ => x_iconst rfl) ?_
  refine w_iadd rfl ?_
  refine w_scr hc1 rfl (by omega) (by omega) ?_
  refine Ew_of (pcₚ := 177) (fun _ => x_aload_n rfl l0) ?_
  refine Ew_of (pcₚ := 178) (fun _ => x_iload_n rfl l3) ?_
  refine Ew_of (pcₚ := 179) (fun _ => x_iconst rfl) ?_
  refine w_iadd rfl ?_
  refine w_scr hc1 rfl (by omega) (by omega) ?_
  refine Ew_of (pcₚ := 182) (fun _ => x_aload_n rfl l0) ?_
  refine Ew_of (pcₚ := 183) (fun _ => x_iload_n rfl l3) ?_
  refine Ew_of (pcₚ := 184) (fun _ => x_iconst rfl) ?_
  refine w_iadd rfl ?_
  refine w_scr hc1 rfl (by omega) (by omega) ?_
  refine Ew_of (pcₚ := 187) (fun _ => x_aload_n rfl l0) ?_
  refine Ew_of (pcₚ := 188) (fun _ => x_iload_n rfl l3) ?_
  refine Ew_of (pcₚ := 189) (fun _ => x_iconst rfl) ?_
  refine w_iadd rfl ?_
  refine w_scr hc1 rfl (by omega) (by omega) ?_
  refine Ew_of (pcₚ := 192) (fun _ => x_aload_n rfl l0) ?_
  refine Ew_of (pcₚ := 193) (fun _ => x_iload_n rfl l3) ?_
  refine Ew_of (pcₚ := 194) (fun _ => x_iconst rfl) ?_
  refine w_iadd rfl ?_
  refine w_scr hc1 rfl (by omega) (by omega) ?_
  refine w_callk rfl (fun rec => rinvv rfl rfl (Y1.1.1.obj 0 (Y1.1.1.perm 0 rfl) rfl) rec) rfl (RS_feed (d := d + 12) Y1.1 (hx _) (hx _) (hx _) (hx _) (hx _) (fun z2 σ2 F3 A3 Y2 T2 t12 zr2 => ⟨(rretB rfl zr2), ?_⟩))
  have X2 := RF_cls X1 Y1.1.1 Y1.2 T2
  have hc2 := RF_scr Y1.1.1 hc1 T2
  have E2 : EQS (A1 10) (A3 12) := by rw [t12]; exact E1
  refine Ew_of (pcₚ := 200) (fun _ => x_pop rfl rfl) ?_
  refine Ew_of (pcₚ := 1065) (fun _ => x_goto rfl rfl) ?_
  exact k g σ2 D1 N1 F1 A1 F3 A3 _ _ X2 Y2 Y1.2 hc2 S1.1.2.1 (RMG_of S1.1) E2
set_option maxHeartbeats 4000000 in
theorem LC_1 {g : Nat → Bool} {σ : rS} {D N D2 N2 : Nat → Nat} {F F2 : hF} {A A2 : hA} {d c s L : Nat} {xs : Nat → Int} {Q : wQ} (X : PHI g σ D N F A) (Y : RHI σ D2 N2 F2 A2) (hs : SEP g D D2) (hc : SCR σ L xs) (hE : EQS (A 10) (A2 12)) (hx : ∀ j, inr (xs j)) (hL : L ≤ 1000000) {i : Int} (hi : 0 ≤ i ∧ i + 6 ≤ L) {ls : rO} (l0 : rlook ls 0 = some (.ref 11)) (l1 : rlook ls 1 = some (.ref (D 0))) (l2 : rlook ls 2 = some (.ref (D2 0))) (l3 : rlook ls 3 = some (I i)) (k : ∀ (gₚ : Nat → Bool) (σₚ : rS) (Dₚ Nₚ : Nat → Nat) (Fₚ : hF) (Aₚ : hA) (F2ₚ : hF) (A2ₚ : hA) (cₚ sₚ : Nat), PHI gₚ σₚ Dₚ Nₚ Fₚ Aₚ → RHI σₚ D2 N2 F2ₚ A2ₚ → SEP gₚ Dₚ D2 → SCR σₚ L xs → Dₚ 0 = D 0 → RMG g N c s gₚ Nₚ cₚ sₚ → EQS (Aₚ 10) (A2ₚ 12) → Ew 455 (d + 14) 1065 ls [] σₚ cₚ sₚ Q) : Ew 455 (d + 14) 203 ls [] σ c s Q := by
  refine Ew_of (pcₚ := 204) (fun _ => x_aload_n rfl l1) ?_
  refine Ew_of (pcₚ := 205) (fun _ => x_aload_n rfl l0) ?_
  refine Ew_of (pcₚ := 206) (fun _ => x_iload_n rfl l3) ?_
  refine Ew_of (pcₚ := 207) (fun _ => x_iconst rfl) ?_
  refine w_iadd rfl ?_
  refine w_scr hc rfl (by omega) (by omega) ?_
  refine Ew_of (pcₚ := 210) (fun _ => x_aload_n rfl l0) ?_
  refine Ew_of (pcₚ := 211) (fun _ => x_iload_n rfl l3) ?_
  refine Ew_of (pcₚ := 212) (fun _ => x_iconst rfl) ?_
  refine w_iadd rfl ?_
  refine w_scr hc rfl (by omega) (by omega) ?_
  refine Ew_of (pcₚ := 215) (fun _ => x_aload_n rfl l0) ?_
  refine Ew_of (pcₚ := 216) (fun _ => x_iload_n rfl l3) ?_
  refine Ew_of (pcₚ := 217) (fun _ => x_iconst rfl) ?_
  refine w_iadd rfl ?_
  refine w_scr hc rfl (by omega) (by omega) ?_
  refine w_i2l rfl (hx _) ?_
  refine Ew_of (pcₚ := 222) (fun _ => x_bipush rfl (z := 32) (by decide)) ?_
  refine w_lshlZ rfl ?_
  refine Ew_of (pcₚ := 224) (fun _ => x_aload_n rfl l0) ?_
  refine Ew_of (pcₚ := 225) (fun _ => x_iload_n rfl l3) ?_
  refine Ew_of (pcₚ := 226) (fun _ => x_iconst rfl) ?_
  refine w_iadd rfl ?_
  refine w_scr hc rfl (by omega) (by omega) ?_
  refine w_i2l rfl (hx _) ?_
  refine Ew_of (pcₚ := 232) (fun _ => x_ldc2 rfl (z := 4294967295) (by decide)) ?_
  refine w_landZ rfl ?_
  refine w_lorZ rfl ?_
  refine w_callk rfl (fun rec => rinvv rfl rfl (X.1.obj 0 (by decide +kernel) (show g 0 = true from X.2.2.1) rfl) rec) rfl (T_give (d := d + 9) X (hx _) (hx _) (zrng _ _) (fun z σ1 D1 N1 F1 A1 c1 s1 X1 S1 zr => ⟨(rretB rfl zr), ?_⟩))
  have Y1 := CL_ref Y hs S1.1
  have hc1 := CL_scr X.1 hc S1.1
  have E1 : EQS (A1 10) (A2 12) := by rw [S1.2]; exact hE
  refine Ew_of (pcₚ := 238) (fun _ => x_pop rfl rfl) ?_
  refine Ew_of (pcₚ := 239) (fun _ => x_aload_n rfl l2) ?_
  refine Ew_of (pcₚ := 240) (fun _ => x_aload_n rfl l0) ?_
  refine Ew_of (pcₚ := 241) (fun _ => x_iload_n rfl l3) ?_
  refine Ew_of (pcₚ := 242) (fun _ => x_iconst rfl) ?_
  refine w_iadd rfl ?_
  refine w_scr hc1 rfl (by omega) (by omega) ?_
  refine Ew_of (pcₚ := 245) (fun _ => x_aload_n rfl l0) ?_
  refine Ew_of (pcₚ := 246) (fun _ => x_iload_n rfl l3) ?_
  refine Ew_of (pcₚ := 247) (fun _ => x_iconst rfl) ?_
  refine w_iadd rfl ?_
  refine w_scr hc1 rfl (by omega) (by omega) ?_
  refine Ew_of (pcₚ := 250) (fun _ => x_aload_n rfl l0) ?_
  refine Ew_of (pcₚ := 251) (fun _ => x_iload_n rfl l3) ?_
  refine Ew_of (pcₚ := 252) (fun _ => x_iconst rfl) ?_
  refine w_iadd rfl ?_
  refine w_scr hc1 rfl (by omega) (by omega) ?_
  refine w_i2l rfl (hx _) ?_
  refine Ew_of (pcₚ := 257) (fun _ => x_bipush rfl (z := 32) (by decide)) ?_
  refine w_lshlZ rfl ?_
  refine Ew_of (pcₚ := 259) (fun _ => x_aload_n rfl l0) ?_
  refine Ew_of (pcₚ := 260) (fun _ => x_iload_n rfl l3) ?_
  refine Ew_of (pcₚ := 261) (fun _ => x_iconst rfl) ?_
  refine w_iadd rfl ?_
  refine w_scr hc1 rfl (by omega) (by omega) ?_
  refine w_i2l rfl (hx _) ?_
  refine Ew_of (pcₚ := 267) (fun _ => x_ldc2 rfl (z := 4294967295) (by decide)) ?_
  refine w_landZ rfl ?_
  refine w_lorZ rfl ?_
  refine w_callk rfl (fun rec => rinvv rfl rfl (Y1.1.1.obj 0 (Y1.1.1.perm 0 rfl) rfl) rec) rfl (RS_give (d := d + 12) Y1.1 (hx _) (hx _) (zrng _ _) (fun z2 σ2 F3 A3 Y2 T2 t12 zr2 => ⟨(rretB rfl zr2), ?_⟩))
  have X2 := RF_cls X1 Y1.1.1 Y1.2 T2
  have hc2 := RF_scr Y1.1.1 hc1 T2
  have E2 : EQS (A1 10) (A3 12) := by rw [t12]; exact E1
  refine Ew_of (pcₚ := 273) (fun _ => x_pop rfl rfl) ?_
  refine Ew_of (pcₚ := 1065) (fun _ => x_goto rfl rfl) ?_
  exact k g σ2 D1 N1 F1 A1 F3 A3 _ _ X2 Y2 Y1.2 hc2 S1.1.2.1 (RMG_of S1.1) E2
set_option maxHeartbeats 4000000 in
theorem LC_2 {g : Nat → Bool} {σ : rS} {D N D2 N2 : Nat → Nat} {F F2 : hF} {A A2 : hA} {d c s L : Nat} {xs : Nat → Int} {Q : wQ} (X : PHI g σ D N F A) (Y : RHI σ D2 N2 F2 A2) (hs : SEP g D D2) (hc : SCR σ L xs) (hE : EQS (A 10) (A2 12)) (hx : ∀ j, inr (xs j)) (hL : L ≤ 1000000) {i : Int} (hi : 0 ≤ i ∧ i + 6 ≤ L) {ls : rO} (l0 : rlook ls 0 = some (.ref 11)) (l1 : rlook ls 1 = some (.ref (D 0))) (l2 : rlook ls 2 = some (.ref (D2 0))) (l3 : rlook ls 3 = some (I i)) (k : ∀ (gₚ : Nat → Bool) (σₚ : rS) (Dₚ Nₚ : Nat → Nat) (Fₚ : hF) (Aₚ : hA) (F2ₚ : hF) (A2ₚ : hA) (cₚ sₚ : Nat), PHI gₚ σₚ Dₚ Nₚ Fₚ Aₚ → RHI σₚ D2 N2 F2ₚ A2ₚ → SEP gₚ Dₚ D2 → SCR σₚ L xs → Dₚ 0 = D 0 → RMG g N c s gₚ Nₚ cₚ sₚ → EQS (Aₚ 10) (A2ₚ 12) → Ew 455 (d + 14) 1065 ls [] σₚ cₚ sₚ Q) : Ew 455 (d + 14) 276 ls [] σ c s Q := by
  refine Ew_of (pcₚ := 277) (fun _ => x_aload_n rfl l1) ?_
  refine Ew_of (pcₚ := 278) (fun _ => x_aload_n rfl l0) ?_
  refine Ew_of (pcₚ := 279) (fun _ => x_iload_n rfl l3) ?_
  refine Ew_of (pcₚ := 280) (fun _ => x_iconst rfl) ?_
  refine w_iadd rfl ?_
  refine w_scr hc rfl (by omega) (by omega) ?_
  refine Ew_of (pcₚ := 283) (fun _ => x_aload_n rfl l0) ?_
  refine Ew_of (pcₚ := 284) (fun _ => x_iload_n rfl l3) ?_
  refine Ew_of (pcₚ := 285) (fun _ => x_iconst rfl) ?_
  refine w_iadd rfl ?_
  refine w_scr hc rfl (by omega) (by omega) ?_
  refine Ew_of (pcₚ := 288) (fun _ => x_aload_n rfl l0) ?_
  refine Ew_of (pcₚ := 289) (fun _ => x_iload_n rfl l3) ?_
  refine Ew_of (pcₚ := 290) (fun _ => x_iconst rfl) ?_
  refine w_iadd rfl ?_
  refine w_scr hc rfl (by omega) (by omega) ?_
  refine w_callk rfl (fun rec => rinvv rfl rfl (X.1.obj 0 (by decide +kernel) (show g 0 = true from X.2.2.1) rfl) rec) rfl (T_again (d := d + 10) X (hx _) (hx _) (hx _) (fun z σ1 D1 N1 F1 A1 c1 s1 X1 S1 zr => ⟨(rretB rfl zr), ?_⟩))
  have Y1 := CL_ref Y hs S1.1
  have hc1 := CL_scr X.1 hc S1.1
  have E1 : EQS (A1 10) (A2 12) := by rw [S1.2]; exact hE
  refine Ew_of (pcₚ := 296) (fun _ => x_pop rfl rfl) ?_
  refine Ew_of (pcₚ := 297) (fun _ => x_aload_n rfl l2) ?_
  refine Ew_of (pcₚ := 298) (fun _ => x_aload_n rfl l0) ?_
  refine Ew_of (pcₚ := 299) (fun _ => x_iload_n rfl l3) ?_
  refine Ew_of (pcₚ := 300) (fun _ => x_iconst rfl) ?_
  refine w_iadd rfl ?_
  refine w_scr hc1 rfl (by omega) (by omega) ?_
  refine Ew_of (pcₚ := 303) (fun _ => x_aload_n rfl l0) ?_
  refine Ew_of (pcₚ := 304) (fun _ => x_iload_n rfl l3) ?_
  refine Ew_of (pcₚ := 305) (fun _ => x_iconst rfl) ?_
  refine w_iadd rfl ?_
  refine w_scr hc1 rfl (by omega) (by omega) ?_
  refine Ew_of (pcₚ := 308) (fun _ => x_aload_n rfl l0) ?_
  refine Ew_of (pcₚ := 309) (fun _ => x_iload_n rfl l3) ?_
  refine Ew_of (pcₚ := 310) (fun _ => x_iconst rfl) ?_
  refine w_iadd rfl ?_
  refine w_scr hc1 rfl (by omega) (by omega) ?_
  refine w_callk rfl (fun rec => rinvv rfl rfl (Y1.1.1.obj 0 (Y1.1.1.perm 0 rfl) rfl) rec) rfl (RS_again (d := d + 12) Y1.1 (hx _) (hx _) (hx _) (fun z2 σ2 F3 A3 Y2 T2 t12 zr2 => ⟨(rretB rfl zr2), ?_⟩))
  have X2 := RF_cls X1 Y1.1.1 Y1.2 T2
  have hc2 := RF_scr Y1.1.1 hc1 T2
  have E2 : EQS (A1 10) (A3 12) := by rw [t12]; exact E1
  refine Ew_of (pcₚ := 316) (fun _ => x_pop rfl rfl) ?_
  refine Ew_of (pcₚ := 1065) (fun _ => x_goto rfl rfl) ?_
  exact k g σ2 D1 N1 F1 A1 F3 A3 _ _ X2 Y2 Y1.2 hc2 S1.1.2.1 (RMG_of S1.1) E2
set_option maxHeartbeats 4000000 in
theorem LC_3 {g : Nat → Bool} {σ : rS} {D N D2 N2 : Nat → Nat} {F F2 : hF} {A A2 : hA} {d c s L : Nat} {xs : Nat → Int} {Q : wQ} (X : PHI g σ D N F A) (Y : RHI σ D2 N2 F2 A2) (hs : SEP g D D2) (hc : SCR σ L xs) (hE : EQS (A 10) (A2 12)) (hx : ∀ j, inr (xs j)) (hL : L ≤ 1000000) {i : Int} (hi : 0 ≤ i ∧ i + 6 ≤ L) {ls : rO} (l0 : rlook ls 0 = some (.ref 11)) (l1 : rlook ls 1 = some (.ref (D 0))) (l2 : rlook ls 2 = some (.ref (D2 0))) (l3 : rlook ls 3 = some (I i)) (k : ∀ (gₚ : Nat → Bool) (σₚ : rS) (Dₚ Nₚ : Nat → Nat) (Fₚ : hF) (Aₚ : hA) (F2ₚ : hF) (A2ₚ : hA) (cₚ sₚ : Nat), PHI gₚ σₚ Dₚ Nₚ Fₚ Aₚ → RHI σₚ D2 N2 F2ₚ A2ₚ → SEP gₚ Dₚ D2 → SCR σₚ L xs → Dₚ 0 = D 0 → RMG g N c s gₚ Nₚ cₚ sₚ → EQS (Aₚ 10) (A2ₚ 12) → Ew 455 (d + 14) 1065 ls [] σₚ cₚ sₚ Q) : Ew 455 (d + 14) 319 ls [] σ c s Q := by
  refine Ew_of (pcₚ := 320) (fun _ => x_aload_n rfl l1) ?_
  refine Ew_of (pcₚ := 321) (fun _ => x_aload_n rfl l0) ?_
  refine Ew_of (pcₚ := 322) (fun _ => x_iload_n rfl l3) ?_
  refine Ew_of (pcₚ := 323) (fun _ => x_iconst rfl) ?_
  refine w_iadd rfl ?_
  refine w_scr hc rfl (by omega) (by omega) ?_
  refine Ew_of (pcₚ := 326) (fun _ => x_aload_n rfl l0) ?_
  refine Ew_of (pcₚ := 327) (fun _ => x_iload_n rfl l3) ?_
  refine Ew_of (pcₚ := 328) (fun _ => x_iconst rfl) ?_
  refine w_iadd rfl ?_
  refine w_scr hc rfl (by omega) (by omega) ?_
  refine w_callk rfl (fun rec => rinvv rfl rfl (X.1.obj 0 (by decide +kernel) (show g 0 = true from X.2.2.1) rfl) rec) rfl (T_cut (d := d + 12) X (hx _) (hx _) (fun z σ1 D1 N1 F1 A1 c1 s1 X1 S1 zr => ⟨(rretB rfl zr), ?_⟩))
  have Y1 := CL_ref Y hs S1.1
  have hc1 := CL_scr X.1 hc S1.1
  have E1 : EQS (A1 10) (A2 12) := by rw [S1.2]; exact hE
  refine Ew_of (pcₚ := 334) (fun _ => x_pop rfl rfl) ?_
  refine Ew_of (pcₚ := 335) (fun _ => x_aload_n rfl l2) ?_
  refine Ew_of (pcₚ := 336) (fun _ => x_aload_n rfl l0) ?_
  refine Ew_of (pcₚ := 337) (fun _ => x_iload_n rfl l3) ?_
  refine Ew_of (pcₚ := 338) (fun _ => x_iconst rfl) ?_
  refine w_iadd rfl ?_
  refine w_scr hc1 rfl (by omega) (by omega) ?_
  refine Ew_of (pcₚ := 341) (fun _ => x_aload_n rfl l0) ?_
  refine Ew_of (pcₚ := 342) (fun _ => x_iload_n rfl l3) ?_
  refine Ew_of (pcₚ := 343) (fun _ => x_iconst rfl) ?_
  refine w_iadd rfl ?_
  refine w_scr hc1 rfl (by omega) (by omega) ?_
  refine w_callk rfl (fun rec => rinvv rfl rfl (Y1.1.1.obj 0 (Y1.1.1.perm 0 rfl) rfl) rec) rfl (RS_cut (d := d + 12) Y1.1 (hx _) (hx _) (fun z2 σ2 F3 A3 Y2 T2 t12 zr2 => ⟨(rretB rfl zr2), ?_⟩))
  have X2 := RF_cls X1 Y1.1.1 Y1.2 T2
  have hc2 := RF_scr Y1.1.1 hc1 T2
  have E2 : EQS (A1 10) (A3 12) := by rw [t12]; exact E1
  refine Ew_of (pcₚ := 349) (fun _ => x_pop rfl rfl) ?_
  refine Ew_of (pcₚ := 1065) (fun _ => x_goto rfl rfl) ?_
  exact k g σ2 D1 N1 F1 A1 F3 A3 _ _ X2 Y2 Y1.2 hc2 S1.1.2.1 (RMG_of S1.1) E2
set_option maxHeartbeats 4000000 in
theorem LC_4 {g : Nat → Bool} {σ : rS} {D N D2 N2 : Nat → Nat} {F F2 : hF} {A A2 : hA} {d c s L : Nat} {xs : Nat → Int} {Q : wQ} (X : PHI g σ D N F A) (Y : RHI σ D2 N2 F2 A2) (hs : SEP g D D2) (hc : SCR σ L xs) (hE : EQS (A 10) (A2 12)) (hx : ∀ j, inr (xs j)) (hL : L ≤ 1000000) {i : Int} (hi : 0 ≤ i ∧ i + 6 ≤ L) {ls : rO} (l0 : rlook ls 0 = some (.ref 11)) (l1 : rlook ls 1 = some (.ref (D 0))) (l2 : rlook ls 2 = some (.ref (D2 0))) (l3 : rlook ls 3 = some (I i)) (k : ∀ (gₚ : Nat → Bool) (σₚ : rS) (Dₚ Nₚ : Nat → Nat) (Fₚ : hF) (Aₚ : hA) (F2ₚ : hF) (A2ₚ : hA) (cₚ sₚ : Nat), PHI gₚ σₚ Dₚ Nₚ Fₚ Aₚ → RHI σₚ D2 N2 F2ₚ A2ₚ → SEP gₚ Dₚ D2 → SCR σₚ L xs → Dₚ 0 = D 0 → RMG g N c s gₚ Nₚ cₚ sₚ → EQS (Aₚ 10) (A2ₚ 12) → Ew 455 (d + 14) 1065 ls [] σₚ cₚ sₚ Q) : Ew 455 (d + 14) 352 ls [] σ c s Q := by
  refine Ew_of (pcₚ := 353) (fun _ => x_aload_n rfl l1) ?_
  refine Ew_of (pcₚ := 354) (fun _ => x_aload_n rfl l0) ?_
  refine Ew_of (pcₚ := 355) (fun _ => x_iload_n rfl l3) ?_
  refine Ew_of (pcₚ := 356) (fun _ => x_iconst rfl) ?_
  refine w_iadd rfl ?_
  refine w_scr hc rfl (by omega) (by omega) ?_
  refine Ew_of (pcₚ := 359) (fun _ => x_aload_n rfl l0) ?_
  refine Ew_of (pcₚ := 360) (fun _ => x_iload_n rfl l3) ?_
  refine Ew_of (pcₚ := 361) (fun _ => x_iconst rfl) ?_
  refine w_iadd rfl ?_
  refine w_scr hc rfl (by omega) (by omega) ?_
  refine Ew_of (pcₚ := 364) (fun _ => x_aload_n rfl l0) ?_
  refine Ew_of (pcₚ := 365) (fun _ => x_iload_n rfl l3) ?_
  refine Ew_of (pcₚ := 366) (fun _ => x_iconst rfl) ?_
  refine w_iadd rfl ?_
  refine w_scr hc rfl (by omega) (by omega) ?_
  refine Ew_of (pcₚ := 369) (fun _ => x_aload_n rfl l0) ?_
  refine Ew_of (pcₚ := 370) (fun _ => x_iload_n rfl l3) ?_
  refine Ew_of (pcₚ := 371) (fun _ => x_iconst rfl) ?_
  refine w_iadd rfl ?_
  refine w_scr hc rfl (by omega) (by omega) ?_
  refine w_callk rfl (fun rec => rinvv rfl rfl (X.1.obj 0 (by decide +kernel) (show g 0 = true from X.2.2.1) rfl) rec) rfl (T_join (d := d + 11) X (hx _) (hx _) (hx _) (hx _) (fun z σ1 D1 N1 F1 A1 c1 s1 X1 S1 zr => ⟨(rretB rfl zr), ?_⟩))
  have Y1 := CL_ref Y hs S1.1
  have hc1 := CL_scr X.1 hc S1.1
  have E1 : EQS (A1 10) (A2 12) := by rw [S1.2]; exact hE
  refine Ew_of (pcₚ := 377) (fun _ => x_pop rfl rfl) ?_
  refine Ew_of (pcₚ := 378) (fun _ => x_aload_n rfl l2) ?_
  refine Ew_of (pcₚ := 379) (fun _ => x_aload_n rfl l0) ?_
  refine Ew_of (pcₚ := 380) (fun _ => x_iload_n rfl l3) ?_
  refine Ew_of (pcₚ := 381) (fun _ => x_iconst rfl) ?_
  refine w_iadd rfl ?_
  refine w_scr hc1 rfl (by omega) (by omega) ?_
  refine Ew_of (pcₚ := 384) (fun _ => x_aload_n rfl l0) ?_
  refine Ew_of (pcₚ := 385) (fun _ => x_iload_n rfl l3) ?_
  refine Ew_of (pcₚ := 386) (fun _ => x_iconst rfl) ?_
  refine w_iadd rfl ?_
  refine w_scr hc1 rfl (by omega) (by omega) ?_
  refine Ew_of (pcₚ := 389) (fun _ => x_aload_n rfl l0) ?_
  refine Ew_of (pcₚ := 390) (fun _ => x_iload_n rfl l3) ?_
  refine Ew_of (pcₚ := 391) (fun _ => x_iconst rfl) ?_
  refine w_iadd rfl ?_
  refine w_scr hc1 rfl (by omega) (by omega) ?_
  refine Ew_of (pcₚ := 394) (fun _ => x_aload_n rfl l0) ?_
  refine Ew_of (pcₚ := 395) (fun _ => x_iload_n rfl l3) ?_
  refine Ew_of (pcₚ := 396) (fun _ => x_iconst rfl) ?_
  refine w_iadd rfl ?_
  refine w_scr hc1 rfl (by omega) (by omega) ?_
  refine w_callk rfl (fun rec => rinvv rfl rfl (Y1.1.1.obj 0 (Y1.1.1.perm 0 rfl) rfl) rec) rfl (RS_join (d := d + 12) Y1.1 (hx _) (hx _) (hx _) (hx _) (fun z2 σ2 F3 A3 Y2 T2 t12 zr2 => ⟨(rretB rfl zr2), ?_⟩))
  have X2 := RF_cls X1 Y1.1.1 Y1.2 T2
  have hc2 := RF_scr Y1.1.1 hc1 T2
  have E2 : EQS (A1 10) (A3 12) := by rw [t12]; exact E1
  refine Ew_of (pcₚ := 402) (fun _ => x_pop rfl rfl) ?_
  refine Ew_of (pcₚ := 1065) (fun _ => x_goto rfl rfl) ?_
  exact k g σ2 D1 N1 F1 A1 F3 A3 _ _ X2 Y2 Y1.2 hc2 S1.1.2.1 (RMG_of S1.1) E2
set_option maxHeartbeats 4000000 in
theorem LC_5 {g : Nat → Bool} {σ : rS} {D N D2 N2 : Nat → Nat} {F F2 : hF} {A A2 : hA} {d c s L : Nat} {xs : Nat → Int} {Q : wQ} (X : PHI g σ D N F A) (Y : RHI σ D2 N2 F2 A2) (hs : SEP g D D2) (hc : SCR σ L xs) (hE : EQS (A 10) (A2 12)) (hx : ∀ j, inr (xs j)) (hL : L ≤ 1000000) {i : Int} (hi : 0 ≤ i ∧ i + 6 ≤ L) {ls : rO} (l0 : rlook ls 0 = some (.ref 11)) (l1 : rlook ls 1 = some (.ref (D 0))) (l2 : rlook ls 2 = some (.ref (D2 0))) (l3 : rlook ls 3 = some (I i)) (k : ∀ (gₚ : Nat → Bool) (σₚ : rS) (Dₚ Nₚ : Nat → Nat) (Fₚ : hF) (Aₚ : hA) (F2ₚ : hF) (A2ₚ : hA) (cₚ sₚ : Nat), PHI gₚ σₚ Dₚ Nₚ Fₚ Aₚ → RHI σₚ D2 N2 F2ₚ A2ₚ → SEP gₚ Dₚ D2 → SCR σₚ L xs → Dₚ 0 = D 0 → RMG g N c s gₚ Nₚ cₚ sₚ → EQS (Aₚ 10) (A2ₚ 12) → Ew 455 (d + 14) 1065 ls [] σₚ cₚ sₚ Q) : Ew 455 (d + 14) 405 ls [] σ c s Q := by
  refine Ew_of (pcₚ := 406) (fun _ => x_aload_n rfl l1) ?_
  refine Ew_of (pcₚ := 407) (fun _ => x_aload_n rfl l0) ?_
  refine Ew_of (pcₚ := 408) (fun _ => x_iload_n rfl l3) ?_
  refine Ew_of (pcₚ := 409) (fun _ => x_iconst rfl) ?_
  refine w_iadd rfl ?_
  refine w_scr hc rfl (by omega) (by omega) ?_
  refine w_callk rfl (fun rec => rinvv rfl rfl (X.1.obj 0 (by decide +kernel) (show g 0 = true from X.2.2.1) rfl) rec) rfl (T_size (d := d + 12) X (hx _) (fun z σ1 D1 N1 F1 A1 c1 s1 X1 S1 zr => ⟨rfl, ?_⟩))
  have Y1 := CL_ref Y hs S1.1
  have hc1 := CL_scr X.1 hc S1.1
  have E1 : EQS (A1 10) (A2 12) := by rw [S1.2]; exact hE
  refine Ew_of (pcₚ := 415) (fun _ => x_pop rfl rfl) ?_
  refine Ew_of (pcₚ := 416) (fun _ => x_aload_n rfl l2) ?_
  refine Ew_of (pcₚ := 417) (fun _ => x_aload_n rfl l0) ?_
  refine Ew_of (pcₚ := 418) (fun _ => x_iload_n rfl l3) ?_
  refine Ew_of (pcₚ := 419) (fun _ => x_iconst rfl) ?_
  refine w_iadd rfl ?_
  refine w_scr hc1 rfl (by omega) (by omega) ?_
  refine w_callk rfl (fun rec => rinvv rfl rfl (Y1.1.1.obj 0 (Y1.1.1.perm 0 rfl) rfl) rec) rfl (RS_size (d := d + 12) Y1.1 (hx _) (fun z2 σ2 F3 A3 Y2 T2 t12 zr2 => ⟨rfl, ?_⟩))
  have X2 := RF_cls X1 Y1.1.1 Y1.2 T2
  have hc2 := RF_scr Y1.1.1 hc1 T2
  have E2 : EQS (A1 10) (A3 12) := by rw [t12]; exact E1
  refine Ew_of (pcₚ := 425) (fun _ => x_pop rfl rfl) ?_
  refine Ew_of (pcₚ := 1065) (fun _ => x_goto rfl rfl) ?_
  exact k g σ2 D1 N1 F1 A1 F3 A3 _ _ X2 Y2 Y1.2 hc2 S1.1.2.1 (RMG_of S1.1) E2
set_option maxHeartbeats 4000000 in
theorem LC_6 {g : Nat → Bool} {σ : rS} {D N D2 N2 : Nat → Nat} {F F2 : hF} {A A2 : hA} {d c s L : Nat} {xs : Nat → Int} {Q : wQ} (X : PHI g σ D N F A) (Y : RHI σ D2 N2 F2 A2) (hs : SEP g D D2) (hc : SCR σ L xs) (hE : EQS (A 10) (A2 12)) (hx : ∀ j, inr (xs j)) (hL : L ≤ 1000000) {i : Int} (hi : 0 ≤ i ∧ i + 6 ≤ L) {ls : rO} (l0 : rlook ls 0 = some (.ref 11)) (l1 : rlook ls 1 = some (.ref (D 0))) (l2 : rlook ls 2 = some (.ref (D2 0))) (l3 : rlook ls 3 = some (I i)) (k : ∀ (gₚ : Nat → Bool) (σₚ : rS) (Dₚ Nₚ : Nat → Nat) (Fₚ : hF) (Aₚ : hA) (F2ₚ : hF) (A2ₚ : hA) (cₚ sₚ : Nat), PHI gₚ σₚ Dₚ Nₚ Fₚ Aₚ → RHI σₚ D2 N2 F2ₚ A2ₚ → SEP gₚ Dₚ D2 → SCR σₚ L xs → Dₚ 0 = D 0 → RMG g N c s gₚ Nₚ cₚ sₚ → EQS (Aₚ 10) (A2ₚ 12) → Ew 455 (d + 14) 1065 ls [] σₚ cₚ sₚ Q) : Ew 455 (d + 14) 428 ls [] σ c s Q := by
  refine Ew_of (pcₚ := 429) (fun _ => x_aload_n rfl l1) ?_
  refine Ew_of (pcₚ := 430) (fun _ => x_aload_n rfl l0) ?_
  refine Ew_of (pcₚ := 431) (fun _ => x_iload_n rfl l3) ?_
  refine Ew_of (pcₚ := 432) (fun _ => x_iconst rfl) ?_
  refine w_iadd rfl ?_
  refine w_scr hc rfl (by omega) (by omega) ?_
  refine Ew_of (pcₚ := 435) (fun _ => x_aload_n rfl l0) ?_
  refine Ew_of (pcₚ := 436) (fun _ => x_iload_n rfl l3) ?_
  refine Ew_of (pcₚ := 437) (fun _ => x_iconst rfl) ?_
  refine w_iadd rfl ?_
  refine w_scr hc rfl (by omega) (by omega) ?_
  refine w_callk rfl (fun rec => rinvv rfl rfl (X.1.obj 0 (by decide +kernel) (show g 0 = true from X.2.2.1) rfl) rec) rfl (T_byteAt (d := d + 12) X (hx _) (hx _) (fun z σ1 D1 N1 F1 A1 c1 s1 X1 S1 zr => ⟨rfl, ?_⟩))
  have Y1 := CL_ref Y hs S1.1
  have hc1 := CL_scr X.1 hc S1.1
  have E1 : EQS (A1 10) (A2 12) := by rw [S1.2]; exact hE
  refine Ew_of (pcₚ := 443) (fun _ => x_pop rfl rfl) ?_
  refine Ew_of (pcₚ := 444) (fun _ => x_aload_n rfl l2) ?_
  refine Ew_of (pcₚ := 445) (fun _ => x_aload_n rfl l0) ?_
  refine Ew_of (pcₚ := 446) (fun _ => x_iload_n rfl l3) ?_
  refine Ew_of (pcₚ := 447) (fun _ => x_iconst rfl) ?_
  refine w_iadd rfl ?_
  refine w_scr hc1 rfl (by omega) (by omega) ?_
  refine Ew_of (pcₚ := 450) (fun _ => x_aload_n rfl l0) ?_
  refine Ew_of (pcₚ := 451) (fun _ => x_iload_n rfl l3) ?_
  refine Ew_of (pcₚ := 452) (fun _ => x_iconst rfl) ?_
  refine w_iadd rfl ?_
  refine w_scr hc1 rfl (by omega) (by omega) ?_
  refine w_callk rfl (fun rec => rinvv rfl rfl (Y1.1.1.obj 0 (Y1.1.1.perm 0 rfl) rfl) rec) rfl (RS_byteAt (d := d + 12) Y1.1 (hx _) (hx _) (fun z2 σ2 F3 A3 Y2 T2 t12 zr2 => ⟨rfl, ?_⟩))
  have X2 := RF_cls X1 Y1.1.1 Y1.2 T2
  have hc2 := RF_scr Y1.1.1 hc1 T2
  have E2 : EQS (A1 10) (A3 12) := by rw [t12]; exact E1
  refine Ew_of (pcₚ := 458) (fun _ => x_pop rfl rfl) ?_
  refine Ew_of (pcₚ := 1065) (fun _ => x_goto rfl rfl) ?_
  exact k g σ2 D1 N1 F1 A1 F3 A3 _ _ X2 Y2 Y1.2 hc2 S1.1.2.1 (RMG_of S1.1) E2
set_option maxHeartbeats 4000000 in
theorem LC_7 {g : Nat → Bool} {σ : rS} {D N D2 N2 : Nat → Nat} {F F2 : hF} {A A2 : hA} {d c s L : Nat} {xs : Nat → Int} {Q : wQ} (X : PHI g σ D N F A) (Y : RHI σ D2 N2 F2 A2) (hs : SEP g D D2) (hc : SCR σ L xs) (hE : EQS (A 10) (A2 12)) (hx : ∀ j, inr (xs j)) (hL : L ≤ 1000000) {i : Int} (hi : 0 ≤ i ∧ i + 6 ≤ L) {ls : rO} (l0 : rlook ls 0 = some (.ref 11)) (l1 : rlook ls 1 = some (.ref (D 0))) (l2 : rlook ls 2 = some (.ref (D2 0))) (l3 : rlook ls 3 = some (I i)) (k : ∀ (gₚ : Nat → Bool) (σₚ : rS) (Dₚ Nₚ : Nat → Nat) (Fₚ : hF) (Aₚ : hA) (F2ₚ : hF) (A2ₚ : hA) (cₚ sₚ : Nat), PHI gₚ σₚ Dₚ Nₚ Fₚ Aₚ → RHI σₚ D2 N2 F2ₚ A2ₚ → SEP gₚ Dₚ D2 → SCR σₚ L xs → Dₚ 0 = D 0 → RMG g N c s gₚ Nₚ cₚ sₚ → EQS (Aₚ 10) (A2ₚ 12) → Ew 455 (d + 14) 1065 ls [] σₚ cₚ sₚ Q) : Ew 455 (d + 14) 461 ls [] σ c s Q := by
  refine Ew_of (pcₚ := 462) (fun _ => x_aload_n rfl l1) ?_
  refine Ew_of (pcₚ := 463) (fun _ => x_aload_n rfl l0) ?_
  refine Ew_of (pcₚ := 464) (fun _ => x_iload_n rfl l3) ?_
  refine Ew_of (pcₚ := 465) (fun _ => x_iconst rfl) ?_
  refine w_iadd rfl ?_
  refine w_scr hc rfl (by omega) (by omega) ?_
  refine Ew_of (pcₚ := 468) (fun _ => x_aload_n rfl l0) ?_
  refine Ew_of (pcₚ := 469) (fun _ => x_iload_n rfl l3) ?_
  refine Ew_of (pcₚ := 470) (fun _ => x_iconst rfl) ?_
  refine w_iadd rfl ?_
  refine w_scr hc rfl (by omega) (by omega) ?_
  refine w_callk rfl (fun rec => rinvv rfl rfl (X.1.obj 0 (by decide +kernel) (show g 0 = true from X.2.2.1) rfl) rec) rfl (T_differ (d := d + 12) X (hx _) (hx _) (fun z σ1 D1 N1 F1 A1 c1 s1 X1 S1 zr => ⟨rfl, ?_⟩))
  have Y1 := CL_ref Y hs S1.1
  have hc1 := CL_scr X.1 hc S1.1
  have E1 : EQS (A1 10) (A2 12) := by rw [S1.2]; exact hE
  refine Ew_of (pcₚ := 476) (fun _ => x_pop rfl rfl) ?_
  refine Ew_of (pcₚ := 477) (fun _ => x_aload_n rfl l2) ?_
  refine Ew_of (pcₚ := 478) (fun _ => x_aload_n rfl l0) ?_
  refine Ew_of (pcₚ := 479) (fun _ => x_iload_n rfl l3) ?_
  refine Ew_of (pcₚ := 480) (fun _ => x_iconst rfl) ?_
  refine w_iadd rfl ?_
  refine w_scr hc1 rfl (by omega) (by omega) ?_
  refine Ew_of (pcₚ := 483) (fun _ => x_aload_n rfl l0) ?_
  refine Ew_of (pcₚ := 484) (fun _ => x_iload_n rfl l3) ?_
  refine Ew_of (pcₚ := 485) (fun _ => x_iconst rfl) ?_
  refine w_iadd rfl ?_
  refine w_scr hc1 rfl (by omega) (by omega) ?_
  refine w_callk rfl (fun rec => rinvv rfl rfl (Y1.1.1.obj 0 (Y1.1.1.perm 0 rfl) rfl) rec) rfl (RS_differ (d := d + 12) Y1.1 (hx _) (hx _) (fun z2 σ2 F3 A3 Y2 T2 t12 zr2 => ⟨rfl, ?_⟩))
  have X2 := RF_cls X1 Y1.1.1 Y1.2 T2
  have hc2 := RF_scr Y1.1.1 hc1 T2
  have E2 : EQS (A1 10) (A3 12) := by rw [t12]; exact E1
  refine Ew_of (pcₚ := 491) (fun _ => x_pop rfl rfl) ?_
  refine Ew_of (pcₚ := 1065) (fun _ => x_goto rfl rfl) ?_
  exact k g σ2 D1 N1 F1 A1 F3 A3 _ _ X2 Y2 Y1.2 hc2 S1.1.2.1 (RMG_of S1.1) E2
set_option maxHeartbeats 4000000 in
theorem LC_8 {g : Nat → Bool} {σ : rS} {D N D2 N2 : Nat → Nat} {F F2 : hF} {A A2 : hA} {d c s L : Nat} {xs : Nat → Int} {Q : wQ} (X : PHI g σ D N F A) (Y : RHI σ D2 N2 F2 A2) (hs : SEP g D D2) (hc : SCR σ L xs) (hE : EQS (A 10) (A2 12)) (hx : ∀ j, inr (xs j)) (hL : L ≤ 1000000) {i : Int} (hi : 0 ≤ i ∧ i + 6 ≤ L) {ls : rO} (l0 : rlook ls 0 = some (.ref 11)) (l1 : rlook ls 1 = some (.ref (D 0))) (l2 : rlook ls 2 = some (.ref (D2 0))) (l3 : rlook ls 3 = some (I i)) (k : ∀ (gₚ : Nat → Bool) (σₚ : rS) (Dₚ Nₚ : Nat → Nat) (Fₚ : hF) (Aₚ : hA) (F2ₚ : hF) (A2ₚ : hA) (cₚ sₚ : Nat), PHI gₚ σₚ Dₚ Nₚ Fₚ Aₚ → RHI σₚ D2 N2 F2ₚ A2ₚ → SEP gₚ Dₚ D2 → SCR σₚ L xs → Dₚ 0 = D 0 → RMG g N c s gₚ Nₚ cₚ sₚ → EQS (Aₚ 10) (A2ₚ 12) → Ew 455 (d + 14) 1065 ls [] σₚ cₚ sₚ Q) : Ew 455 (d + 14) 494 ls [] σ c s Q := by
  refine Ew_of (pcₚ := 495) (fun _ => x_aload_n rfl l1) ?_
  refine Ew_of (pcₚ := 496) (fun _ => x_aload_n rfl l0) ?_
  refine Ew_of (pcₚ := 497) (fun _ => x_iload_n rfl l3) ?_
  refine Ew_of (pcₚ := 498) (fun _ => x_iconst rfl) ?_
  refine w_iadd rfl ?_
  refine w_scr hc rfl (by omega) (by omega) ?_
  refine Ew_of (pcₚ := 501) (fun _ => x_aload_n rfl l0) ?_
  refine Ew_of (pcₚ := 502) (fun _ => x_iload_n rfl l3) ?_
  refine Ew_of (pcₚ := 503) (fun _ => x_iconst rfl) ?_
  refine w_iadd rfl ?_
  refine w_scr hc rfl (by omega) (by omega) ?_
  refine w_callk rfl (fun rec => rinvv rfl rfl (X.1.obj 0 (by decide +kernel) (show g 0 = true from X.2.2.1) rfl) rec) rfl (T_set (d := d + 11) X (hx _) (hx _) (fun z σ1 D1 N1 F1 A1 c1 s1 X1 S1 zr px0 px1 => ⟨(rretB rfl zr), ?_⟩))
  have Y1 := CL_ref Y hs S1
  have hc1 := CL_scr X.1 hc S1
  refine Ew_of (pcₚ := 509) (fun _ => x_pop rfl rfl) ?_
  refine Ew_of (pcₚ := 510) (fun _ => x_aload_n rfl l2) ?_
  refine Ew_of (pcₚ := 511) (fun _ => x_aload_n rfl l0) ?_
  refine Ew_of (pcₚ := 512) (fun _ => x_iload_n rfl l3) ?_
  refine Ew_of (pcₚ := 513) (fun _ => x_iconst rfl) ?_
  refine w_iadd rfl ?_
  refine w_scr hc1 rfl (by omega) (by omega) ?_
  refine Ew_of (pcₚ := 516) (fun _ => x_aload_n rfl l0) ?_
  refine Ew_of (pcₚ := 517) (fun _ => x_iload_n rfl l3) ?_
  refine Ew_of (pcₚ := 518) (fun _ => x_iconst rfl) ?_
  refine w_iadd rfl ?_
  refine w_scr hc1 rfl (by omega) (by omega) ?_
  refine w_callk rfl (fun rec => rinvv rfl rfl (Y1.1.1.obj 0 (Y1.1.1.perm 0 rfl) rfl) rec) rfl (RS_set (d := d + 11) Y1.1 (hx _) (hx _) (fun z2 σ2 F3 A3 Y2 T2 zr2 py0 py1 => ⟨(rretB rfl zr2), ?_⟩))
  have X2 := RF_cls X1 Y1.1.1 Y1.2 T2
  have hc2 := RF_scr Y1.1.1 hc1 T2
  have he : z = z2 := by have := aref (v := xs (i + 2).toNat) (hx _); omega
  subst he
  have E2 : EQS (A1 10) (A3 12) := EQS_upd hE px1 py1
  refine Ew_of (pcₚ := 524) (fun _ => x_pop rfl rfl) ?_
  refine Ew_of (pcₚ := 1065) (fun _ => x_goto rfl rfl) ?_
  exact k g σ2 D1 N1 F1 A1 F3 A3 _ _ X2 Y2 Y1.2 hc2 S1.2.1 (RMG_of S1) E2
set_option maxHeartbeats 4000000 in
theorem LC_9 {g : Nat → Bool} {σ : rS} {D N D2 N2 : Nat → Nat} {F F2 : hF} {A A2 : hA} {d c s L : Nat} {xs : Nat → Int} {Q : wQ} (X : PHI g σ D N F A) (Y : RHI σ D2 N2 F2 A2) (hs : SEP g D D2) (hc : SCR σ L xs) (hE : EQS (A 10) (A2 12)) (hx : ∀ j, inr (xs j)) (hL : L ≤ 1000000) {i : Int} (hi : 0 ≤ i ∧ i + 6 ≤ L) {ls : rO} (l0 : rlook ls 0 = some (.ref 11)) (l1 : rlook ls 1 = some (.ref (D 0))) (l2 : rlook ls 2 = some (.ref (D2 0))) (l3 : rlook ls 3 = some (I i)) (k : ∀ (gₚ : Nat → Bool) (σₚ : rS) (Dₚ Nₚ : Nat → Nat) (Fₚ : hF) (Aₚ : hA) (F2ₚ : hF) (A2ₚ : hA) (cₚ sₚ : Nat), PHI gₚ σₚ Dₚ Nₚ Fₚ Aₚ → RHI σₚ D2 N2 F2ₚ A2ₚ → SEP gₚ Dₚ D2 → SCR σₚ L xs → Dₚ 0 = D 0 → RMG g N c s gₚ Nₚ cₚ sₚ → EQS (Aₚ 10) (A2ₚ 12) → Ew 455 (d + 14) 1065 ls [] σₚ cₚ sₚ Q) : Ew 455 (d + 14) 527 ls [] σ c s Q := by
  refine Ew_of (pcₚ := 528) (fun _ => x_aload_n rfl l1) ?_
  refine Ew_of (pcₚ := 529) (fun _ => x_aload_n rfl l0) ?_
  refine Ew_of (pcₚ := 530) (fun _ => x_iload_n rfl l3) ?_
  refine Ew_of (pcₚ := 531) (fun _ => x_iconst rfl) ?_
  refine w_iadd rfl ?_
  refine w_scr hc rfl (by omega) (by omega) ?_
  refine w_callk rfl (fun rec => rinvv rfl rfl (X.1.obj 0 (by decide +kernel) (show g 0 = true from X.2.2.1) rfl) rec) rfl (T_get (d := d + 12) X (hx _) (fun z σ1 D1 N1 F1 A1 c1 s1 X1 S1 zr px0 => ⟨rfl, ?_⟩))
  have Y1 := CL_ref Y hs S1.1
  have hc1 := CL_scr X.1 hc S1.1
  have E1 : EQS (A1 10) (A2 12) := by rw [S1.2]; exact hE
  refine Ew_of (pcₚ := 537) (fun _ => x_pop rfl rfl) ?_
  refine Ew_of (pcₚ := 538) (fun _ => x_aload_n rfl l2) ?_
  refine Ew_of (pcₚ := 539) (fun _ => x_aload_n rfl l0) ?_
  refine Ew_of (pcₚ := 540) (fun _ => x_iload_n rfl l3) ?_
  refine Ew_of (pcₚ := 541) (fun _ => x_iconst rfl) ?_
  refine w_iadd rfl ?_
  refine w_scr hc1 rfl (by omega) (by omega) ?_
  refine w_callk rfl (fun rec => rinvv rfl rfl (Y1.1.1.obj 0 (Y1.1.1.perm 0 rfl) rfl) rec) rfl (RS_get (d := d + 12) Y1.1 (hx _) (fun z2 σ2 F3 A3 Y2 T2 t12 zr2 py0 => ⟨rfl, ?_⟩))
  have X2 := RF_cls X1 Y1.1.1 Y1.2 T2
  have hc2 := RF_scr Y1.1.1 hc1 T2
  have E2 : EQS (A1 10) (A3 12) := by rw [t12]; exact E1
  refine Ew_of (pcₚ := 547) (fun _ => x_pop rfl rfl) ?_
  refine Ew_of (pcₚ := 1065) (fun _ => x_goto rfl rfl) ?_
  exact k g σ2 D1 N1 F1 A1 F3 A3 _ _ X2 Y2 Y1.2 hc2 S1.1.2.1 (RMG_of S1.1) E2
set_option maxHeartbeats 4000000 in
theorem LC_10 {g : Nat → Bool} {σ : rS} {D N D2 N2 : Nat → Nat} {F F2 : hF} {A A2 : hA} {d c s L : Nat} {xs : Nat → Int} {Q : wQ} (X : PHI g σ D N F A) (Y : RHI σ D2 N2 F2 A2) (hs : SEP g D D2) (hc : SCR σ L xs) (hE : EQS (A 10) (A2 12)) (hx : ∀ j, inr (xs j)) (hL : L ≤ 1000000) {i : Int} (hi : 0 ≤ i ∧ i + 6 ≤ L) {ls : rO} (l0 : rlook ls 0 = some (.ref 11)) (l1 : rlook ls 1 = some (.ref (D 0))) (l2 : rlook ls 2 = some (.ref (D2 0))) (l3 : rlook ls 3 = some (I i)) (k : ∀ (gₚ : Nat → Bool) (σₚ : rS) (Dₚ Nₚ : Nat → Nat) (Fₚ : hF) (Aₚ : hA) (F2ₚ : hF) (A2ₚ : hA) (cₚ sₚ : Nat), PHI gₚ σₚ Dₚ Nₚ Fₚ Aₚ → RHI σₚ D2 N2 F2ₚ A2ₚ → SEP gₚ Dₚ D2 → SCR σₚ L xs → Dₚ 0 = D 0 → RMG g N c s gₚ Nₚ cₚ sₚ → EQS (Aₚ 10) (A2ₚ 12) → Ew 455 (d + 14) 1065 ls [] σₚ cₚ sₚ Q) : Ew 455 (d + 14) 550 ls [] σ c s Q := by
  refine Ew_of (pcₚ := 551) (fun _ => x_aload_n rfl l1) ?_
  refine Ew_of (pcₚ := 552) (fun _ => x_aload_n rfl l0) ?_
  refine Ew_of (pcₚ := 553) (fun _ => x_iload_n rfl l3) ?_
  refine Ew_of (pcₚ := 554) (fun _ => x_iconst rfl) ?_
  refine w_iadd rfl ?_
  refine w_scr hc rfl (by omega) (by omega) ?_
  refine Ew_of (pcₚ := 557) (fun _ => x_aload_n rfl l0) ?_
  refine Ew_of (pcₚ := 558) (fun _ => x_iload_n rfl l3) ?_
  refine Ew_of (pcₚ := 559) (fun _ => x_iconst rfl) ?_
  refine w_iadd rfl ?_
  refine w_scr hc rfl (by omega) (by omega) ?_
  refine Ew_of (pcₚ := 562) (fun _ => x_aload_n rfl l0) ?_
  refine Ew_of (pcₚ := 563) (fun _ => x_iload_n rfl l3) ?_
  refine Ew_of (pcₚ := 564) (fun _ => x_iconst rfl) ?_
  refine w_iadd rfl ?_
  refine w_scr hc rfl (by omega) (by omega) ?_
  refine Ew_of (pcₚ := 567) (fun _ => x_aload_n rfl l0) ?_
  refine Ew_of (pcₚ := 568) (fun _ => x_iload_n rfl l3) ?_
  refine Ew_of (pcₚ := 569) (fun _ => x_iconst rfl) ?_
  refine w_iadd rfl ?_
  refine w_scr hc rfl (by omega) (by omega) ?_
  refine w_callk rfl (fun rec => rinvv rfl rfl (X.1.obj 0 (by decide +kernel) (show g 0 = true from X.2.2.1) rfl) rec) rfl (T_narrow (d := d + 10) X (hx _) (hx _) (hx _) (hx _) (fun z σ1 D1 N1 F1 A1 c1 s1 X1 S1 zr => ⟨rfl, ?_⟩))
  have Y1 := CL_ref Y hs S1.1
  have hc1 := CL_scr X.1 hc S1.1
  have E1 : EQS (A1 10) (A2 12) := by rw [S1.2]; exact hE
  refine Ew_of (pcₚ := 575) (fun _ => x_pop rfl rfl) ?_
  refine Ew_of (pcₚ := 576) (fun _ => x_aload_n rfl l2) ?_
  refine Ew_of (pcₚ := 577) (fun _ => x_aload_n rfl l0) ?_
  refine Ew_of (pcₚ := 578) (fun _ => x_iload_n rfl l3) ?_
  refine Ew_of (pcₚ := 579) (fun _ => x_iconst rfl) ?_
  refine w_iadd rfl ?_
  refine w_scr hc1 rfl (by omega) (by omega) ?_
  refine Ew_of (pcₚ := 582) (fun _ => x_aload_n rfl l0) ?_
  refine Ew_of (pcₚ := 583) (fun _ => x_iload_n rfl l3) ?_
  refine Ew_of (pcₚ := 584) (fun _ => x_iconst rfl) ?_
  refine w_iadd rfl ?_
  refine w_scr hc1 rfl (by omega) (by omega) ?_
  refine Ew_of (pcₚ := 587) (fun _ => x_aload_n rfl l0) ?_
  refine Ew_of (pcₚ := 588) (fun _ => x_iload_n rfl l3) ?_
  refine Ew_of (pcₚ := 589) (fun _ => x_iconst rfl) ?_
  refine w_iadd rfl ?_
  refine w_scr hc1 rfl (by omega) (by omega) ?_
  refine Ew_of (pcₚ := 592) (fun _ => x_aload_n rfl l0) ?_
  refine Ew_of (pcₚ := 593) (fun _ => x_iload_n rfl l3) ?_
  refine Ew_of (pcₚ := 594) (fun _ => x_iconst rfl) ?_
  refine w_iadd rfl ?_
  refine w_scr hc1 rfl (by omega) (by omega) ?_
  refine w_callk rfl (fun rec => rinvv rfl rfl (Y1.1.1.obj 0 (Y1.1.1.perm 0 rfl) rfl) rec) rfl (RS_narrow (d := d + 9) Y1.1 (hx _) (hx _) (hx _) (hx _) (fun z2 σ2 F3 A3 Y2 T2 t12 zr2 => ⟨rfl, ?_⟩))
  have X2 := RF_cls X1 Y1.1.1 Y1.2 T2
  have hc2 := RF_scr Y1.1.1 hc1 T2
  have E2 : EQS (A1 10) (A3 12) := by rw [t12]; exact E1
  refine Ew_of (pcₚ := 600) (fun _ => x_pop rfl rfl) ?_
  refine Ew_of (pcₚ := 1065) (fun _ => x_goto rfl rfl) ?_
  exact k g σ2 D1 N1 F1 A1 F3 A3 _ _ X2 Y2 Y1.2 hc2 S1.1.2.1 (RMG_of S1.1) E2
set_option maxHeartbeats 4000000 in
theorem LC_11 {g : Nat → Bool} {σ : rS} {D N D2 N2 : Nat → Nat} {F F2 : hF} {A A2 : hA} {d c s L : Nat} {xs : Nat → Int} {Q : wQ} (X : PHI g σ D N F A) (Y : RHI σ D2 N2 F2 A2) (hs : SEP g D D2) (hc : SCR σ L xs) (hE : EQS (A 10) (A2 12)) (hx : ∀ j, inr (xs j)) (hL : L ≤ 1000000) {i : Int} (hi : 0 ≤ i ∧ i + 6 ≤ L) {ls : rO} (l0 : rlook ls 0 = some (.ref 11)) (l1 : rlook ls 1 = some (.ref (D 0))) (l2 : rlook ls 2 = some (.ref (D2 0))) (l3 : rlook ls 3 = some (I i)) (k : ∀ (gₚ : Nat → Bool) (σₚ : rS) (Dₚ Nₚ : Nat → Nat) (Fₚ : hF) (Aₚ : hA) (F2ₚ : hF) (A2ₚ : hA) (cₚ sₚ : Nat), PHI gₚ σₚ Dₚ Nₚ Fₚ Aₚ → RHI σₚ D2 N2 F2ₚ A2ₚ → SEP gₚ Dₚ D2 → SCR σₚ L xs → Dₚ 0 = D 0 → RMG g N c s gₚ Nₚ cₚ sₚ → EQS (Aₚ 10) (A2ₚ 12) → Ew 455 (d + 14) 1065 ls [] σₚ cₚ sₚ Q) : Ew 455 (d + 14) 603 ls [] σ c s Q := by
  refine Ew_of (pcₚ := 604) (fun _ => x_aload_n rfl l1) ?_
  refine Ew_of (pcₚ := 605) (fun _ => x_aload_n rfl l0) ?_
  refine Ew_of (pcₚ := 606) (fun _ => x_iload_n rfl l3) ?_
  refine Ew_of (pcₚ := 607) (fun _ => x_iconst rfl) ?_
  refine w_iadd rfl ?_
  refine w_scr hc rfl (by omega) (by omega) ?_
  refine Ew_of (pcₚ := 610) (fun _ => x_aload_n rfl l0) ?_
  refine Ew_of (pcₚ := 611) (fun _ => x_iload_n rfl l3) ?_
  refine Ew_of (pcₚ := 612) (fun _ => x_iconst rfl) ?_
  refine w_iadd rfl ?_
  refine w_scr hc rfl (by omega) (by omega) ?_
  refine Ew_of (pcₚ := 615) (fun _ => x_aload_n rfl l0) ?_
  refine Ew_of (pcₚ := 616) (fun _ => x_iload_n rfl l3) ?_
  refine Ew_of (pcₚ := 617) (fun _ => x_iconst rfl) ?_
  refine w_iadd rfl ?_
  refine w_scr hc rfl (by omega) (by omega) ?_
  refine Ew_of (pcₚ := 620) (fun _ => x_aload_n rfl l0) ?_
  refine Ew_of (pcₚ := 621) (fun _ => x_iload_n rfl l3) ?_
  refine Ew_of (pcₚ := 622) (fun _ => x_iconst rfl) ?_
  refine w_iadd rfl ?_
  refine w_scr hc rfl (by omega) (by omega) ?_
  refine w_i2l rfl (hx _) ?_
  refine Ew_of (pcₚ := 627) (fun _ => x_bipush rfl (z := 32) (by decide)) ?_
  refine w_lshlZ rfl ?_
  refine Ew_of (pcₚ := 629) (fun _ => x_aload_n rfl l0) ?_
  refine Ew_of (pcₚ := 630) (fun _ => x_iload_n rfl l3) ?_
  refine Ew_of (pcₚ := 631) (fun _ => x_iconst rfl) ?_
  refine w_iadd rfl ?_
  refine w_scr hc rfl (by omega) (by omega) ?_
  refine w_i2l rfl (hx _) ?_
  refine Ew_of (pcₚ := 637) (fun _ => x_ldc2 rfl (z := 4294967295) (by decide)) ?_
  refine w_landZ rfl ?_
  refine w_lorZ rfl ?_
  refine w_callk rfl (fun rec => rinvv rfl rfl (X.1.obj 0 (by decide +kernel) (show g 0 = true from X.2.2.1) rfl) rec) rfl (T_wide (d := d + 9) X (hx _) (hx _) (hx _) (zrng _ _) (fun z σ1 D1 N1 F1 A1 c1 s1 X1 S1 zr => ⟨rfl, ?_⟩))
  have Y1 := CL_ref Y hs S1.1
  have hc1 := CL_scr X.1 hc S1.1
  have E1 : EQS (A1 10) (A2 12) := by rw [S1.2]; exact hE
  refine Ew_of (pcₚ := 643) (fun _ => x_pop2 rfl) ?_
  refine Ew_of (pcₚ := 644) (fun _ => x_aload_n rfl l2) ?_
  refine Ew_of (pcₚ := 645) (fun _ => x_aload_n rfl l0) ?_
  refine Ew_of (pcₚ := 646) (fun _ => x_iload_n rfl l3) ?_
  refine Ew_of (pcₚ := 647) (fun _ => x_iconst rfl) ?_
  refine w_iadd rfl ?_
  refine w_scr hc1 rfl (by omega) (by omega) ?_
  refine Ew_of (pcₚ := 650) (fun _ => x_aload_n rfl l0) ?_
  refine Ew_of (pcₚ := 651) (fun _ => x_iload_n rfl l3) ?_
  refine Ew_of (pcₚ := 652) (fun _ => x_iconst rfl) ?_
  refine w_iadd rfl ?_
  refine w_scr hc1 rfl (by omega) (by omega) ?_
  refine Ew_of (pcₚ := 655) (fun _ => x_aload_n rfl l0) ?_
  refine Ew_of (pcₚ := 656) (fun _ => x_iload_n rfl l3) ?_
  refine Ew_of (pcₚ := 657) (fun _ => x_iconst rfl) ?_
  refine w_iadd rfl ?_
  refine w_scr hc1 rfl (by omega) (by omega) ?_
  refine Ew_of (pcₚ := 660) (fun _ => x_aload_n rfl l0) ?_
  refine Ew_of (pcₚ := 661) (fun _ => x_iload_n rfl l3) ?_
  refine Ew_of (pcₚ := 662) (fun _ => x_iconst rfl) ?_
  refine w_iadd rfl ?_
  refine w_scr hc1 rfl (by omega) (by omega) ?_
  refine w_i2l rfl (hx _) ?_
  refine Ew_of (pcₚ := 667) (fun _ => x_bipush rfl (z := 32) (by decide)) ?_
  refine w_lshlZ rfl ?_
  refine Ew_of (pcₚ := 669) (fun _ => x_aload_n rfl l0) ?_
  refine Ew_of (pcₚ := 670) (fun _ => x_iload_n rfl l3) ?_
  refine Ew_of (pcₚ := 671) (fun _ => x_iconst rfl) ?_
  refine w_iadd rfl ?_
  refine w_scr hc1 rfl (by omega) (by omega) ?_
  refine w_i2l rfl (hx _) ?_
  refine Ew_of (pcₚ := 677) (fun _ => x_ldc2 rfl (z := 4294967295) (by decide)) ?_
  refine w_landZ rfl ?_
  refine w_lorZ rfl ?_
  refine w_callk rfl (fun rec => rinvv rfl rfl (Y1.1.1.obj 0 (Y1.1.1.perm 0 rfl) rfl) rec) rfl (RS_wide (d := d + 8) Y1.1 (hx _) (hx _) (hx _) (zrng _ _) (fun z2 σ2 F3 A3 Y2 T2 t12 zr2 => ⟨rfl, ?_⟩))
  have X2 := RF_cls X1 Y1.1.1 Y1.2 T2
  have hc2 := RF_scr Y1.1.1 hc1 T2
  have E2 : EQS (A1 10) (A3 12) := by rw [t12]; exact E1
  refine Ew_of (pcₚ := 683) (fun _ => x_pop2 rfl) ?_
  refine Ew_of (pcₚ := 1065) (fun _ => x_goto rfl rfl) ?_
  exact k g σ2 D1 N1 F1 A1 F3 A3 _ _ X2 Y2 Y1.2 hc2 S1.1.2.1 (RMG_of S1.1) E2
set_option maxHeartbeats 4000000 in
theorem LC_12 {g : Nat → Bool} {σ : rS} {D N D2 N2 : Nat → Nat} {F F2 : hF} {A A2 : hA} {d c s L : Nat} {xs : Nat → Int} {Q : wQ} (X : PHI g σ D N F A) (Y : RHI σ D2 N2 F2 A2) (hs : SEP g D D2) (hc : SCR σ L xs) (hE : EQS (A 10) (A2 12)) (hx : ∀ j, inr (xs j)) (hL : L ≤ 1000000) {i : Int} (hi : 0 ≤ i ∧ i + 6 ≤ L) {ls : rO} (l0 : rlook ls 0 = some (.ref 11)) (l1 : rlook ls 1 = some (.ref (D 0))) (l2 : rlook ls 2 = some (.ref (D2 0))) (l3 : rlook ls 3 = some (I i)) (k : ∀ (gₚ : Nat → Bool) (σₚ : rS) (Dₚ Nₚ : Nat → Nat) (Fₚ : hF) (Aₚ : hA) (F2ₚ : hF) (A2ₚ : hA) (cₚ sₚ : Nat), PHI gₚ σₚ Dₚ Nₚ Fₚ Aₚ → RHI σₚ D2 N2 F2ₚ A2ₚ → SEP gₚ Dₚ D2 → SCR σₚ L xs → Dₚ 0 = D 0 → RMG g N c s gₚ Nₚ cₚ sₚ → EQS (Aₚ 10) (A2ₚ 12) → Ew 455 (d + 14) 1065 ls [] σₚ cₚ sₚ Q) : Ew 455 (d + 14) 686 ls [] σ c s Q := by
  refine Ew_of (pcₚ := 687) (fun _ => x_aload_n rfl l1) ?_
  refine Ew_of (pcₚ := 688) (fun _ => x_aload_n rfl l0) ?_
  refine Ew_of (pcₚ := 689) (fun _ => x_iload_n rfl l3) ?_
  refine Ew_of (pcₚ := 690) (fun _ => x_iconst rfl) ?_
  refine w_iadd rfl ?_
  refine w_scr hc rfl (by omega) (by omega) ?_
  refine Ew_of (pcₚ := 693) (fun _ => x_aload_n rfl l0) ?_
  refine Ew_of (pcₚ := 694) (fun _ => x_iload_n rfl l3) ?_
  refine Ew_of (pcₚ := 695) (fun _ => x_iconst rfl) ?_
  refine w_iadd rfl ?_
  refine w_scr hc rfl (by omega) (by omega) ?_
  refine Ew_of (pcₚ := 698) (fun _ => x_aload_n rfl l0) ?_
  refine Ew_of (pcₚ := 699) (fun _ => x_iload_n rfl l3) ?_
  refine Ew_of (pcₚ := 700) (fun _ => x_iconst rfl) ?_
  refine w_iadd rfl ?_
  refine w_scr hc rfl (by omega) (by omega) ?_
  refine Ew_of (pcₚ := 703) (fun _ => x_aload_n rfl l0) ?_
  refine Ew_of (pcₚ := 704) (fun _ => x_iload_n rfl l3) ?_
  refine Ew_of (pcₚ := 705) (fun _ => x_iconst rfl) ?_
  refine w_iadd rfl ?_
  refine w_scr hc rfl (by omega) (by omega) ?_
  refine w_ifeq (t := 714) rfl rfl (hx _) (fun b1 => ?_) (fun b1 => ?_)
  · skip
    refine Ew_of (pcₚ := 715) (fun _ => x_iconst rfl) ?_
    refine w_callk rfl (fun rec => rinvv rfl rfl (X.1.obj 0 (by decide +kernel) (show g 0 = true from X.2.2.1) rfl) rec) rfl (T_poly (d := d + 11) X (hx _) (hx _) (hx _) (by omega) (by omega) (fun z σ1 D1 N1 F1 A1 c1 s1 X1 S1 zr => ⟨rfl, ?_⟩))
    have Y1 := CL_ref Y hs S1.1
    have hc1 := CL_scr X.1 hc S1.1
    have E1 : EQS (A1 10) (A2 12) := by rw [S1.2]; exact hE
    refine Ew_of (pcₚ := 719) (fun _ => x_pop rfl rfl) ?_
    refine Ew_of (pcₚ := 720) (fun _ => x_aload_n rfl l2) ?_
    refine Ew_of (pcₚ := 721) (fun _ => x_aload_n rfl l0) ?_
    refine Ew_of (pcₚ := 722) (fun _ => x_iload_n rfl l3) ?_
    refine Ew_of (pcₚ := 723) (fun _ => x_iconst rfl) ?_
    refine w_iadd rfl ?_
    refine w_scr hc1 rfl (by omega) (by omega) ?_
    refine Ew_of (pcₚ := 726) (fun _ => x_aload_n rfl l0) ?_
    refine Ew_of (pcₚ := 727) (fun _ => x_iload_n rfl l3) ?_
    refine Ew_of (pcₚ := 728) (fun _ => x_iconst rfl) ?_
    refine w_iadd rfl ?_
    refine w_scr hc1 rfl (by omega) (by omega) ?_
    refine Ew_of (pcₚ := 731) (fun _ => x_aload_n rfl l0) ?_
    refine Ew_of (pcₚ := 732) (fun _ => x_iload_n rfl l3) ?_
    refine Ew_of (pcₚ := 733) (fun _ => x_iconst rfl) ?_
    refine w_iadd rfl ?_
    refine w_scr hc1 rfl (by omega) (by omega) ?_
    refine Ew_of (pcₚ := 736) (fun _ => x_aload_n rfl l0) ?_
    refine Ew_of (pcₚ := 737) (fun _ => x_iload_n rfl l3) ?_
    refine Ew_of (pcₚ := 738) (fun _ => x_iconst rfl) ?_
    refine w_iadd rfl ?_
    refine w_scr hc1 rfl (by omega) (by omega) ?_
    refine w_ifeq (t := 747) rfl rfl (hx _) (fun b3 => ?_) (fun b3 => ?_)
    · skip
      refine Ew_of (pcₚ := 748) (fun _ => x_iconst rfl) ?_
      refine w_callk rfl (fun rec => rinvv rfl rfl (Y1.1.1.obj 0 (Y1.1.1.perm 0 rfl) rfl) rec) rfl (RS_poly (d := d + 9) Y1.1 (hx _) (hx _) (hx _) (by omega) (by omega) (fun z2 σ2 F3 A3 Y2 T2 t12 zr2 => ⟨rfl, ?_⟩))
      have X2 := RF_cls X1 Y1.1.1 Y1.2 T2
      have hc2 := RF_scr Y1.1.1 hc1 T2
      have E2 : EQS (A1 10) (A3 12) := by rw [t12]; exact E1
      refine Ew_of (pcₚ := 752) (fun _ => x_pop rfl rfl) ?_
      refine Ew_of (pcₚ := 1065) (fun _ => x_goto rfl rfl) ?_
      exact k g σ2 D1 N1 F1 A1 F3 A3 _ _ X2 Y2 Y1.2 hc2 S1.1.2.1 (RMG_of S1.1) E2
    · skip
      exfalso
      omega
  · skip
    refine Ew_of (pcₚ := 711) (fun _ => x_iconst rfl) ?_
    refine Ew_of (pcₚ := 715) (fun _ => x_goto rfl rfl) ?_
    refine w_callk rfl (fun rec => rinvv rfl rfl (X.1.obj 0 (by decide +kernel) (show g 0 = true from X.2.2.1) rfl) rec) rfl (T_poly (d := d + 11) X (hx _) (hx _) (hx _) (by omega) (by omega) (fun z σ1 D1 N1 F1 A1 c1 s1 X1 S1 zr => ⟨rfl, ?_⟩))
    have Y1 := CL_ref Y hs S1.1
    have hc1 := CL_scr X.1 hc S1.1
    have E1 : EQS (A1 10) (A2 12) := by rw [S1.2]; exact hE
    refine Ew_of (pcₚ := 719) (fun _ => x_pop rfl rfl) ?_
    refine Ew_of (pcₚ := 720) (fun _ => x_aload_n rfl l2) ?_
    refine Ew_of (pcₚ := 721) (fun _ => x_aload_n rfl l0) ?_
    refine Ew_of (pcₚ := 722) (fun _ => x_iload_n rfl l3) ?_
    refine Ew_of (pcₚ := 723) (fun _ => x_iconst rfl) ?_
    refine w_iadd rfl ?_
    refine w_scr hc1 rfl (by omega) (by omega) ?_
    refine Ew_of (pcₚ := 726) (fun _ => x_aload_n rfl l0) ?_
    refine Ew_of (pcₚ := 727) (fun _ => x_iload_n rfl l3) ?_
    refine Ew_of (pcₚ := 728) (fun _ => x_iconst rfl) ?_
    refine w_iadd rfl ?_
    refine w_scr hc1 rfl (by omega) (by omega) ?_
    refine Ew_of (pcₚ := 731) (fun _ => x_aload_n rfl l0) ?_
    refine Ew_of (pcₚ := 732) (fun _ => x_iload_n rfl l3) ?_
    refine Ew_of (pcₚ := 733) (fun _ => x_iconst rfl) ?_
    refine w_iadd rfl ?_
    refine w_scr hc1 rfl (by omega) (by omega) ?_
    refine Ew_of (pcₚ := 736) (fun _ => x_aload_n rfl l0) ?_
    refine Ew_of (pcₚ := 737) (fun _ => x_iload_n rfl l3) ?_
    refine Ew_of (pcₚ := 738) (fun _ => x_iconst rfl) ?_
    refine w_iadd rfl ?_
    refine w_scr hc1 rfl (by omega) (by omega) ?_
    refine w_ifeq (t := 747) rfl rfl (hx _) (fun b5 => ?_) (fun b5 => ?_)
    · skip
      exfalso
      omega
    · skip
      refine Ew_of (pcₚ := 744) (fun _ => x_iconst rfl) ?_
      refine Ew_of (pcₚ := 748) (fun _ => x_goto rfl rfl) ?_
      refine w_callk rfl (fun rec => rinvv rfl rfl (Y1.1.1.obj 0 (Y1.1.1.perm 0 rfl) rfl) rec) rfl (RS_poly (d := d + 9) Y1.1 (hx _) (hx _) (hx _) (by omega) (by omega) (fun z2 σ2 F3 A3 Y2 T2 t12 zr2 => ⟨rfl, ?_⟩))
      have X2 := RF_cls X1 Y1.1.1 Y1.2 T2
      have hc2 := RF_scr Y1.1.1 hc1 T2
      have E2 : EQS (A1 10) (A3 12) := by rw [t12]; exact E1
      refine Ew_of (pcₚ := 752) (fun _ => x_pop rfl rfl) ?_
      refine Ew_of (pcₚ := 1065) (fun _ => x_goto rfl rfl) ?_
      exact k g σ2 D1 N1 F1 A1 F3 A3 _ _ X2 Y2 Y1.2 hc2 S1.1.2.1 (RMG_of S1.1) E2
set_option maxHeartbeats 4000000 in
theorem LC_13 {g : Nat → Bool} {σ : rS} {D N D2 N2 : Nat → Nat} {F F2 : hF} {A A2 : hA} {d c s L : Nat} {xs : Nat → Int} {Q : wQ} (X : PHI g σ D N F A) (Y : RHI σ D2 N2 F2 A2) (hs : SEP g D D2) (hc : SCR σ L xs) (hE : EQS (A 10) (A2 12)) (hx : ∀ j, inr (xs j)) (hL : L ≤ 1000000) {i : Int} (hi : 0 ≤ i ∧ i + 6 ≤ L) {ls : rO} (l0 : rlook ls 0 = some (.ref 11)) (l1 : rlook ls 1 = some (.ref (D 0))) (l2 : rlook ls 2 = some (.ref (D2 0))) (l3 : rlook ls 3 = some (I i)) (k : ∀ (gₚ : Nat → Bool) (σₚ : rS) (Dₚ Nₚ : Nat → Nat) (Fₚ : hF) (Aₚ : hA) (F2ₚ : hF) (A2ₚ : hA) (cₚ sₚ : Nat), PHI gₚ σₚ Dₚ Nₚ Fₚ Aₚ → RHI σₚ D2 N2 F2ₚ A2ₚ → SEP gₚ Dₚ D2 → SCR σₚ L xs → Dₚ 0 = D 0 → RMG g N c s gₚ Nₚ cₚ sₚ → EQS (Aₚ 10) (A2ₚ 12) → Ew 455 (d + 14) 1065 ls [] σₚ cₚ sₚ Q) : Ew 455 (d + 14) 755 ls [] σ c s Q := by
  refine Ew_of (pcₚ := 756) (fun _ => x_aload_n rfl l1) ?_
  refine Ew_of (pcₚ := 757) (fun _ => x_aload_n rfl l0) ?_
  refine Ew_of (pcₚ := 758) (fun _ => x_iload_n rfl l3) ?_
  refine Ew_of (pcₚ := 759) (fun _ => x_iconst rfl) ?_
  refine w_iadd rfl ?_
  refine w_scr hc rfl (by omega) (by omega) ?_
  refine w_callk rfl (fun rec => rinvv rfl rfl (X.1.obj 0 (by decide +kernel) (show g 0 = true from X.2.2.1) rfl) rec) rfl (T_history (d := d + 9) X (hx _) (fun z σ1 D1 N1 F1 A1 c1 s1 X1 S1 zr px0 => ⟨(rretB rfl zr), ?_⟩))
  have Y1 := CL_ref Y hs S1.1
  have hc1 := CL_scr X.1 hc S1.1
  have E1 : EQS (A1 10) (A2 12) := by rw [S1.2]; exact hE
  refine Ew_of (pcₚ := 765) (fun _ => x_pop rfl rfl) ?_
  refine Ew_of (pcₚ := 766) (fun _ => x_aload_n rfl l2) ?_
  refine Ew_of (pcₚ := 767) (fun _ => x_aload_n rfl l0) ?_
  refine Ew_of (pcₚ := 768) (fun _ => x_iload_n rfl l3) ?_
  refine Ew_of (pcₚ := 769) (fun _ => x_iconst rfl) ?_
  refine w_iadd rfl ?_
  refine w_scr hc1 rfl (by omega) (by omega) ?_
  refine w_callk rfl (fun rec => rinvv rfl rfl (Y1.1.1.obj 0 (Y1.1.1.perm 0 rfl) rfl) rec) rfl (RS_history (d := d + 12) Y1.1 (hx _) (fun z2 σ2 F3 A3 Y2 T2 t12 zr2 py0 => ⟨(rretB rfl zr2), ?_⟩))
  have X2 := RF_cls X1 Y1.1.1 Y1.2 T2
  have hc2 := RF_scr Y1.1.1 hc1 T2
  have E2 : EQS (A1 10) (A3 12) := by rw [t12]; exact E1
  refine Ew_of (pcₚ := 775) (fun _ => x_pop rfl rfl) ?_
  refine Ew_of (pcₚ := 1065) (fun _ => x_goto rfl rfl) ?_
  exact k g σ2 D1 N1 F1 A1 F3 A3 _ _ X2 Y2 Y1.2 hc2 S1.1.2.1 (RMG_of S1.1) E2
set_option maxHeartbeats 4000000 in
theorem LC_14 {g : Nat → Bool} {σ : rS} {D N D2 N2 : Nat → Nat} {F F2 : hF} {A A2 : hA} {d c s L : Nat} {xs : Nat → Int} {Q : wQ} (X : PHI g σ D N F A) (Y : RHI σ D2 N2 F2 A2) (hs : SEP g D D2) (hc : SCR σ L xs) (hE : EQS (A 10) (A2 12)) (hx : ∀ j, inr (xs j)) (hL : L ≤ 1000000) {i : Int} (hi : 0 ≤ i ∧ i + 6 ≤ L) {ls : rO} (l0 : rlook ls 0 = some (.ref 11)) (l1 : rlook ls 1 = some (.ref (D 0))) (l2 : rlook ls 2 = some (.ref (D2 0))) (l3 : rlook ls 3 = some (I i)) (k : ∀ (gₚ : Nat → Bool) (σₚ : rS) (Dₚ Nₚ : Nat → Nat) (Fₚ : hF) (Aₚ : hA) (F2ₚ : hF) (A2ₚ : hA) (cₚ sₚ : Nat), PHI gₚ σₚ Dₚ Nₚ Fₚ Aₚ → RHI σₚ D2 N2 F2ₚ A2ₚ → SEP gₚ Dₚ D2 → SCR σₚ L xs → Dₚ 0 = D 0 → RMG g N c s gₚ Nₚ cₚ sₚ → EQS (Aₚ 10) (A2ₚ 12) → Ew 455 (d + 14) 1065 ls [] σₚ cₚ sₚ Q) : Ew 455 (d + 14) 778 ls [] σ c s Q := by
  refine Ew_of (pcₚ := 779) (fun _ => x_aload_n rfl l1) ?_
  refine Ew_of (pcₚ := 780) (fun _ => x_aload_n rfl l0) ?_
  refine Ew_of (pcₚ := 781) (fun _ => x_iload_n rfl l3) ?_
  refine Ew_of (pcₚ := 782) (fun _ => x_iconst rfl) ?_
  refine w_iadd rfl ?_
  refine w_scr hc rfl (by omega) (by omega) ?_
  refine w_callk rfl (fun rec => rinvv rfl rfl (X.1.obj 0 (by decide +kernel) (show g 0 = true from X.2.2.1) rfl) rec) rfl (T_learn (d := d + 7) X (hx _) (fun z g1 σ1 D1 N1 F1 A1 c1 s1 X1 S1 zr => ⟨rfl, ?_⟩))
  have Y1 := CL_ref Y hs S1.1
  have hc1 := CL_scr X.1 hc S1.1
  have E1 : EQS (A1 10) (A2 12) := by rw [S1.2]; exact hE
  refine Ew_of (pcₚ := 788) (fun _ => x_pop rfl rfl) ?_
  refine Ew_of (pcₚ := 789) (fun _ => x_aload_n rfl l2) ?_
  refine Ew_of (pcₚ := 790) (fun _ => x_aload_n rfl l0) ?_
  refine Ew_of (pcₚ := 791) (fun _ => x_iload_n rfl l3) ?_
  refine Ew_of (pcₚ := 792) (fun _ => x_iconst rfl) ?_
  refine w_iadd rfl ?_
  refine w_scr hc1 rfl (by omega) (by omega) ?_
  refine w_callk rfl (fun rec => rinvv rfl rfl (Y1.1.1.obj 0 (Y1.1.1.perm 0 rfl) rfl) rec) rfl (RS_learn (d := d + 8) Y1.1 (hx _) (fun z2 σ2 F3 A3 Y2 T2 t12 zr2 => ⟨rfl, ?_⟩))
  have X2 := RF_cls X1 Y1.1.1 Y1.2 T2
  have hc2 := RF_scr Y1.1.1 hc1 T2
  have E2 : EQS (A1 10) (A3 12) := by rw [t12]; exact E1
  refine Ew_of (pcₚ := 798) (fun _ => x_pop rfl rfl) ?_
  refine Ew_of (pcₚ := 1065) (fun _ => x_goto rfl rfl) ?_
  exact k g1 σ2 D1 N1 F1 A1 F3 A3 _ _ X2 Y2 Y1.2 hc2 S1.1.2.1 (RMG_of S1.1) E2
set_option maxHeartbeats 4000000 in
theorem LC_15 {g : Nat → Bool} {σ : rS} {D N D2 N2 : Nat → Nat} {F F2 : hF} {A A2 : hA} {d c s L : Nat} {xs : Nat → Int} {Q : wQ} (X : PHI g σ D N F A) (Y : RHI σ D2 N2 F2 A2) (hs : SEP g D D2) (hc : SCR σ L xs) (hE : EQS (A 10) (A2 12)) (hx : ∀ j, inr (xs j)) (hL : L ≤ 1000000) {i : Int} (hi : 0 ≤ i ∧ i + 6 ≤ L) {ls : rO} (l0 : rlook ls 0 = some (.ref 11)) (l1 : rlook ls 1 = some (.ref (D 0))) (l2 : rlook ls 2 = some (.ref (D2 0))) (l3 : rlook ls 3 = some (I i)) (k : ∀ (gₚ : Nat → Bool) (σₚ : rS) (Dₚ Nₚ : Nat → Nat) (Fₚ : hF) (Aₚ : hA) (F2ₚ : hF) (A2ₚ : hA) (cₚ sₚ : Nat), PHI gₚ σₚ Dₚ Nₚ Fₚ Aₚ → RHI σₚ D2 N2 F2ₚ A2ₚ → SEP gₚ Dₚ D2 → SCR σₚ L xs → Dₚ 0 = D 0 → RMG g N c s gₚ Nₚ cₚ sₚ → EQS (Aₚ 10) (A2ₚ 12) → Ew 455 (d + 14) 1065 ls [] σₚ cₚ sₚ Q) : Ew 455 (d + 14) 801 ls [] σ c s Q := by
  refine Ew_of (pcₚ := 802) (fun _ => x_aload_n rfl l1) ?_
  refine Ew_of (pcₚ := 803) (fun _ => x_aload_n rfl l0) ?_
  refine Ew_of (pcₚ := 804) (fun _ => x_iload_n rfl l3) ?_
  refine Ew_of (pcₚ := 805) (fun _ => x_iconst rfl) ?_
  refine w_iadd rfl ?_
  refine w_scr hc rfl (by omega) (by omega) ?_
  refine w_callk rfl (fun rec => rinvv rfl rfl (X.1.obj 0 (by decide +kernel) (show g 0 = true from X.2.2.1) rfl) rec) rfl (T_forget (d := d + 11) X (hx _) (fun z σ1 D1 N1 F1 A1 c1 s1 X1 S1 zr px0 => ⟨(rretB rfl zr), ?_⟩))
  have Y1 := CL_ref Y hs S1.1
  have hc1 := CL_scr X.1 hc S1.1
  have E1 : EQS (A1 10) (A2 12) := by rw [S1.2]; exact hE
  refine Ew_of (pcₚ := 811) (fun _ => x_pop rfl rfl) ?_
  refine Ew_of (pcₚ := 812) (fun _ => x_aload_n rfl l2) ?_
  refine Ew_of (pcₚ := 813) (fun _ => x_aload_n rfl l0) ?_
  refine Ew_of (pcₚ := 814) (fun _ => x_iload_n rfl l3) ?_
  refine Ew_of (pcₚ := 815) (fun _ => x_iconst rfl) ?_
  refine w_iadd rfl ?_
  refine w_scr hc1 rfl (by omega) (by omega) ?_
  refine w_callk rfl (fun rec => rinvv rfl rfl (Y1.1.1.obj 0 (Y1.1.1.perm 0 rfl) rfl) rec) rfl (RS_forget (d := d + 12) Y1.1 (hx _) (fun z2 σ2 F3 A3 Y2 T2 t12 zr2 py0 => ⟨(rretB rfl zr2), ?_⟩))
  have X2 := RF_cls X1 Y1.1.1 Y1.2 T2
  have hc2 := RF_scr Y1.1.1 hc1 T2
  have E2 : EQS (A1 10) (A3 12) := by rw [t12]; exact E1
  refine Ew_of (pcₚ := 821) (fun _ => x_pop rfl rfl) ?_
  refine Ew_of (pcₚ := 1065) (fun _ => x_goto rfl rfl) ?_
  exact k g σ2 D1 N1 F1 A1 F3 A3 _ _ X2 Y2 Y1.2 hc2 S1.1.2.1 (RMG_of S1.1) E2
set_option maxHeartbeats 4000000 in
theorem LC_16 {g : Nat → Bool} {σ : rS} {D N D2 N2 : Nat → Nat} {F F2 : hF} {A A2 : hA} {d c s L : Nat} {xs : Nat → Int} {Q : wQ} (X : PHI g σ D N F A) (Y : RHI σ D2 N2 F2 A2) (hs : SEP g D D2) (hc : SCR σ L xs) (hE : EQS (A 10) (A2 12)) (hx : ∀ j, inr (xs j)) (hL : L ≤ 1000000) {i : Int} (hi : 0 ≤ i ∧ i + 6 ≤ L) {ls : rO} (l0 : rlook ls 0 = some (.ref 11)) (l1 : rlook ls 1 = some (.ref (D 0))) (l2 : rlook ls 2 = some (.ref (D2 0))) (l3 : rlook ls 3 = some (I i)) (k : ∀ (gₚ : Nat → Bool) (σₚ : rS) (Dₚ Nₚ : Nat → Nat) (Fₚ : hF) (Aₚ : hA) (F2ₚ : hF) (A2ₚ : hA) (cₚ sₚ : Nat), PHI gₚ σₚ Dₚ Nₚ Fₚ Aₚ → RHI σₚ D2 N2 F2ₚ A2ₚ → SEP gₚ Dₚ D2 → SCR σₚ L xs → Dₚ 0 = D 0 → RMG g N c s gₚ Nₚ cₚ sₚ → EQS (Aₚ 10) (A2ₚ 12) → Ew 455 (d + 14) 1065 ls [] σₚ cₚ sₚ Q) : Ew 455 (d + 14) 824 ls [] σ c s Q := by
  refine Ew_of (pcₚ := 825) (fun _ => x_aload_n rfl l1) ?_
  refine Ew_of (pcₚ := 826) (fun _ => x_aload_n rfl l0) ?_
  refine Ew_of (pcₚ := 827) (fun _ => x_iload_n rfl l3) ?_
  refine Ew_of (pcₚ := 828) (fun _ => x_iconst rfl) ?_
  refine w_iadd rfl ?_
  refine w_scr hc rfl (by omega) (by omega) ?_
  refine Ew_of (pcₚ := 831) (fun _ => x_aload_n rfl l0) ?_
  refine Ew_of (pcₚ := 832) (fun _ => x_iload_n rfl l3) ?_
  refine Ew_of (pcₚ := 833) (fun _ => x_iconst rfl) ?_
  refine w_iadd rfl ?_
  refine w_scr hc rfl (by omega) (by omega) ?_
  refine Ew_of (pcₚ := 836) (fun _ => x_aload_n rfl l0) ?_
  refine Ew_of (pcₚ := 837) (fun _ => x_iload_n rfl l3) ?_
  refine Ew_of (pcₚ := 838) (fun _ => x_iconst rfl) ?_
  refine w_iadd rfl ?_
  refine w_scr hc rfl (by omega) (by omega) ?_
  refine w_callk rfl (fun rec => rinvv rfl rfl (X.1.obj 0 (by decide +kernel) (show g 0 = true from X.2.2.1) rfl) rec) rfl (T_write (d := d + 5) X (hx _) (hx _) (hx _) (fun z g1 σ1 D1 N1 F1 A1 c1 s1 X1 S1 zr => ⟨rfl, ?_⟩))
  have Y1 := CL_ref Y hs S1.1
  have hc1 := CL_scr X.1 hc S1.1
  have E1 : EQS (A1 10) (A2 12) := by rw [S1.2]; exact hE
  refine Ew_of (pcₚ := 844) (fun _ => x_pop rfl rfl) ?_
  refine Ew_of (pcₚ := 845) (fun _ => x_aload_n rfl l2) ?_
  refine Ew_of (pcₚ := 846) (fun _ => x_aload_n rfl l0) ?_
  refine Ew_of (pcₚ := 847) (fun _ => x_iload_n rfl l3) ?_
  refine Ew_of (pcₚ := 848) (fun _ => x_iconst rfl) ?_
  refine w_iadd rfl ?_
  refine w_scr hc1 rfl (by omega) (by omega) ?_
  refine Ew_of (pcₚ := 851) (fun _ => x_aload_n rfl l0) ?_
  refine Ew_of (pcₚ := 852) (fun _ => x_iload_n rfl l3) ?_
  refine Ew_of (pcₚ := 853) (fun _ => x_iconst rfl) ?_
  refine w_iadd rfl ?_
  refine w_scr hc1 rfl (by omega) (by omega) ?_
  refine Ew_of (pcₚ := 856) (fun _ => x_aload_n rfl l0) ?_
  refine Ew_of (pcₚ := 857) (fun _ => x_iload_n rfl l3) ?_
  refine Ew_of (pcₚ := 858) (fun _ => x_iconst rfl) ?_
  refine w_iadd rfl ?_
  refine w_scr hc1 rfl (by omega) (by omega) ?_
  refine w_callk rfl (fun rec => rinvv rfl rfl (Y1.1.1.obj 0 (Y1.1.1.perm 0 rfl) rfl) rec) rfl (RS_write (d := d + 0) Y1.1 (hx _) (hx _) (hx _) (fun z2 σ2 F3 A3 Y2 T2 t12 zr2 => ⟨rfl, ?_⟩))
  have X2 := RF_cls X1 Y1.1.1 Y1.2 T2
  have hc2 := RF_scr Y1.1.1 hc1 T2
  have E2 : EQS (A1 10) (A3 12) := by rw [t12]; exact E1
  refine Ew_of (pcₚ := 864) (fun _ => x_pop rfl rfl) ?_
  refine Ew_of (pcₚ := 1065) (fun _ => x_goto rfl rfl) ?_
  exact k g1 σ2 D1 N1 F1 A1 F3 A3 _ _ X2 Y2 Y1.2 hc2 S1.1.2.1 (RMG_of S1.1) E2
set_option maxHeartbeats 4000000 in
theorem LC_17 {g : Nat → Bool} {σ : rS} {D N D2 N2 : Nat → Nat} {F F2 : hF} {A A2 : hA} {d c s L : Nat} {xs : Nat → Int} {Q : wQ} (X : PHI g σ D N F A) (Y : RHI σ D2 N2 F2 A2) (hs : SEP g D D2) (hc : SCR σ L xs) (hE : EQS (A 10) (A2 12)) (hx : ∀ j, inr (xs j)) (hL : L ≤ 1000000) {i : Int} (hi : 0 ≤ i ∧ i + 6 ≤ L) {ls : rO} (l0 : rlook ls 0 = some (.ref 11)) (l1 : rlook ls 1 = some (.ref (D 0))) (l2 : rlook ls 2 = some (.ref (D2 0))) (l3 : rlook ls 3 = some (I i)) (k : ∀ (gₚ : Nat → Bool) (σₚ : rS) (Dₚ Nₚ : Nat → Nat) (Fₚ : hF) (Aₚ : hA) (F2ₚ : hF) (A2ₚ : hA) (cₚ sₚ : Nat), PHI gₚ σₚ Dₚ Nₚ Fₚ Aₚ → RHI σₚ D2 N2 F2ₚ A2ₚ → SEP gₚ Dₚ D2 → SCR σₚ L xs → Dₚ 0 = D 0 → RMG g N c s gₚ Nₚ cₚ sₚ → EQS (Aₚ 10) (A2ₚ 12) → Ew 455 (d + 14) 1065 ls [] σₚ cₚ sₚ Q) : Ew 455 (d + 14) 867 ls [] σ c s Q := by
  refine Ew_of (pcₚ := 868) (fun _ => x_aload_n rfl l1) ?_
  refine Ew_of (pcₚ := 869) (fun _ => x_aload_n rfl l0) ?_
  refine Ew_of (pcₚ := 870) (fun _ => x_iload_n rfl l3) ?_
  refine Ew_of (pcₚ := 871) (fun _ => x_iconst rfl) ?_
  refine w_iadd rfl ?_
  refine w_scr hc rfl (by omega) (by omega) ?_
  refine Ew_of (pcₚ := 874) (fun _ => x_aload_n rfl l0) ?_
  refine Ew_of (pcₚ := 875) (fun _ => x_iload_n rfl l3) ?_
  refine Ew_of (pcₚ := 876) (fun _ => x_iconst rfl) ?_
  refine w_iadd rfl ?_
  refine w_scr hc rfl (by omega) (by omega) ?_
  refine Ew_of (pcₚ := 879) (fun _ => x_aload_n rfl l0) ?_
  refine Ew_of (pcₚ := 880) (fun _ => x_iload_n rfl l3) ?_
  refine Ew_of (pcₚ := 881) (fun _ => x_iconst rfl) ?_
  refine w_iadd rfl ?_
  refine w_scr hc rfl (by omega) (by omega) ?_
  refine Ew_of (pcₚ := 884) (fun _ => x_aload_n rfl l0) ?_
  refine Ew_of (pcₚ := 885) (fun _ => x_iload_n rfl l3) ?_
  refine Ew_of (pcₚ := 886) (fun _ => x_iconst rfl) ?_
  refine w_iadd rfl ?_
  refine w_scr hc rfl (by omega) (by omega) ?_
  refine w_callk rfl (fun rec => rinvv rfl rfl (X.1.obj 0 (by decide +kernel) (show g 0 = true from X.2.2.1) rfl) rec) rfl (T_read (d := d + 5) X (hx _) (hx _) (hx _) (hx _) (fun z g1 σ1 D1 N1 F1 A1 c1 s1 X1 S1 zr => ⟨rfl, ?_⟩))
  have Y1 := CL_ref Y hs S1.1
  have hc1 := CL_scr X.1 hc S1.1
  have E1 : EQS (A1 10) (A2 12) := by rw [S1.2]; exact hE
  refine Ew_of (pcₚ := 892) (fun _ => x_pop rfl rfl) ?_
  refine Ew_of (pcₚ := 893) (fun _ => x_aload_n rfl l2) ?_
  refine Ew_of (pcₚ := 894) (fun _ => x_aload_n rfl l0) ?_
  refine Ew_of (pcₚ := 895) (fun _ => x_iload_n rfl l3) ?_
  refine Ew_of (pcₚ := 896) (fun _ => x_iconst rfl) ?_
  refine w_iadd rfl ?_
  refine w_scr hc1 rfl (by omega) (by omega) ?_
  refine Ew_of (pcₚ := 899) (fun _ => x_aload_n rfl l0) ?_
  refine Ew_of (pcₚ := 900) (fun _ => x_iload_n rfl l3) ?_
  refine Ew_of (pcₚ := 901) (fun _ => x_iconst rfl) ?_
  refine w_iadd rfl ?_
  refine w_scr hc1 rfl (by omega) (by omega) ?_
  refine Ew_of (pcₚ := 904) (fun _ => x_aload_n rfl l0) ?_
  refine Ew_of (pcₚ := 905) (fun _ => x_iload_n rfl l3) ?_
  refine Ew_of (pcₚ := 906) (fun _ => x_iconst rfl) ?_
  refine w_iadd rfl ?_
  refine w_scr hc1 rfl (by omega) (by omega) ?_
  refine Ew_of (pcₚ := 909) (fun _ => x_aload_n rfl l0) ?_
  refine Ew_of (pcₚ := 910) (fun _ => x_iload_n rfl l3) ?_
  refine Ew_of (pcₚ := 911) (fun _ => x_iconst rfl) ?_
  refine w_iadd rfl ?_
  refine w_scr hc1 rfl (by omega) (by omega) ?_
  refine w_callk rfl (fun rec => rinvv rfl rfl (Y1.1.1.obj 0 (Y1.1.1.perm 0 rfl) rfl) rec) rfl (RS_read (d := d + 1) Y1.1 (hx _) (hx _) (hx _) (hx _) (fun z2 σ2 F3 A3 Y2 T2 t12 zr2 => ⟨rfl, ?_⟩))
  have X2 := RF_cls X1 Y1.1.1 Y1.2 T2
  have hc2 := RF_scr Y1.1.1 hc1 T2
  have E2 : EQS (A1 10) (A3 12) := by rw [t12]; exact E1
  refine Ew_of (pcₚ := 917) (fun _ => x_pop rfl rfl) ?_
  refine Ew_of (pcₚ := 1065) (fun _ => x_goto rfl rfl) ?_
  exact k g1 σ2 D1 N1 F1 A1 F3 A3 _ _ X2 Y2 Y1.2 hc2 S1.1.2.1 (RMG_of S1.1) E2
set_option maxHeartbeats 4000000 in
theorem LC_18 {g : Nat → Bool} {σ : rS} {D N D2 N2 : Nat → Nat} {F F2 : hF} {A A2 : hA} {d c s L : Nat} {xs : Nat → Int} {Q : wQ} (X : PHI g σ D N F A) (Y : RHI σ D2 N2 F2 A2) (hs : SEP g D D2) (hc : SCR σ L xs) (hE : EQS (A 10) (A2 12)) (hx : ∀ j, inr (xs j)) (hL : L ≤ 1000000) {i : Int} (hi : 0 ≤ i ∧ i + 6 ≤ L) {ls : rO} (l0 : rlook ls 0 = some (.ref 11)) (l1 : rlook ls 1 = some (.ref (D 0))) (l2 : rlook ls 2 = some (.ref (D2 0))) (l3 : rlook ls 3 = some (I i)) (k : ∀ (gₚ : Nat → Bool) (σₚ : rS) (Dₚ Nₚ : Nat → Nat) (Fₚ : hF) (Aₚ : hA) (F2ₚ : hF) (A2ₚ : hA) (cₚ sₚ : Nat), PHI gₚ σₚ Dₚ Nₚ Fₚ Aₚ → RHI σₚ D2 N2 F2ₚ A2ₚ → SEP gₚ Dₚ D2 → SCR σₚ L xs → Dₚ 0 = D 0 → RMG g N c s gₚ Nₚ cₚ sₚ → EQS (Aₚ 10) (A2ₚ 12) → Ew 455 (d + 14) 1065 ls [] σₚ cₚ sₚ Q) : Ew 455 (d + 14) 920 ls [] σ c s Q := by
  refine Ew_of (pcₚ := 921) (fun _ => x_aload_n rfl l1) ?_
  refine Ew_of (pcₚ := 922) (fun _ => x_aload_n rfl l0) ?_
  refine Ew_of (pcₚ := 923) (fun _ => x_iload_n rfl l3) ?_
  refine Ew_of (pcₚ := 924) (fun _ => x_iconst rfl) ?_
  refine w_iadd rfl ?_
  refine w_scr hc rfl (by omega) (by omega) ?_
  refine w_callk rfl (fun rec => rinvv rfl rfl (X.1.obj 0 (by decide +kernel) (show g 0 = true from X.2.2.1) rfl) rec) rfl (T_kind (d := d + 10) X (hx _) (fun z σ1 D1 N1 F1 A1 c1 s1 X1 S1 zr => ⟨rfl, ?_⟩))
  have Y1 := CL_ref Y hs S1.1
  have hc1 := CL_scr X.1 hc S1.1
  have E1 : EQS (A1 10) (A2 12) := by rw [S1.2]; exact hE
  refine Ew_of (pcₚ := 930) (fun _ => x_pop rfl rfl) ?_
  refine Ew_of (pcₚ := 931) (fun _ => x_aload_n rfl l2) ?_
  refine Ew_of (pcₚ := 932) (fun _ => x_aload_n rfl l0) ?_
  refine Ew_of (pcₚ := 933) (fun _ => x_iload_n rfl l3) ?_
  refine Ew_of (pcₚ := 934) (fun _ => x_iconst rfl) ?_
  refine w_iadd rfl ?_
  refine w_scr hc1 rfl (by omega) (by omega) ?_
  refine w_callk rfl (fun rec => rinvv rfl rfl (Y1.1.1.obj 0 (Y1.1.1.perm 0 rfl) rfl) rec) rfl (RS_kind (d := d + 12) Y1.1 (hx _) (fun z2 σ2 F3 A3 Y2 T2 t12 zr2 => ⟨rfl, ?_⟩))
  have X2 := RF_cls X1 Y1.1.1 Y1.2 T2
  have hc2 := RF_scr Y1.1.1 hc1 T2
  have E2 : EQS (A1 10) (A3 12) := by rw [t12]; exact E1
  refine Ew_of (pcₚ := 940) (fun _ => x_pop rfl rfl) ?_
  refine Ew_of (pcₚ := 1065) (fun _ => x_goto rfl rfl) ?_
  exact k g σ2 D1 N1 F1 A1 F3 A3 _ _ X2 Y2 Y1.2 hc2 S1.1.2.1 (RMG_of S1.1) E2
set_option maxHeartbeats 4000000 in
theorem LC_19 {g : Nat → Bool} {σ : rS} {D N D2 N2 : Nat → Nat} {F F2 : hF} {A A2 : hA} {d c s L : Nat} {xs : Nat → Int} {Q : wQ} (X : PHI g σ D N F A) (Y : RHI σ D2 N2 F2 A2) (hs : SEP g D D2) (hc : SCR σ L xs) (hE : EQS (A 10) (A2 12)) (hx : ∀ j, inr (xs j)) (hL : L ≤ 1000000) {i : Int} (hi : 0 ≤ i ∧ i + 6 ≤ L) {ls : rO} (l0 : rlook ls 0 = some (.ref 11)) (l1 : rlook ls 1 = some (.ref (D 0))) (l2 : rlook ls 2 = some (.ref (D2 0))) (l3 : rlook ls 3 = some (I i)) (k : ∀ (gₚ : Nat → Bool) (σₚ : rS) (Dₚ Nₚ : Nat → Nat) (Fₚ : hF) (Aₚ : hA) (F2ₚ : hF) (A2ₚ : hA) (cₚ sₚ : Nat), PHI gₚ σₚ Dₚ Nₚ Fₚ Aₚ → RHI σₚ D2 N2 F2ₚ A2ₚ → SEP gₚ Dₚ D2 → SCR σₚ L xs → Dₚ 0 = D 0 → RMG g N c s gₚ Nₚ cₚ sₚ → EQS (Aₚ 10) (A2ₚ 12) → Ew 455 (d + 14) 1065 ls [] σₚ cₚ sₚ Q) : Ew 455 (d + 14) 943 ls [] σ c s Q := by
  refine Ew_of (pcₚ := 944) (fun _ => x_aload_n rfl l1) ?_
  refine Ew_of (pcₚ := 945) (fun _ => x_aload_n rfl l0) ?_
  refine Ew_of (pcₚ := 946) (fun _ => x_iload_n rfl l3) ?_
  refine Ew_of (pcₚ := 947) (fun _ => x_iconst rfl) ?_
  refine w_iadd rfl ?_
  refine w_scr hc rfl (by omega) (by omega) ?_
  refine Ew_of (pcₚ := 950) (fun _ => x_aload_n rfl l0) ?_
  refine Ew_of (pcₚ := 951) (fun _ => x_iload_n rfl l3) ?_
  refine Ew_of (pcₚ := 952) (fun _ => x_iconst rfl) ?_
  refine w_iadd rfl ?_
  refine w_scr hc rfl (by omega) (by omega) ?_
  refine Ew_of (pcₚ := 955) (fun _ => x_aload_n rfl l0) ?_
  refine Ew_of (pcₚ := 956) (fun _ => x_iload_n rfl l3) ?_
  refine Ew_of (pcₚ := 957) (fun _ => x_iconst rfl) ?_
  refine w_iadd rfl ?_
  refine w_scr hc rfl (by omega) (by omega) ?_
  refine w_callk rfl (fun rec => rinvv rfl rfl (X.1.obj 0 (by decide +kernel) (show g 0 = true from X.2.2.1) rfl) rec) rfl (T_open (d := d + 5) X (hx _) (hx _) (hx _) (fun z g1 σ1 D1 N1 F1 A1 c1 s1 X1 S1 zr => ⟨rfl, ?_⟩))
  have Y1 := CL_ref Y hs S1.1
  have hc1 := CL_scr X.1 hc S1.1
  have E1 : EQS (A1 10) (A2 12) := by rw [S1.2]; exact hE
  refine Ew_of (pcₚ := 963) (fun _ => x_pop rfl rfl) ?_
  refine Ew_of (pcₚ := 964) (fun _ => x_aload_n rfl l2) ?_
  refine Ew_of (pcₚ := 965) (fun _ => x_aload_n rfl l0) ?_
  refine Ew_of (pcₚ := 966) (fun _ => x_iload_n rfl l3) ?_
  refine Ew_of (pcₚ := 967) (fun _ => x_iconst rfl) ?_
  refine w_iadd rfl ?_
  refine w_scr hc1 rfl (by omega) (by omega) ?_
  refine Ew_of (pcₚ := 970) (fun _ => x_aload_n rfl l0) ?_
  refine Ew_of (pcₚ := 971) (fun _ => x_iload_n rfl l3) ?_
  refine Ew_of (pcₚ := 972) (fun _ => x_iconst rfl) ?_
  refine w_iadd rfl ?_
  refine w_scr hc1 rfl (by omega) (by omega) ?_
  refine Ew_of (pcₚ := 975) (fun _ => x_aload_n rfl l0) ?_
  refine Ew_of (pcₚ := 976) (fun _ => x_iload_n rfl l3) ?_
  refine Ew_of (pcₚ := 977) (fun _ => x_iconst rfl) ?_
  refine w_iadd rfl ?_
  refine w_scr hc1 rfl (by omega) (by omega) ?_
  refine w_callk rfl (fun rec => rinvv rfl rfl (Y1.1.1.obj 0 (Y1.1.1.perm 0 rfl) rfl) rec) rfl (RS_open (d := d + 0) Y1.1 (hx _) (hx _) (hx _) (fun z2 σ2 F3 A3 Y2 T2 t12 zr2 => ⟨rfl, ?_⟩))
  have X2 := RF_cls X1 Y1.1.1 Y1.2 T2
  have hc2 := RF_scr Y1.1.1 hc1 T2
  have E2 : EQS (A1 10) (A3 12) := by rw [t12]; exact E1
  refine Ew_of (pcₚ := 983) (fun _ => x_pop rfl rfl) ?_
  refine Ew_of (pcₚ := 1065) (fun _ => x_goto rfl rfl) ?_
  exact k g1 σ2 D1 N1 F1 A1 F3 A3 _ _ X2 Y2 Y1.2 hc2 S1.1.2.1 (RMG_of S1.1) E2
set_option maxHeartbeats 4000000 in
theorem LC_20 {g : Nat → Bool} {σ : rS} {D N D2 N2 : Nat → Nat} {F F2 : hF} {A A2 : hA} {d c s L : Nat} {xs : Nat → Int} {Q : wQ} (X : PHI g σ D N F A) (Y : RHI σ D2 N2 F2 A2) (hs : SEP g D D2) (hc : SCR σ L xs) (hE : EQS (A 10) (A2 12)) (hx : ∀ j, inr (xs j)) (hL : L ≤ 1000000) {i : Int} (hi : 0 ≤ i ∧ i + 6 ≤ L) {ls : rO} (l0 : rlook ls 0 = some (.ref 11)) (l1 : rlook ls 1 = some (.ref (D 0))) (l2 : rlook ls 2 = some (.ref (D2 0))) (l3 : rlook ls 3 = some (I i)) (k : ∀ (gₚ : Nat → Bool) (σₚ : rS) (Dₚ Nₚ : Nat → Nat) (Fₚ : hF) (Aₚ : hA) (F2ₚ : hF) (A2ₚ : hA) (cₚ sₚ : Nat), PHI gₚ σₚ Dₚ Nₚ Fₚ Aₚ → RHI σₚ D2 N2 F2ₚ A2ₚ → SEP gₚ Dₚ D2 → SCR σₚ L xs → Dₚ 0 = D 0 → RMG g N c s gₚ Nₚ cₚ sₚ → EQS (Aₚ 10) (A2ₚ 12) → Ew 455 (d + 14) 1065 ls [] σₚ cₚ sₚ Q) : Ew 455 (d + 14) 986 ls [] σ c s Q := by
  refine Ew_of (pcₚ := 987) (fun _ => x_aload_n rfl l1) ?_
  refine Ew_of (pcₚ := 988) (fun _ => x_aload_n rfl l0) ?_
  refine Ew_of (pcₚ := 989) (fun _ => x_iload_n rfl l3) ?_
  refine Ew_of (pcₚ := 990) (fun _ => x_iconst rfl) ?_
  refine w_iadd rfl ?_
  refine w_scr hc rfl (by omega) (by omega) ?_
  refine Ew_of (pcₚ := 993) (fun _ => x_aload_n rfl l0) ?_
  refine Ew_of (pcₚ := 994) (fun _ => x_iload_n rfl l3) ?_
  refine Ew_of (pcₚ := 995) (fun _ => x_iconst rfl) ?_
  refine w_iadd rfl ?_
  refine w_scr hc rfl (by omega) (by omega) ?_
  refine w_callk rfl (fun rec => rinvv rfl rfl (X.1.obj 0 (by decide +kernel) (show g 0 = true from X.2.2.1) rfl) rec) rfl (T_bound (d := d + 10) X (hx _) (hx _) (fun z σ1 D1 N1 F1 A1 c1 s1 X1 S1 zr px0 => ⟨rfl, ?_⟩))
  have Y1 := CL_ref Y hs S1.1
  have hc1 := CL_scr X.1 hc S1.1
  have E1 : EQS (A1 10) (A2 12) := by rw [S1.2]; exact hE
  refine Ew_of (pcₚ := 1001) (fun _ => x_aload_n rfl l2) ?_
  refine Ew_of (pcₚ := 1002) (fun _ => x_aload_n rfl l0) ?_
  refine Ew_of (pcₚ := 1003) (fun _ => x_iload_n rfl l3) ?_
  refine Ew_of (pcₚ := 1004) (fun _ => x_iconst rfl) ?_
  refine w_iadd rfl ?_
  refine w_scr hc1 rfl (by omega) (by omega) ?_
  refine Ew_of (pcₚ := 1007) (fun _ => x_aload_n rfl l0) ?_
  refine Ew_of (pcₚ := 1008) (fun _ => x_iload_n rfl l3) ?_
  refine Ew_of (pcₚ := 1009) (fun _ => x_iconst rfl) ?_
  refine w_iadd rfl ?_
  refine w_scr hc1 rfl (by omega) (by omega) ?_
  refine w_callk rfl (fun rec => rinvv rfl rfl (Y1.1.1.obj 0 (Y1.1.1.perm 0 rfl) rfl) rec) rfl (RS_bound (d := d + 12) Y1.1 (hx _) (hx _) (fun z2 σ2 F3 A3 Y2 T2 t12 zr2 py0 => ⟨rfl, ?_⟩))
  have X2 := RF_cls X1 Y1.1.1 Y1.2 T2
  have hc2 := RF_scr Y1.1.1 hc1 T2
  have E2 : EQS (A1 10) (A3 12) := by rw [t12]; exact E1
  have he : z = z2 := by rw [px0, py0]; exact BND_eq hE _ _
  subst he
  refine w_icmpeq (t := 1065) rfl rfl (show inr z by omega) (show inr z by omega) (fun _ => ?_) (fun q => absurd rfl q)
  exact k g σ2 D1 N1 F1 A1 F3 A3 _ _ X2 Y2 Y1.2 hc2 S1.1.2.1 (RMG_of S1.1) E2
set_option maxHeartbeats 4000000 in
theorem LC_21 {g : Nat → Bool} {σ : rS} {D N D2 N2 : Nat → Nat} {F F2 : hF} {A A2 : hA} {d c s L : Nat} {xs : Nat → Int} {Q : wQ} (X : PHI g σ D N F A) (Y : RHI σ D2 N2 F2 A2) (hs : SEP g D D2) (hc : SCR σ L xs) (hE : EQS (A 10) (A2 12)) (hx : ∀ j, inr (xs j)) (hL : L ≤ 1000000) {i : Int} (hi : 0 ≤ i ∧ i + 6 ≤ L) {ls : rO} (l0 : rlook ls 0 = some (.ref 11)) (l1 : rlook ls 1 = some (.ref (D 0))) (l2 : rlook ls 2 = some (.ref (D2 0))) (l3 : rlook ls 3 = some (I i)) (k : ∀ (gₚ : Nat → Bool) (σₚ : rS) (Dₚ Nₚ : Nat → Nat) (Fₚ : hF) (Aₚ : hA) (F2ₚ : hF) (A2ₚ : hA) (cₚ sₚ : Nat), PHI gₚ σₚ Dₚ Nₚ Fₚ Aₚ → RHI σₚ D2 N2 F2ₚ A2ₚ → SEP gₚ Dₚ D2 → SCR σₚ L xs → Dₚ 0 = D 0 → RMG g N c s gₚ Nₚ cₚ sₚ → EQS (Aₚ 10) (A2ₚ 12) → Ew 455 (d + 14) 1065 ls [] σₚ cₚ sₚ Q) : Ew 455 (d + 14) 1019 ls [] σ c s Q := by
  refine Ew_of (pcₚ := 1020) (fun _ => x_aload_n rfl l1) ?_
  refine Ew_of (pcₚ := 1021) (fun _ => x_aload_n rfl l0) ?_
  refine Ew_of (pcₚ := 1022) (fun _ => x_iload_n rfl l3) ?_
  refine Ew_of (pcₚ := 1023) (fun _ => x_iconst rfl) ?_
  refine w_iadd rfl ?_
  refine w_scr hc rfl (by omega) (by omega) ?_
  refine w_callk rfl (fun rec => rinvv rfl rfl (X.1.obj 0 (by decide +kernel) (show g 0 = true from X.2.2.1) rfl) rec) rfl (T_about (d := d + 13) X (hx _) (fun z σ1 D1 N1 F1 A1 c1 s1 X1 S1 zr => ⟨rfl, ?_⟩))
  have Y1 := CL_ref Y hs S1.1
  have hc1 := CL_scr X.1 hc S1.1
  have E1 : EQS (A1 10) (A2 12) := by rw [S1.2]; exact hE
  refine Ew_of (pcₚ := 1029) (fun _ => x_pop rfl rfl) ?_
  refine Ew_of (pcₚ := 1030) (fun _ => x_aload_n rfl l2) ?_
  refine Ew_of (pcₚ := 1031) (fun _ => x_aload_n rfl l0) ?_
  refine Ew_of (pcₚ := 1032) (fun _ => x_iload_n rfl l3) ?_
  refine Ew_of (pcₚ := 1033) (fun _ => x_iconst rfl) ?_
  refine w_iadd rfl ?_
  refine w_scr hc1 rfl (by omega) (by omega) ?_
  refine w_callk rfl (fun rec => rinvv rfl rfl (Y1.1.1.obj 0 (Y1.1.1.perm 0 rfl) rfl) rec) rfl (RS_about (d := d + 12) Y1.1 (hx _) (fun z2 σ2 F3 A3 Y2 T2 t12 zr2 => ⟨rfl, ?_⟩))
  have X2 := RF_cls X1 Y1.1.1 Y1.2 T2
  have hc2 := RF_scr Y1.1.1 hc1 T2
  have E2 : EQS (A1 10) (A3 12) := by rw [t12]; exact E1
  refine Ew_of (pcₚ := 1039) (fun _ => x_pop rfl rfl) ?_
  refine Ew_of (pcₚ := 1065) (fun _ => x_goto rfl rfl) ?_
  exact k g σ2 D1 N1 F1 A1 F3 A3 _ _ X2 Y2 Y1.2 hc2 S1.1.2.1 (RMG_of S1.1) E2
set_option maxHeartbeats 4000000 in
theorem LC_22 {g : Nat → Bool} {σ : rS} {D N D2 N2 : Nat → Nat} {F F2 : hF} {A A2 : hA} {d c s L : Nat} {xs : Nat → Int} {Q : wQ} (X : PHI g σ D N F A) (Y : RHI σ D2 N2 F2 A2) (hs : SEP g D D2) (hc : SCR σ L xs) (hE : EQS (A 10) (A2 12)) (hx : ∀ j, inr (xs j)) (hL : L ≤ 1000000) {i : Int} (hi : 0 ≤ i ∧ i + 6 ≤ L) {ls : rO} (l0 : rlook ls 0 = some (.ref 11)) (l1 : rlook ls 1 = some (.ref (D 0))) (l2 : rlook ls 2 = some (.ref (D2 0))) (l3 : rlook ls 3 = some (I i)) (k : ∀ (gₚ : Nat → Bool) (σₚ : rS) (Dₚ Nₚ : Nat → Nat) (Fₚ : hF) (Aₚ : hA) (F2ₚ : hF) (A2ₚ : hA) (cₚ sₚ : Nat), PHI gₚ σₚ Dₚ Nₚ Fₚ Aₚ → RHI σₚ D2 N2 F2ₚ A2ₚ → SEP gₚ Dₚ D2 → SCR σₚ L xs → Dₚ 0 = D 0 → RMG g N c s gₚ Nₚ cₚ sₚ → EQS (Aₚ 10) (A2ₚ 12) → Ew 455 (d + 14) 1065 ls [] σₚ cₚ sₚ Q) : Ew 455 (d + 14) 1042 ls [] σ c s Q := by
  refine Ew_of (pcₚ := 1043) (fun _ => x_aload_n rfl l1) ?_
  refine Ew_of (pcₚ := 1044) (fun _ => x_aload_n rfl l0) ?_
  refine Ew_of (pcₚ := 1045) (fun _ => x_iload_n rfl l3) ?_
  refine Ew_of (pcₚ := 1046) (fun _ => x_iconst rfl) ?_
  refine w_iadd rfl ?_
  refine w_scr hc rfl (by omega) (by omega) ?_
  refine w_callk rfl (fun rec => rinvv rfl rfl (X.1.obj 0 (by decide +kernel) (show g 0 = true from X.2.2.1) rfl) rec) rfl (T_strayed (d := d + 13) X (hx _) (fun z σ1 D1 N1 F1 A1 c1 s1 X1 S1 zr => ⟨rfl, ?_⟩))
  have Y1 := CL_ref Y hs S1.1
  have hc1 := CL_scr X.1 hc S1.1
  have E1 : EQS (A1 10) (A2 12) := by rw [S1.2]; exact hE
  refine Ew_of (pcₚ := 1052) (fun _ => x_pop rfl rfl) ?_
  refine Ew_of (pcₚ := 1053) (fun _ => x_aload_n rfl l2) ?_
  refine Ew_of (pcₚ := 1054) (fun _ => x_aload_n rfl l0) ?_
  refine Ew_of (pcₚ := 1055) (fun _ => x_iload_n rfl l3) ?_
  refine Ew_of (pcₚ := 1056) (fun _ => x_iconst rfl) ?_
  refine w_iadd rfl ?_
  refine w_scr hc1 rfl (by omega) (by omega) ?_
  refine w_callk rfl (fun rec => rinvv rfl rfl (Y1.1.1.obj 0 (Y1.1.1.perm 0 rfl) rfl) rec) rfl (RS_strayed (d := d + 13) Y1.1 (hx _) (fun z2 σ2 F3 A3 Y2 T2 t12 zr2 => ⟨rfl, ?_⟩))
  have X2 := RF_cls X1 Y1.1.1 Y1.2 T2
  have hc2 := RF_scr Y1.1.1 hc1 T2
  have E2 : EQS (A1 10) (A3 12) := by rw [t12]; exact E1
  refine Ew_of (pcₚ := 1062) (fun _ => x_pop rfl rfl) ?_
  refine Ew_of (pcₚ := 1065) (fun _ => x_goto rfl rfl) ?_
  exact k g σ2 D1 N1 F1 A1 F3 A3 _ _ X2 Y2 Y1.2 hc2 S1.1.2.1 (RMG_of S1.1) E2
