/-! the law: its cases -/
set_option maxHeartbeats 4000000 in
theorem LC_0 {g : Nat → Bool} {σ : rS} {D N D2 N2 : Nat → Nat} {F F2 : hF} {A A2 : hA} {d c s L : Nat} {xs : Nat → Int} {Q : wQ} (X : PHI g σ D N F A) (Y : RHI σ D2 N2 F2 A2) (hs : SEP g D D2) (hc : SCR σ L xs) (hE : EQS (A 10) (A2 12)) (hx : ∀ j, inr (xs j)) (hL : L ≤ 1000000) {i : Int} (hi : 0 ≤ i ∧ i + 6 ≤ L) {ls : rO} (l0 : rlook ls 0 = some (.ref 11)) (l1 : rlook ls 1 = some (.ref (D 0))) (l2 : rlook ls 2 = some (.ref (D2 0))) (l3 : rlook ls 3 = some (I i)) (k : ∀ (g' : Nat → Bool) (σ' : rS) (D' N' : Nat → Nat) (F' : hF) (A' : hA) (F2' : hF) (A2' : hA) (c' s' : Nat), PHI g' σ' D' N' F' A' → RHI σ' D2 N2 F2' A2' → SEP g' D' D2 → SCR σ' L xs → D' 0 = D 0 → RMG g N c s g' N' c' s' → EQS (A' 10) (A2' 12) → Ew 455 (d + 14) 1065 ls [] σ' c' s' Q) : Ew 455 (d + 14) 140 ls [] σ c s Q := by
  refine Ew_of (pc' := 141) (fun _ => x_aload_n rfl l1) ?_
  refine Ew_of (pc' := 142) (fun _ => x_aload_n rfl l0) ?_
  refine Ew_of (pc' := 143) (fun _ => x_iload_n rfl l3) ?_
  refine Ew_of (pc' := 144) (fun _ => x_iconst rfl) ?_
  refine w_iadd rfl ?_
  refine w_scr hc rfl (by omega) (by omega) ?_
  refine Ew_of (pc' := 147) (fun _ => x_aload_n rfl l0) ?_
  refine Ew_of (pc' := 148) (fun _ => x_iload_n rfl l3) ?_
  refine Ew_of (pc' := 149) (fun _ => x_iconst rfl) ?_
  refine w_iadd rfl ?_
  refine w_scr hc rfl (by omega) (by omega) ?_
  refine Ew_of (pc' := 152) (fun _ => x_aload_n rfl l0) ?_
  refine Ew_of (pc' := 153) (fun _ => x_iload_n rfl l3) ?_
  refine Ew_of (pc' := 154) (fun _ => x_iconst rfl) ?_
  refine w_iadd rfl ?_
  refine w_scr hc rfl (by omega) (by omega) ?_
  refine Ew_of (pc' := 157) (fun _ => x_aload_n rfl l0) ?_
  refine Ew_of (pc' := 158) (fun _ => x_iload_n rfl l3) ?_
  refine Ew_of (pc' := 159) (fun _ => x_iconst rfl) ?_
  refine w_iadd rfl ?_
  refine w_scr hc rfl (by omega) (by omega) ?_
  refine Ew_of (pc' := 162) (fun _ => x_aload_n rfl l0) ?_
  refine Ew_of (pc' := 163) (fun _ => x_iload_n rfl l3) ?_
  refine Ew_of (pc' := 164) (fun _ => x_iconst rfl) ?_
  refine w_iadd rfl ?_
  refine w_scr hc rfl (by omega) (by omega) ?_
  refine w_callk rfl (fun rec => rinvv rfl rfl (X.1.obj 0 (by decide +kernel) (show g 0 = true from X.2.2.1) rfl) rec) rfl (T_feed (d := d + 9) X (hx _) (hx _) (hx _) (hx _) (hx _) (fun z σ1 D1 N1 F1 A1 c1 s1 X1 S1 zr => ⟨(rretB rfl zr), ?_⟩))
  have Y1 := CL_ref Y hs S1.1
  have hc1 := CL_scr X.1 hc S1.1
  have E1 : EQS (A1 10) (A2 12) := by rw [S1.2]; exact hE
  refine Ew_of (pc' := 170) (fun _ => x_pop rfl rfl) ?_
  refine Ew_of (pc' := 171) (fun _ => x_aload_n rfl l2) ?_
  refine Ew_of (pc' := 172) (fun _ => x_aload_n rfl l0) ?_
  refine Ew_of (pc' := 173) (fun _ => x_iload_n rfl l3) ?_
  refine Ew_of (pc' := 174) (fun _ => x_iconst rfl) ?_
  refine w_iadd rfl ?_
  refine w_scr hc1 rfl (by omega) (by omega) ?_
  refine Ew_of (pc' := 177) (fun _ => x_aload_n rfl l0) ?_
  refine Ew_of (pc' := 178) (fun _ => x_iload_n rfl l3) ?_
  refine Ew_of (pc' := 179) (fun _ => x_iconst rfl) ?_
  refine w_iadd rfl ?_
  refine w_scr hc1 rfl (by omega) (by omega) ?_
  refine Ew_of (pc' := 182) (fun _ => x_aload_n rfl l0) ?_
  refine Ew_of (pc' := 183) (fun _ => x_iload_n rfl l3) ?_
  refine Ew_of (pc' := 184) (fun _ => x_iconst rfl) ?_
  refine w_iadd rfl ?_
  refine w_scr hc1 rfl (by omega) (by omega) ?_
  refine Ew_of (pc' := 187) (fun _ => x_aload_n rfl l0) ?_
  refine Ew_of (pc' := 188) (fun _ => x_iload_n rfl l3) ?_
  refine Ew_of (pc' := 189) (fun _ => x_iconst rfl) ?_
  refine w_iadd rfl ?_
  refine w_scr hc1 rfl (by omega) (by omega) ?_
  refine Ew_of (pc' := 192) (fun _ => x_aload_n rfl l0) ?_
  refine Ew_of (pc' := 193) (fun _ => x_iload_n rfl l3) ?_
  refine Ew_of (pc' := 194) (fun _ => x_iconst rfl) ?_
  refine w_iadd rfl ?_
  refine w_scr hc1 rfl (by omega) (by omega) ?_
  refine w_callk rfl (fun rec => rinvv rfl rfl (Y1.1.1.obj 0 (Y1.1.1.perm 0 rfl) rfl) rec) rfl (RS_feed (d := d + 12) Y1.1 (hx _) (hx _) (hx _) (hx _) (hx _) (fun z2 σ2 F3 A3 Y2 T2 t12 zr2 => ⟨(rretB rfl zr2), ?_⟩))
  have X2 := RF_cls X1 Y1.1.1 Y1.2 T2
  have hc2 := RF_scr Y1.1.1 hc1 T2
  have E2 : EQS (A1 10) (A3 12) := by rw [t12]; exact E1
  refine Ew_of (pc' := 200) (fun _ => x_pop rfl rfl) ?_
  refine Ew_of (pc' := 1065) (fun _ => x_goto rfl rfl) ?_
  exact k g σ2 D1 N1 F1 A1 F3 A3 _ _ X2 Y2 Y1.2 hc2 S1.1.2.1 (RMG_of S1.1) E2
set_option maxHeartbeats 4000000 in
theorem LC_1 {g : Nat → Bool} {σ : rS} {D N D2 N2 : Nat → Nat} {F F2 : hF} {A A2 : hA} {d c s L : Nat} {xs : Nat → Int} {Q : wQ} (X : PHI g σ D N F A) (Y : RHI σ D2 N2 F2 A2) (hs : SEP g D D2) (hc : SCR σ L xs) (hE : EQS (A 10) (A2 12)) (hx : ∀ j, inr (xs j)) (hL : L ≤ 1000000) {i : Int} (hi : 0 ≤ i ∧ i + 6 ≤ L) {ls : rO} (l0 : rlook ls 0 = some (.ref 11)) (l1 : rlook ls 1 = some (.ref (D 0))) (l2 : rlook ls 2 = some (.ref (D2 0))) (l3 : rlook ls 3 = some (I i)) (k : ∀ (g' : Nat → Bool) (σ' : rS) (D' N' : Nat → Nat) (F' : hF) (A' : hA) (F2' : hF) (A2' : hA) (c' s' : Nat), PHI g' σ' D' N' F' A' → RHI σ' D2 N2 F2' A2' → SEP g' D' D2 → SCR σ' L xs → D' 0 = D 0 → RMG g N c s g' N' c' s' → EQS (A' 10) (A2' 12) → Ew 455 (d + 14) 1065 ls [] σ' c' s' Q) : Ew 455 (d + 14) 203 ls [] σ c s Q := by
  refine Ew_of (pc' := 204) (fun _ => x_aload_n rfl l1) ?_
  refine Ew_of (pc' := 205) (fun _ => x_aload_n rfl l0) ?_
  refine Ew_of (pc' := 206) (fun _ => x_iload_n rfl l3) ?_
  refine Ew_of (pc' := 207) (fun _ => x_iconst rfl) ?_
  refine w_iadd rfl ?_
  refine w_scr hc rfl (by omega) (by omega) ?_
  refine Ew_of (pc' := 210) (fun _ => x_aload_n rfl l0) ?_
  refine Ew_of (pc' := 211) (fun _ => x_iload_n rfl l3) ?_
  refine Ew_of (pc' := 212) (fun _ => x_iconst rfl) ?_
  refine w_iadd rfl ?_
  refine w_scr hc rfl (by omega) (by omega) ?_
  refine Ew_of (pc' := 215) (fun _ => x_aload_n rfl l0) ?_
  refine Ew_of (pc' := 216) (fun _ => x_iload_n rfl l3) ?_
  refine Ew_of (pc' := 217) (fun _ => x_iconst rfl) ?_
  refine w_iadd rfl ?_
  refine w_scr hc rfl (by omega) (by omega) ?_
  refine w_i2l rfl (hx _) ?_
  refine Ew_of (pc' := 222) (fun _ => x_bipush rfl (z := 32) (by decide)) ?_
  refine w_lshlZ rfl ?_
  refine Ew_of (pc' := 224) (fun _ => x_aload_n rfl l0) ?_
  refine Ew_of (pc' := 225) (fun _ => x_iload_n rfl l3) ?_
  refine Ew_of (pc' := 226) (fun _ => x_iconst rfl) ?_
  refine w_iadd rfl ?_
  refine w_scr hc rfl (by omega) (by omega) ?_
  refine w_i2l rfl (hx _) ?_
  refine Ew_of (pc' := 232) (fun _ => x_ldc2 rfl (z := 4294967295) (by decide)) ?_
  refine w_landZ rfl ?_
  refine w_lorZ rfl ?_
  refine w_callk rfl (fun rec => rinvv rfl rfl (X.1.obj 0 (by decide +kernel) (show g 0 = true from X.2.2.1) rfl) rec) rfl (T_give (d := d + 9) X (hx _) (hx _) (zrng _ _) (fun z σ1 D1 N1 F1 A1 c1 s1 X1 S1 zr => ⟨(rretB rfl zr), ?_⟩))
  have Y1 := CL_ref Y hs S1.1
  have hc1 := CL_scr X.1 hc S1.1
  have E1 : EQS (A1 10) (A2 12) := by rw [S1.2]; exact hE
  refine Ew_of (pc' := 238) (fun _ => x_pop rfl rfl) ?_
  refine Ew_of (pc' := 239) (fun _ => x_aload_n rfl l2) ?_
  refine Ew_of (pc' := 240) (fun _ => x_aload_n rfl l0) ?_
  refine Ew_of (pc' := 241) (fun _ => x_iload_n rfl l3) ?_
  refine Ew_of (pc' := 242) (fun _ => x_iconst rfl) ?_
  refine w_iadd rfl ?_
  refine w_scr hc1 rfl (by omega) (by omega) ?_
  refine Ew_of (pc' := 245) (fun _ => x_aload_n rfl l0) ?_
  refine Ew_of (pc' := 246) (fun _ => x_iload_n rfl l3) ?_
  refine Ew_of (pc' := 247) (fun _ => x_iconst rfl) ?_
  refine w_iadd rfl ?_
  refine w_scr hc1 rfl (by omega) (by omega) ?_
  refine Ew_of (pc' := 250) (fun _ => x_aload_n rfl l0) ?_
  refine Ew_of (pc' := 251) (fun _ => x_iload_n rfl l3) ?_
  refine Ew_of (pc' := 252) (fun _ => x_iconst rfl) ?_
  refine w_iadd rfl ?_
  refine w_scr hc1 rfl (by omega) (by omega) ?_
  refine w_i2l rfl (hx _) ?_
  refine Ew_of (pc' := 257) (fun _ => x_bipush rfl (z := 32) (by decide)) ?_
  refine w_lshlZ rfl ?_
  refine Ew_of (pc' := 259) (fun _ => x_aload_n rfl l0) ?_
  refine Ew_of (pc' := 260) (fun _ => x_iload_n rfl l3) ?_
  refine Ew_of (pc' := 261) (fun _ => x_iconst rfl) ?_
  refine w_iadd rfl ?_
  refine w_scr hc1 rfl (by omega) (by omega) ?_
  refine w_i2l rfl (hx _) ?_
  refine Ew_of (pc' := 267) (fun _ => x_ldc2 rfl (z := 4294967295) (by decide)) ?_
  refine w_landZ rfl ?_
  refine w_lorZ rfl ?_
  refine w_callk rfl (fun rec => rinvv rfl rfl (Y1.1.1.obj 0 (Y1.1.1.perm 0 rfl) rfl) rec) rfl (RS_give (d := d + 12) Y1.1 (hx _) (hx _) (zrng _ _) (fun z2 σ2 F3 A3 Y2 T2 t12 zr2 => ⟨(rretB rfl zr2), ?_⟩))
  have X2 := RF_cls X1 Y1.1.1 Y1.2 T2
  have hc2 := RF_scr Y1.1.1 hc1 T2
  have E2 : EQS (A1 10) (A3 12) := by rw [t12]; exact E1
  refine Ew_of (pc' := 273) (fun _ => x_pop rfl rfl) ?_
  refine Ew_of (pc' := 1065) (fun _ => x_goto rfl rfl) ?_
  exact k g σ2 D1 N1 F1 A1 F3 A3 _ _ X2 Y2 Y1.2 hc2 S1.1.2.1 (RMG_of S1.1) E2
set_option maxHeartbeats 4000000 in
theorem LC_2 {g : Nat → Bool} {σ : rS} {D N D2 N2 : Nat → Nat} {F F2 : hF} {A A2 : hA} {d c s L : Nat} {xs : Nat → Int} {Q : wQ} (X : PHI g σ D N F A) (Y : RHI σ D2 N2 F2 A2) (hs : SEP g D D2) (hc : SCR σ L xs) (hE : EQS (A 10) (A2 12)) (hx : ∀ j, inr (xs j)) (hL : L ≤ 1000000) {i : Int} (hi : 0 ≤ i ∧ i + 6 ≤ L) {ls : rO} (l0 : rlook ls 0 = some (.ref 11)) (l1 : rlook ls 1 = some (.ref (D 0))) (l2 : rlook ls 2 = some (.ref (D2 0))) (l3 : rlook ls 3 = some (I i)) (k : ∀ (g' : Nat → Bool) (σ' : rS) (D' N' : Nat → Nat) (F' : hF) (A' : hA) (F2' : hF) (A2' : hA) (c' s' : Nat), PHI g' σ' D' N' F' A' → RHI σ' D2 N2 F2' A2' → SEP g' D' D2 → SCR σ' L xs → D' 0 = D 0 → RMG g N c s g' N' c' s' → EQS (A' 10) (A2' 12) → Ew 455 (d + 14) 1065 ls [] σ' c' s' Q) : Ew 455 (d + 14) 276 ls [] σ c s Q := by
  refine Ew_of (pc' := 277) (fun _ => x_aload_n rfl l1) ?_
  refine Ew_of (pc' := 278) (fun _ => x_aload_n rfl l0) ?_
  refine Ew_of (pc' := 279) (fun _ => x_iload_n rfl l3) ?_
  refine Ew_of (pc' := 280) (fun _ => x_iconst rfl) ?_
  refine w_iadd rfl ?_
  refine w_scr hc rfl (by omega) (by omega) ?_
  refine Ew_of (pc' := 283) (fun _ => x_aload_n rfl l0) ?_
  refine Ew_of (pc' := 284) (fun _ => x_iload_n rfl l3) ?_
  refine Ew_of (pc' := 285) (fun _ => x_iconst rfl) ?_
  refine w_iadd rfl ?_
  refine w_scr hc rfl (by omega) (by omega) ?_
  refine Ew_of (pc' := 288) (fun _ => x_aload_n rfl l0) ?_
  refine Ew_of (pc' := 289) (fun _ => x_iload_n rfl l3) ?_
  refine Ew_of (pc' := 290) (fun _ => x_iconst rfl) ?_
  refine w_iadd rfl ?_
  refine w_scr hc rfl (by omega) (by omega) ?_
  refine w_callk rfl (fun rec => rinvv rfl rfl (X.1.obj 0 (by decide +kernel) (show g 0 = true from X.2.2.1) rfl) rec) rfl (T_again (d := d + 10) X (hx _) (hx _) (hx _) (fun z σ1 D1 N1 F1 A1 c1 s1 X1 S1 zr => ⟨(rretB rfl zr), ?_⟩))
  have Y1 := CL_ref Y hs S1.1
  have hc1 := CL_scr X.1 hc S1.1
  have E1 : EQS (A1 10) (A2 12) := by rw [S1.2]; exact hE
  refine Ew_of (pc' := 296) (fun _ => x_pop rfl rfl) ?_
  refine Ew_of (pc' := 297) (fun _ => x_aload_n rfl l2) ?_
  refine Ew_of (pc' := 298) (fun _ => x_aload_n rfl l0) ?_
  refine Ew_of (pc' := 299) (fun _ => x_iload_n rfl l3) ?_
  refine Ew_of (pc' := 300) (fun _ => x_iconst rfl) ?_
  refine w_iadd rfl ?_
  refine w_scr hc1 rfl (by omega) (by omega) ?_
  refine Ew_of (pc' := 303) (fun _ => x_aload_n rfl l0) ?_
  refine Ew_of (pc' := 304) (fun _ => x_iload_n rfl l3) ?_
  refine Ew_of (pc' := 305) (fun _ => x_iconst rfl) ?_
  refine w_iadd rfl ?_
  refine w_scr hc1 rfl (by omega) (by omega) ?_
  refine Ew_of (pc' := 308) (fun _ => x_aload_n rfl l0) ?_
  refine Ew_of (pc' := 309) (fun _ => x_iload_n rfl l3) ?_
  refine Ew_of (pc' := 310) (fun _ => x_iconst rfl) ?_
  refine w_iadd rfl ?_
  refine w_scr hc1 rfl (by omega) (by omega) ?_
  refine w_callk rfl (fun rec => rinvv rfl rfl (Y1.1.1.obj 0 (Y1.1.1.perm 0 rfl) rfl) rec) rfl (RS_again (d := d + 12) Y1.1 (hx _) (hx _) (hx _) (fun z2 σ2 F3 A3 Y2 T2 t12 zr2 => ⟨(rretB rfl zr2), ?_⟩))
  have X2 := RF_cls X1 Y1.1.1 Y1.2 T2
  have hc2 := RF_scr Y1.1.1 hc1 T2
  have E2 : EQS (A1 10) (A3 12) := by rw [t12]; exact E1
  refine Ew_of (pc' := 316) (fun _ => x_pop rfl rfl) ?_
  refine Ew_of (pc' := 1065) (fun _ => x_goto rfl rfl) ?_
  exact k g σ2 D1 N1 F1 A1 F3 A3 _ _ X2 Y2 Y1.2 hc2 S1.1.2.1 (RMG_of S1.1) E2
set_option maxHeartbeats 4000000 in
theorem LC_3 {g : Nat → Bool} {σ : rS} {D N D2 N2 : Nat → Nat} {F F2 : hF} {A A2 : hA} {d c s L : Nat} {xs : Nat → Int} {Q : wQ} (X : PHI g σ D N F A) (Y : RHI σ D2 N2 F2 A2) (hs : SEP g D D2) (hc : SCR σ L xs) (hE : EQS (A 10) (A2 12)) (hx : ∀ j, inr (xs j)) (hL : L ≤ 1000000) {i : Int} (hi : 0 ≤ i ∧ i + 6 ≤ L) {ls : rO} (l0 : rlook ls 0 = some (.ref 11)) (l1 : rlook ls 1 = some (.ref (D 0))) (l2 : rlook ls 2 = some (.ref (D2 0))) (l3 : rlook ls 3 = some (I i)) (k : ∀ (g' : Nat → Bool) (σ' : rS) (D' N' : Nat → Nat) (F' : hF) (A' : hA) (F2' : hF) (A2' : hA) (c' s' : Nat), PHI g' σ' D' N' F' A' → RHI σ' D2 N2 F2' A2' → SEP g' D' D2 → SCR σ' L xs → D' 0 = D 0 → RMG g N c s g' N' c' s' → EQS (A' 10) (A2' 12) → Ew 455 (d + 14) 1065 ls [] σ' c' s' Q) : Ew 455 (d + 14) 319 ls [] σ c s Q := by
  refine Ew_of (pc' := 320) (fun _ => x_aload_n rfl l1) ?_
  refine Ew_of (pc' := 321) (fun _ => x_aload_n rfl l0) ?_
  refine Ew_of (pc' := 322) (fun _ => x_iload_n rfl l3) ?_
  refine Ew_of (pc' := 323) (fun _ => x_iconst rfl) ?_
  refine w_iadd rfl ?_
  refine w_scr hc rfl (by omega) (by omega) ?_
  refine Ew_of (pc' := 326) (fun _ => x_aload_n rfl l0) ?_
  refine Ew_of (pc' := 327) (fun _ => x_iload_n rfl l3) ?_
  refine Ew_of (pc' := 328) (fun _ => x_iconst rfl) ?_
  refine w_iadd rfl ?_
  refine w_scr hc rfl (by omega) (by omega) ?_
  refine w_callk rfl (fun rec => rinvv rfl rfl (X.1.obj 0 (by decide +kernel) (show g 0 = true from X.2.2.1) rfl) rec) rfl (T_cut (d := d + 12) X (hx _) (hx _) (fun z σ1 D1 N1 F1 A1 c1 s1 X1 S1 zr => ⟨(rretB rfl zr), ?_⟩))
  have Y1 := CL_ref Y hs S1.1
  have hc1 := CL_scr X.1 hc S1.1
  have E1 : EQS (A1 10) (A2 12) := by rw [S1.2]; exact hE
  refine Ew_of (pc' := 334) (fun _ => x_pop rfl rfl) ?_
  refine Ew_of (pc' := 335) (fun _ => x_aload_n rfl l2) ?_
  refine Ew_of (pc' := 336) (fun _ => x_aload_n rfl l0) ?_
  refine Ew_of (pc' := 337) (fun _ => x_iload_n rfl l3) ?_
  refine Ew_of (pc' := 338) (fun _ => x_iconst rfl) ?_
  refine w_iadd rfl ?_
  refine w_scr hc1 rfl (by omega) (by omega) ?_
  refine Ew_of (pc' := 341) (fun _ => x_aload_n rfl l0) ?_
  refine Ew_of (pc' := 342) (fun _ => x_iload_n rfl l3) ?_
  refine Ew_of (pc' := 343) (fun _ => x_iconst rfl) ?_
  refine w_iadd rfl ?_
  refine w_scr hc1 rfl (by omega) (by omega) ?_
  refine w_callk rfl (fun rec => rinvv rfl rfl (Y1.1.1.obj 0 (Y1.1.1.perm 0 rfl) rfl) rec) rfl (RS_cut (d := d + 12) Y1.1 (hx _) (hx _) (fun z2 σ2 F3 A3 Y2 T2 t12 zr2 => ⟨(rretB rfl zr2), ?_⟩))
  have X2 := RF_cls X1 Y1.1.1 Y1.2 T2
  have hc2 := RF_scr Y1.1.1 hc1 T2
  have E2 : EQS (A1 10) (A3 12) := by rw [t12]; exact E1
  refine Ew_of (pc' := 349) (fun _ => x_pop rfl rfl) ?_
  refine Ew_of (pc' := 1065) (fun _ => x_goto rfl rfl) ?_
  exact k g σ2 D1 N1 F1 A1 F3 A3 _ _ X2 Y2 Y1.2 hc2 S1.1.2.1 (RMG_of S1.1) E2
set_option maxHeartbeats 4000000 in
theorem LC_4 {g : Nat → Bool} {σ : rS} {D N D2 N2 : Nat → Nat} {F F2 : hF} {A A2 : hA} {d c s L : Nat} {xs : Nat → Int} {Q : wQ} (X : PHI g σ D N F A) (Y : RHI σ D2 N2 F2 A2) (hs : SEP g D D2) (hc : SCR σ L xs) (hE : EQS (A 10) (A2 12)) (hx : ∀ j, inr (xs j)) (hL : L ≤ 1000000) {i : Int} (hi : 0 ≤ i ∧ i + 6 ≤ L) {ls : rO} (l0 : rlook ls 0 = some (.ref 11)) (l1 : rlook ls 1 = some (.ref (D 0))) (l2 : rlook ls 2 = some (.ref (D2 0))) (l3 : rlook ls 3 = some (I i)) (k : ∀ (g' : Nat → Bool) (σ' : rS) (D' N' : Nat → Nat) (F' : hF) (A' : hA) (F2' : hF) (A2' : hA) (c' s' : Nat), PHI g' σ' D' N' F' A' → RHI σ' D2 N2 F2' A2' → SEP g' D' D2 → SCR σ' L xs → D' 0 = D 0 → RMG g N c s g' N' c' s' → EQS (A' 10) (A2' 12) → Ew 455 (d + 14) 1065 ls [] σ' c' s' Q) : Ew 455 (d + 14) 352 ls [] σ c s Q := by
  refine Ew_of (pc' := 353) (fun _ => x_aload_n rfl l1) ?_
  refine Ew_of (pc' := 354) (fun _ => x_aload_n rfl l0) ?_
  refine Ew_of (pc' := 355) (fun _ => x_iload_n rfl l3) ?_
  refine Ew_of (pc' := 356) (fun _ => x_iconst rfl) ?_
  refine w_iadd rfl ?_
  refine w_scr hc rfl (by omega) (by omega) ?_
  refine Ew_of (pc' := 359) (fun _ => x_aload_n rfl l0) ?_
  refine Ew_of (pc' := 360) (fun _ => x_iload_n rfl l3) ?_
  refine Ew_of (pc' := 361) (fun _ => x_iconst rfl) ?_
  refine w_iadd rfl ?_
  refine w_scr hc rfl (by omega) (by omega) ?_
  refine Ew_of (pc' := 364) (fun _ => x_aload_n rfl l0) ?_
  refine Ew_of (pc' := 365) (fun _ => x_iload_n rfl l3) ?_
  refine Ew_of (pc' := 366) (fun _ => x_iconst rfl) ?_
  refine w_iadd rfl ?_
  refine w_scr hc rfl (by omega) (by omega) ?_
  refine Ew_of (pc' := 369) (fun _ => x_aload_n rfl l0) ?_
  refine Ew_of (pc' := 370) (fun _ => x_iload_n rfl l3) ?_
  refine Ew_of (pc' := 371) (fun _ => x_iconst rfl) ?_
  refine w_iadd rfl ?_
  refine w_scr hc rfl (by omega) (by omega) ?_
  refine w_callk rfl (fun rec => rinvv rfl rfl (X.1.obj 0 (by decide +kernel) (show g 0 = true from X.2.2.1) rfl) rec) rfl (T_join (d := d + 11) X (hx _) (hx _) (hx _) (hx _) (fun z σ1 D1 N1 F1 A1 c1 s1 X1 S1 zr => ⟨(rretB rfl zr), ?_⟩))
  have Y1 := CL_ref Y hs S1.1
  have hc1 := CL_scr X.1 hc S1.1
  have E1 : EQS (A1 10) (A2 12) := by rw [S1.2]; exact hE
  refine Ew_of (pc' := 377) (fun _ => x_pop rfl rfl) ?_
  refine Ew_of (pc' := 378) (fun _ => x_aload_n rfl l2) ?_
  refine Ew_of (pc' := 379) (fun _ => x_aload_n rfl l0) ?_
  refine Ew_of (pc' := 380) (fun _ => x_iload_n rfl l3) ?_
  refine Ew_of (pc' := 381) (fun _ => x_iconst rfl) ?_
  refine w_iadd rfl ?_
  refine w_scr hc1 rfl (by omega) (by omega) ?_
  refine Ew_of (pc' := 384) (fun _ => x_aload_n rfl l0) ?_
  refine Ew_of (pc' := 385) (fun _ => x_iload_n rfl l3) ?_
  refine Ew_of (pc' := 386) (fun _ => x_iconst rfl) ?_
  refine w_iadd rfl ?_
  refine w_scr hc1 rfl (by omega) (by omega) ?_
  refine Ew_of (pc' := 389) (fun _ => x_aload_n rfl l0) ?_
  refine Ew_of (pc' := 390) (fun _ => x_iload_n rfl l3) ?_
  refine Ew_of (pc' := 391) (fun _ => x_iconst rfl) ?_
  refine w_iadd rfl ?_
  refine w_scr hc1 rfl (by omega) (by omega) ?_
  refine Ew_of (pc' := 394) (fun _ => x_aload_n rfl l0) ?_
  refine Ew_of (pc' := 395) (fun _ => x_iload_n rfl l3) ?_
  refine Ew_of (pc' := 396) (fun _ => x_iconst rfl) ?_
  refine w_iadd rfl ?_
  refine w_scr hc1 rfl (by omega) (by omega) ?_
  refine w_callk rfl (fun rec => rinvv rfl rfl (Y1.1.1.obj 0 (Y1.1.1.perm 0 rfl) rfl) rec) rfl (RS_join (d := d + 12) Y1.1 (hx _) (hx _) (hx _) (hx _) (fun z2 σ2 F3 A3 Y2 T2 t12 zr2 => ⟨(rretB rfl zr2), ?_⟩))
  have X2 := RF_cls X1 Y1.1.1 Y1.2 T2
  have hc2 := RF_scr Y1.1.1 hc1 T2
  have E2 : EQS (A1 10) (A3 12) := by rw [t12]; exact E1
  refine Ew_of (pc' := 402) (fun _ => x_pop rfl rfl) ?_
  refine Ew_of (pc' := 1065) (fun _ => x_goto rfl rfl) ?_
  exact k g σ2 D1 N1 F1 A1 F3 A3 _ _ X2 Y2 Y1.2 hc2 S1.1.2.1 (RMG_of S1.1) E2
set_option maxHeartbeats 4000000 in
theorem LC_5 {g : Nat → Bool} {σ : rS} {D N D2 N2 : Nat → Nat} {F F2 : hF} {A A2 : hA} {d c s L : Nat} {xs : Nat → Int} {Q : wQ} (X : PHI g σ D N F A) (Y : RHI σ D2 N2 F2 A2) (hs : SEP g D D2) (hc : SCR σ L xs) (hE : EQS (A 10) (A2 12)) (hx : ∀ j, inr (xs j)) (hL : L ≤ 1000000) {i : Int} (hi : 0 ≤ i ∧ i + 6 ≤ L) {ls : rO} (l0 : rlook ls 0 = some (.ref 11)) (l1 : rlook ls 1 = some (.ref (D 0))) (l2 : rlook ls 2 = some (.ref (D2 0))) (l3 : rlook ls 3 = some (I i)) (k : ∀ (g' : Nat → Bool) (σ' : rS) (D' N' : Nat → Nat) (F' : hF) (A' : hA) (F2' : hF) (A2' : hA) (c' s' : Nat), PHI g' σ' D' N' F' A' → RHI σ' D2 N2 F2' A2' → SEP g' D' D2 → SCR σ' L xs → D' 0 = D 0 → RMG g N c s g' N' c' s' → EQS (A' 10) (A2' 12) → Ew 455 (d + 14) 1065 ls [] σ' c' s' Q) : Ew 455 (d + 14) 405 ls [] σ c s Q := by
  refine Ew_of (pc' := 406) (fun _ => x_aload_n rfl l1) ?_
  refine Ew_of (pc' := 407) (fun _ => x_aload_n rfl l0) ?_
  refine Ew_of (pc' := 408) (fun _ => x_iload_n rfl l3) ?_
  refine Ew_of (pc' := 409) (fun _ => x_iconst rfl) ?_
  refine w_iadd rfl ?_
  refine w_scr hc rfl (by omega) (by omega) ?_
  refine w_callk rfl (fun rec => rinvv rfl rfl (X.1.obj 0 (by decide +kernel) (show g 0 = true from X.2.2.1) rfl) rec) rfl (T_size (d := d + 12) X (hx _) (fun z σ1 D1 N1 F1 A1 c1 s1 X1 S1 zr => ⟨rfl, ?_⟩))
  have Y1 := CL_ref Y hs S1.1
  have hc1 := CL_scr X.1 hc S1.1
  have E1 : EQS (A1 10) (A2 12) := by rw [S1.2]; exact hE
  refine Ew_of (pc' := 415) (fun _ => x_pop rfl rfl) ?_
  refine Ew_of (pc' := 416) (fun _ => x_aload_n rfl l2) ?_
  refine Ew_of (pc' := 417) (fun _ => x_aload_n rfl l0) ?_
  refine Ew_of (pc' := 418) (fun _ => x_iload_n rfl l3) ?_
  refine Ew_of (pc' := 419) (fun _ => x_iconst rfl) ?_
  refine w_iadd rfl ?_
  refine w_scr hc1 rfl (by omega) (by omega) ?_
  refine w_callk rfl (fun rec => rinvv rfl rfl (Y1.1.1.obj 0 (Y1.1.1.perm 0 rfl) rfl) rec) rfl (RS_size (d := d + 12) Y1.1 (hx _) (fun z2 σ2 F3 A3 Y2 T2 t12 zr2 => ⟨rfl, ?_⟩))
  have X2 := RF_cls X1 Y1.1.1 Y1.2 T2
  have hc2 := RF_scr Y1.1.1 hc1 T2
  have E2 : EQS (A1 10) (A3 12) := by rw [t12]; exact E1
  refine Ew_of (pc' := 425) (fun _ => x_pop rfl rfl) ?_
  refine Ew_of (pc' := 1065) (fun _ => x_goto rfl rfl) ?_
  exact k g σ2 D1 N1 F1 A1 F3 A3 _ _ X2 Y2 Y1.2 hc2 S1.1.2.1 (RMG_of S1.1) E2
set_option maxHeartbeats 4000000 in
theorem LC_6 {g : Nat → Bool} {σ : rS} {D N D2 N2 : Nat → Nat} {F F2 : hF} {A A2 : hA} {d c s L : Nat} {xs : Nat → Int} {Q : wQ} (X : PHI g σ D N F A) (Y : RHI σ D2 N2 F2 A2) (hs : SEP g D D2) (hc : SCR σ L xs) (hE : EQS (A 10) (A2 12)) (hx : ∀ j, inr (xs j)) (hL : L ≤ 1000000) {i : Int} (hi : 0 ≤ i ∧ i + 6 ≤ L) {ls : rO} (l0 : rlook ls 0 = some (.ref 11)) (l1 : rlook ls 1 = some (.ref (D 0))) (l2 : rlook ls 2 = some (.ref (D2 0))) (l3 : rlook ls 3 = some (I i)) (k : ∀ (g' : Nat → Bool) (σ' : rS) (D' N' : Nat → Nat) (F' : hF) (A' : hA) (F2' : hF) (A2' : hA) (c' s' : Nat), PHI g' σ' D' N' F' A' → RHI σ' D2 N2 F2' A2' → SEP g' D' D2 → SCR σ' L xs → D' 0 = D 0 → RMG g N c s g' N' c' s' → EQS (A' 10) (A2' 12) → Ew 455 (d + 14) 1065 ls [] σ' c' s' Q) : Ew 455 (d + 14) 428 ls [] σ c s Q := by
  refine Ew_of (pc' := 429) (fun _ => x_aload_n rfl l1) ?_
  refine Ew_of (pc' := 430) (fun _ => x_aload_n rfl l0) ?_
  refine Ew_of (pc' := 431) (fun _ => x_iload_n rfl l3) ?_
  refine Ew_of (pc' := 432) (fun _ => x_iconst rfl) ?_
  refine w_iadd rfl ?_
  refine w_scr hc rfl (by omega) (by omega) ?_
  refine Ew_of (pc' := 435) (fun _ => x_aload_n rfl l0) ?_
  refine Ew_of (pc' := 436) (fun _ => x_iload_n rfl l3) ?_
  refine Ew_of (pc' := 437) (fun _ => x_iconst rfl) ?_
  refine w_iadd rfl ?_
  refine w_scr hc rfl (by omega) (by omega) ?_
  refine w_callk rfl (fun rec => rinvv rfl rfl (X.1.obj 0 (by decide +kernel) (show g 0 = true from X.2.2.1) rfl) rec) rfl (T_byteAt (d := d + 12) X (hx _) (hx _) (fun z σ1 D1 N1 F1 A1 c1 s1 X1 S1 zr => ⟨rfl, ?_⟩))
  have Y1 := CL_ref Y hs S1.1
  have hc1 := CL_scr X.1 hc S1.1
  have E1 : EQS (A1 10) (A2 12) := by rw [S1.2]; exact hE
  refine Ew_of (pc' := 443) (fun _ => x_pop rfl rfl) ?_
  refine Ew_of (pc' := 444) (fun _ => x_aload_n rfl l2) ?_
  refine Ew_of (pc' := 445) (fun _ => x_aload_n rfl l0) ?_
  refine Ew_of (pc' := 446) (fun _ => x_iload_n rfl l3) ?_
  refine Ew_of (pc' := 447) (fun _ => x_iconst rfl) ?_
  refine w_iadd rfl ?_
  refine w_scr hc1 rfl (by omega) (by omega) ?_
  refine Ew_of (pc' := 450) (fun _ => x_aload_n rfl l0) ?_
  refine Ew_of (pc' := 451) (fun _ => x_iload_n rfl l3) ?_
  refine Ew_of (pc' := 452) (fun _ => x_iconst rfl) ?_
  refine w_iadd rfl ?_
  refine w_scr hc1 rfl (by omega) (by omega) ?_
  refine w_callk rfl (fun rec => rinvv rfl rfl (Y1.1.1.obj 0 (Y1.1.1.perm 0 rfl) rfl) rec) rfl (RS_byteAt (d := d + 12) Y1.1 (hx _) (hx _) (fun z2 σ2 F3 A3 Y2 T2 t12 zr2 => ⟨rfl, ?_⟩))
  have X2 := RF_cls X1 Y1.1.1 Y1.2 T2
  have hc2 := RF_scr Y1.1.1 hc1 T2
  have E2 : EQS (A1 10) (A3 12) := by rw [t12]; exact E1
  refine Ew_of (pc' := 458) (fun _ => x_pop rfl rfl) ?_
  refine Ew_of (pc' := 1065) (fun _ => x_goto rfl rfl) ?_
  exact k g σ2 D1 N1 F1 A1 F3 A3 _ _ X2 Y2 Y1.2 hc2 S1.1.2.1 (RMG_of S1.1) E2
set_option maxHeartbeats 4000000 in
theorem LC_7 {g : Nat → Bool} {σ : rS} {D N D2 N2 : Nat → Nat} {F F2 : hF} {A A2 : hA} {d c s L : Nat} {xs : Nat → Int} {Q : wQ} (X : PHI g σ D N F A) (Y : RHI σ D2 N2 F2 A2) (hs : SEP g D D2) (hc : SCR σ L xs) (hE : EQS (A 10) (A2 12)) (hx : ∀ j, inr (xs j)) (hL : L ≤ 1000000) {i : Int} (hi : 0 ≤ i ∧ i + 6 ≤ L) {ls : rO} (l0 : rlook ls 0 = some (.ref 11)) (l1 : rlook ls 1 = some (.ref (D 0))) (l2 : rlook ls 2 = some (.ref (D2 0))) (l3 : rlook ls 3 = some (I i)) (k : ∀ (g' : Nat → Bool) (σ' : rS) (D' N' : Nat → Nat) (F' : hF) (A' : hA) (F2' : hF) (A2' : hA) (c' s' : Nat), PHI g' σ' D' N' F' A' → RHI σ' D2 N2 F2' A2' → SEP g' D' D2 → SCR σ' L xs → D' 0 = D 0 → RMG g N c s g' N' c' s' → EQS (A' 10) (A2' 12) → Ew 455 (d + 14) 1065 ls [] σ' c' s' Q) : Ew 455 (d + 14) 461 ls [] σ c s Q := by
  refine Ew_of (pc' := 462) (fun _ => x_aload_n rfl l1) ?_
  refine Ew_of (pc' := 463) (fun _ => x_aload_n rfl l0) ?_
  refine Ew_of (pc' := 464) (fun _ => x_iload_n rfl l3) ?_
  refine Ew_of (pc' := 465) (fun _ => x_iconst rfl) ?_
  refine w_iadd rfl ?_
  refine w_scr hc rfl (by omega) (by omega) ?_
  refine Ew_of (pc' := 468) (fun _ => x_aload_n rfl l0) ?_
  refine Ew_of (pc' := 469) (fun _ => x_iload_n rfl l3) ?_
  refine Ew_of (pc' := 470) (fun _ => x_iconst rfl) ?_
  refine w_iadd rfl ?_
  refine w_scr hc rfl (by omega) (by omega) ?_
  refine w_callk rfl (fun rec => rinvv rfl rfl (X.1.obj 0 (by decide +kernel) (show g 0 = true from X.2.2.1) rfl) rec) rfl (T_differ (d := d + 12) X (hx _) (hx _) (fun z σ1 D1 N1 F1 A1 c1 s1 X1 S1 zr => ⟨rfl, ?_⟩))
  have Y1 := CL_ref Y hs S1.1
  have hc1 := CL_scr X.1 hc S1.1
  have E1 : EQS (A1 10) (A2 12) := by rw [S1.2]; exact hE
  refine Ew_of (pc' := 476) (fun _ => x_pop rfl rfl) ?_
  refine Ew_of (pc' := 477) (fun _ => x_aload_n rfl l2) ?_
  refine Ew_of (pc' := 478) (fun _ => x_aload_n rfl l0) ?_
  refine Ew_of (pc' := 479) (fun _ => x_iload_n rfl l3) ?_
  refine Ew_of (pc' := 480) (fun _ => x_iconst rfl) ?_
  refine w_iadd rfl ?_
  refine w_scr hc1 rfl (by omega) (by omega) ?_
  refine Ew_of (pc' := 483) (fun _ => x_aload_n rfl l0) ?_
  refine Ew_of (pc' := 484) (fun _ => x_iload_n rfl l3) ?_
  refine Ew_of (pc' := 485) (fun _ => x_iconst rfl) ?_
  refine w_iadd rfl ?_
  refine w_scr hc1 rfl (by omega) (by omega) ?_
  refine w_callk rfl (fun rec => rinvv rfl rfl (Y1.1.1.obj 0 (Y1.1.1.perm 0 rfl) rfl) rec) rfl (RS_differ (d := d + 12) Y1.1 (hx _) (hx _) (fun z2 σ2 F3 A3 Y2 T2 t12 zr2 => ⟨rfl, ?_⟩))
  have X2 := RF_cls X1 Y1.1.1 Y1.2 T2
  have hc2 := RF_scr Y1.1.1 hc1 T2
  have E2 : EQS (A1 10) (A3 12) := by rw [t12]; exact E1
  refine Ew_of (pc' := 491) (fun _ => x_pop rfl rfl) ?_
  refine Ew_of (pc' := 1065) (fun _ => x_goto rfl rfl) ?_
  exact k g σ2 D1 N1 F1 A1 F3 A3 _ _ X2 Y2 Y1.2 hc2 S1.1.2.1 (RMG_of S1.1) E2
set_option maxHeartbeats 4000000 in
theorem LC_8 {g : Nat → Bool} {σ : rS} {D N D2 N2 : Nat → Nat} {F F2 : hF} {A A2 : hA} {d c s L : Nat} {xs : Nat → Int} {Q : wQ} (X : PHI g σ D N F A) (Y : RHI σ D2 N2 F2 A2) (hs : SEP g D D2) (hc : SCR σ L xs) (hE : EQS (A 10) (A2 12)) (hx : ∀ j, inr (xs j)) (hL : L ≤ 1000000) {i : Int} (hi : 0 ≤ i ∧ i + 6 ≤ L) {ls : rO} (l0 : rlook ls 0 = some (.ref 11)) (l1 : rlook ls 1 = some (.ref (D 0))) (l2 : rlook ls 2 = some (.ref (D2 0))) (l3 : rlook ls 3 = some (I i)) (k : ∀ (g' : Nat → Bool) (σ' : rS) (D' N' : Nat → Nat) (F' : hF) (A' : hA) (F2' : hF) (A2' : hA) (c' s' : Nat), PHI g' σ' D' N' F' A' → RHI σ' D2 N2 F2' A2' → SEP g' D' D2 → SCR σ' L xs → D' 0 = D 0 → RMG g N c s g' N' c' s' → EQS (A' 10) (A2' 12) → Ew 455 (d + 14) 1065 ls [] σ' c' s' Q) : Ew 455 (d + 14) 494 ls [] σ c s Q := by
  refine Ew_of (pc' := 495) (fun _ => x_aload_n rfl l1) ?_
  refine Ew_of (pc' := 496) (fun _ => x_aload_n rfl l0) ?_
  refine Ew_of (pc' := 497) (fun _ => x_iload_n rfl l3) ?_
  refine Ew_of (pc' := 498) (fun _ => x_iconst rfl) ?_
  refine w_iadd rfl ?_
  refine w_scr hc rfl (by omega) (by omega) ?_
  refine Ew_of (pc' := 501) (fun _ => x_aload_n rfl l0) ?_
  refine Ew_of (pc' := 502) (fun _ => x_iload_n rfl l3) ?_
  refine Ew_of (pc' := 503) (fun _ => x_iconst rfl) ?_
  refine w_iadd rfl ?_
  refine w_scr hc rfl (by omega) (by omega) ?_
  refine w_callk rfl (fun rec => rinvv rfl rfl (X.1.obj 0 (by decide +kernel) (show g 0 = true from X.2.2.1) rfl) rec) rfl (T_set (d := d + 11) X (hx _) (hx _) (fun z σ1 D1 N1 F1 A1 c1 s1 X1 S1 zr px0 px1 => ⟨(rretB rfl zr), ?_⟩))
  have Y1 := CL_ref Y hs S1
  have hc1 := CL_scr X.1 hc S1
  refine Ew_of (pc' := 509) (fun _ => x_aload_n rfl l2) ?_
  refine Ew_of (pc' := 510) (fun _ => x_aload_n rfl l0) ?_
  refine Ew_of (pc' := 511) (fun _ => x_iload_n rfl l3) ?_
  refine Ew_of (pc' := 512) (fun _ => x_iconst rfl) ?_
  refine w_iadd rfl ?_
  refine w_scr hc1 rfl (by omega) (by omega) ?_
  refine Ew_of (pc' := 515) (fun _ => x_aload_n rfl l0) ?_
  refine Ew_of (pc' := 516) (fun _ => x_iload_n rfl l3) ?_
  refine Ew_of (pc' := 517) (fun _ => x_iconst rfl) ?_
  refine w_iadd rfl ?_
  refine w_scr hc1 rfl (by omega) (by omega) ?_
  refine w_callk rfl (fun rec => rinvv rfl rfl (Y1.1.1.obj 0 (Y1.1.1.perm 0 rfl) rfl) rec) rfl (RS_set (d := d + 11) Y1.1 (hx _) (hx _) (fun z2 σ2 F3 A3 Y2 T2 zr2 py0 py1 => ⟨(rretB rfl zr2), ?_⟩))
  have X2 := RF_cls X1 Y1.1.1 Y1.2 T2
  have hc2 := RF_scr Y1.1.1 hc1 T2
  have he : z = z2 := by have := aref (v := xs (i + 2).toNat) (hx _); omega
  subst he
  have E2 : EQS (A1 10) (A3 12) := EQS_upd hE px1 py1
  refine w_icmpeq (t := 1065) rfl rfl (show inr z by omega) (show inr z by omega) (fun _ => ?_) (fun q => absurd rfl q)
  exact k g σ2 D1 N1 F1 A1 F3 A3 _ _ X2 Y2 Y1.2 hc2 S1.2.1 (RMG_of S1) E2
set_option maxHeartbeats 4000000 in
theorem LC_9 {g : Nat → Bool} {σ : rS} {D N D2 N2 : Nat → Nat} {F F2 : hF} {A A2 : hA} {d c s L : Nat} {xs : Nat → Int} {Q : wQ} (X : PHI g σ D N F A) (Y : RHI σ D2 N2 F2 A2) (hs : SEP g D D2) (hc : SCR σ L xs) (hE : EQS (A 10) (A2 12)) (hx : ∀ j, inr (xs j)) (hL : L ≤ 1000000) {i : Int} (hi : 0 ≤ i ∧ i + 6 ≤ L) {ls : rO} (l0 : rlook ls 0 = some (.ref 11)) (l1 : rlook ls 1 = some (.ref (D 0))) (l2 : rlook ls 2 = some (.ref (D2 0))) (l3 : rlook ls 3 = some (I i)) (k : ∀ (g' : Nat → Bool) (σ' : rS) (D' N' : Nat → Nat) (F' : hF) (A' : hA) (F2' : hF) (A2' : hA) (c' s' : Nat), PHI g' σ' D' N' F' A' → RHI σ' D2 N2 F2' A2' → SEP g' D' D2 → SCR σ' L xs → D' 0 = D 0 → RMG g N c s g' N' c' s' → EQS (A' 10) (A2' 12) → Ew 455 (d + 14) 1065 ls [] σ' c' s' Q) : Ew 455 (d + 14) 527 ls [] σ c s Q := by
  refine Ew_of (pc' := 528) (fun _ => x_aload_n rfl l1) ?_
  refine Ew_of (pc' := 529) (fun _ => x_aload_n rfl l0) ?_
  refine Ew_of (pc' := 530) (fun _ => x_iload_n rfl l3) ?_
  refine Ew_of (pc' := 531) (fun _ => x_iconst rfl) ?_
  refine w_iadd rfl ?_
  refine w_scr hc rfl (by omega) (by omega) ?_
  refine w_callk rfl (fun rec => rinvv rfl rfl (X.1.obj 0 (by decide +kernel) (show g 0 = true from X.2.2.1) rfl) rec) rfl (T_get (d := d + 12) X (hx _) (fun z σ1 D1 N1 F1 A1 c1 s1 X1 S1 zr px0 => ⟨rfl, ?_⟩))
  have Y1 := CL_ref Y hs S1.1
  have hc1 := CL_scr X.1 hc S1.1
  have E1 : EQS (A1 10) (A2 12) := by rw [S1.2]; exact hE
  refine Ew_of (pc' := 537) (fun _ => x_pop rfl rfl) ?_
  refine Ew_of (pc' := 538) (fun _ => x_aload_n rfl l2) ?_
  refine Ew_of (pc' := 539) (fun _ => x_aload_n rfl l0) ?_
  refine Ew_of (pc' := 540) (fun _ => x_iload_n rfl l3) ?_
  refine Ew_of (pc' := 541) (fun _ => x_iconst rfl) ?_
  refine w_iadd rfl ?_
  refine w_scr hc1 rfl (by omega) (by omega) ?_
  refine w_callk rfl (fun rec => rinvv rfl rfl (Y1.1.1.obj 0 (Y1.1.1.perm 0 rfl) rfl) rec) rfl (RS_get (d := d + 12) Y1.1 (hx _) (fun z2 σ2 F3 A3 Y2 T2 t12 zr2 py0 => ⟨rfl, ?_⟩))
  have X2 := RF_cls X1 Y1.1.1 Y1.2 T2
  have hc2 := RF_scr Y1.1.1 hc1 T2
  have E2 : EQS (A1 10) (A3 12) := by rw [t12]; exact E1
  refine Ew_of (pc' := 547) (fun _ => x_pop rfl rfl) ?_
  refine Ew_of (pc' := 1065) (fun _ => x_goto rfl rfl) ?_
  exact k g σ2 D1 N1 F1 A1 F3 A3 _ _ X2 Y2 Y1.2 hc2 S1.1.2.1 (RMG_of S1.1) E2
set_option maxHeartbeats 4000000 in
theorem LC_10 {g : Nat → Bool} {σ : rS} {D N D2 N2 : Nat → Nat} {F F2 : hF} {A A2 : hA} {d c s L : Nat} {xs : Nat → Int} {Q : wQ} (X : PHI g σ D N F A) (Y : RHI σ D2 N2 F2 A2) (hs : SEP g D D2) (hc : SCR σ L xs) (hE : EQS (A 10) (A2 12)) (hx : ∀ j, inr (xs j)) (hL : L ≤ 1000000) {i : Int} (hi : 0 ≤ i ∧ i + 6 ≤ L) {ls : rO} (l0 : rlook ls 0 = some (.ref 11)) (l1 : rlook ls 1 = some (.ref (D 0))) (l2 : rlook ls 2 = some (.ref (D2 0))) (l3 : rlook ls 3 = some (I i)) (k : ∀ (g' : Nat → Bool) (σ' : rS) (D' N' : Nat → Nat) (F' : hF) (A' : hA) (F2' : hF) (A2' : hA) (c' s' : Nat), PHI g' σ' D' N' F' A' → RHI σ' D2 N2 F2' A2' → SEP g' D' D2 → SCR σ' L xs → D' 0 = D 0 → RMG g N c s g' N' c' s' → EQS (A' 10) (A2' 12) → Ew 455 (d + 14) 1065 ls [] σ' c' s' Q) : Ew 455 (d + 14) 550 ls [] σ c s Q := by
  refine Ew_of (pc' := 551) (fun _ => x_aload_n rfl l1) ?_
  refine Ew_of (pc' := 552) (fun _ => x_aload_n rfl l0) ?_
  refine Ew_of (pc' := 553) (fun _ => x_iload_n rfl l3) ?_
  refine Ew_of (pc' := 554) (fun _ => x_iconst rfl) ?_
  refine w_iadd rfl ?_
  refine w_scr hc rfl (by omega) (by omega) ?_
  refine Ew_of (pc' := 557) (fun _ => x_aload_n rfl l0) ?_
  refine Ew_of (pc' := 558) (fun _ => x_iload_n rfl l3) ?_
  refine Ew_of (pc' := 559) (fun _ => x_iconst rfl) ?_
  refine w_iadd rfl ?_
  refine w_scr hc rfl (by omega) (by omega) ?_
  refine Ew_of (pc' := 562) (fun _ => x_aload_n rfl l0) ?_
  refine Ew_of (pc' := 563) (fun _ => x_iload_n rfl l3) ?_
  refine Ew_of (pc' := 564) (fun _ => x_iconst rfl) ?_
  refine w_iadd rfl ?_
  refine w_scr hc rfl (by omega) (by omega) ?_
  refine Ew_of (pc' := 567) (fun _ => x_aload_n rfl l0) ?_
  refine Ew_of (pc' := 568) (fun _ => x_iload_n rfl l3) ?_
  refine Ew_of (pc' := 569) (fun _ => x_iconst rfl) ?_
  refine w_iadd rfl ?_
  refine w_scr hc rfl (by omega) (by omega) ?_
  refine w_callk rfl (fun rec => rinvv rfl rfl (X.1.obj 0 (by decide +kernel) (show g 0 = true from X.2.2.1) rfl) rec) rfl (T_narrow (d := d + 10) X (hx _) (hx _) (hx _) (hx _) (fun z σ1 D1 N1 F1 A1 c1 s1 X1 S1 zr => ⟨rfl, ?_⟩))
  have Y1 := CL_ref Y hs S1.1
  have hc1 := CL_scr X.1 hc S1.1
  have E1 : EQS (A1 10) (A2 12) := by rw [S1.2]; exact hE
  refine Ew_of (pc' := 575) (fun _ => x_pop rfl rfl) ?_
  refine Ew_of (pc' := 576) (fun _ => x_aload_n rfl l2) ?_
  refine Ew_of (pc' := 577) (fun _ => x_aload_n rfl l0) ?_
  refine Ew_of (pc' := 578) (fun _ => x_iload_n rfl l3) ?_
  refine Ew_of (pc' := 579) (fun _ => x_iconst rfl) ?_
  refine w_iadd rfl ?_
  refine w_scr hc1 rfl (by omega) (by omega) ?_
  refine Ew_of (pc' := 582) (fun _ => x_aload_n rfl l0) ?_
  refine Ew_of (pc' := 583) (fun _ => x_iload_n rfl l3) ?_
  refine Ew_of (pc' := 584) (fun _ => x_iconst rfl) ?_
  refine w_iadd rfl ?_
  refine w_scr hc1 rfl (by omega) (by omega) ?_
  refine Ew_of (pc' := 587) (fun _ => x_aload_n rfl l0) ?_
  refine Ew_of (pc' := 588) (fun _ => x_iload_n rfl l3) ?_
  refine Ew_of (pc' := 589) (fun _ => x_iconst rfl) ?_
  refine w_iadd rfl ?_
  refine w_scr hc1 rfl (by omega) (by omega) ?_
  refine Ew_of (pc' := 592) (fun _ => x_aload_n rfl l0) ?_
  refine Ew_of (pc' := 593) (fun _ => x_iload_n rfl l3) ?_
  refine Ew_of (pc' := 594) (fun _ => x_iconst rfl) ?_
  refine w_iadd rfl ?_
  refine w_scr hc1 rfl (by omega) (by omega) ?_
  refine w_callk rfl (fun rec => rinvv rfl rfl (Y1.1.1.obj 0 (Y1.1.1.perm 0 rfl) rfl) rec) rfl (RS_narrow (d := d + 9) Y1.1 (hx _) (hx _) (hx _) (hx _) (fun z2 σ2 F3 A3 Y2 T2 t12 zr2 => ⟨rfl, ?_⟩))
  have X2 := RF_cls X1 Y1.1.1 Y1.2 T2
  have hc2 := RF_scr Y1.1.1 hc1 T2
  have E2 : EQS (A1 10) (A3 12) := by rw [t12]; exact E1
  refine Ew_of (pc' := 600) (fun _ => x_pop rfl rfl) ?_
  refine Ew_of (pc' := 1065) (fun _ => x_goto rfl rfl) ?_
  exact k g σ2 D1 N1 F1 A1 F3 A3 _ _ X2 Y2 Y1.2 hc2 S1.1.2.1 (RMG_of S1.1) E2
set_option maxHeartbeats 4000000 in
theorem LC_11 {g : Nat → Bool} {σ : rS} {D N D2 N2 : Nat → Nat} {F F2 : hF} {A A2 : hA} {d c s L : Nat} {xs : Nat → Int} {Q : wQ} (X : PHI g σ D N F A) (Y : RHI σ D2 N2 F2 A2) (hs : SEP g D D2) (hc : SCR σ L xs) (hE : EQS (A 10) (A2 12)) (hx : ∀ j, inr (xs j)) (hL : L ≤ 1000000) {i : Int} (hi : 0 ≤ i ∧ i + 6 ≤ L) {ls : rO} (l0 : rlook ls 0 = some (.ref 11)) (l1 : rlook ls 1 = some (.ref (D 0))) (l2 : rlook ls 2 = some (.ref (D2 0))) (l3 : rlook ls 3 = some (I i)) (k : ∀ (g' : Nat → Bool) (σ' : rS) (D' N' : Nat → Nat) (F' : hF) (A' : hA) (F2' : hF) (A2' : hA) (c' s' : Nat), PHI g' σ' D' N' F' A' → RHI σ' D2 N2 F2' A2' → SEP g' D' D2 → SCR σ' L xs → D' 0 = D 0 → RMG g N c s g' N' c' s' → EQS (A' 10) (A2' 12) → Ew 455 (d + 14) 1065 ls [] σ' c' s' Q) : Ew 455 (d + 14) 603 ls [] σ c s Q := by
  refine Ew_of (pc' := 604) (fun _ => x_aload_n rfl l1) ?_
  refine Ew_of (pc' := 605) (fun _ => x_aload_n rfl l0) ?_
  refine Ew_of (pc' := 606) (fun _ => x_iload_n rfl l3) ?_
  refine Ew_of (pc' := 607) (fun _ => x_iconst rfl) ?_
  refine w_iadd rfl ?_
  refine w_scr hc rfl (by omega) (by omega) ?_
  refine Ew_of (pc' := 610) (fun _ => x_aload_n rfl l0) ?_
  refine Ew_of (pc' := 611) (fun _ => x_iload_n rfl l3) ?_
  refine Ew_of (pc' := 612) (fun _ => x_iconst rfl) ?_
  refine w_iadd rfl ?_
  refine w_scr hc rfl (by omega) (by omega) ?_
  refine Ew_of (pc' := 615) (fun _ => x_aload_n rfl l0) ?_
  refine Ew_of (pc' := 616) (fun _ => x_iload_n rfl l3) ?_
  refine Ew_of (pc' := 617) (fun _ => x_iconst rfl) ?_
  refine w_iadd rfl ?_
  refine w_scr hc rfl (by omega) (by omega) ?_
  refine Ew_of (pc' := 620) (fun _ => x_aload_n rfl l0) ?_
  refine Ew_of (pc' := 621) (fun _ => x_iload_n rfl l3) ?_
  refine Ew_of (pc' := 622) (fun _ => x_iconst rfl) ?_
  refine w_iadd rfl ?_
  refine w_scr hc rfl (by omega) (by omega) ?_
  refine w_i2l rfl (hx _) ?_
  refine Ew_of (pc' := 627) (fun _ => x_bipush rfl (z := 32) (by decide)) ?_
  refine w_lshlZ rfl ?_
  refine Ew_of (pc' := 629) (fun _ => x_aload_n rfl l0) ?_
  refine Ew_of (pc' := 630) (fun _ => x_iload_n rfl l3) ?_
  refine Ew_of (pc' := 631) (fun _ => x_iconst rfl) ?_
  refine w_iadd rfl ?_
  refine w_scr hc rfl (by omega) (by omega) ?_
  refine w_i2l rfl (hx _) ?_
  refine Ew_of (pc' := 637) (fun _ => x_ldc2 rfl (z := 4294967295) (by decide)) ?_
  refine w_landZ rfl ?_
  refine w_lorZ rfl ?_
  refine w_callk rfl (fun rec => rinvv rfl rfl (X.1.obj 0 (by decide +kernel) (show g 0 = true from X.2.2.1) rfl) rec) rfl (T_wide (d := d + 9) X (hx _) (hx _) (hx _) (zrng _ _) (fun z σ1 D1 N1 F1 A1 c1 s1 X1 S1 zr => ⟨rfl, ?_⟩))
  have Y1 := CL_ref Y hs S1.1
  have hc1 := CL_scr X.1 hc S1.1
  have E1 : EQS (A1 10) (A2 12) := by rw [S1.2]; exact hE
  refine Ew_of (pc' := 643) (fun _ => x_pop2 rfl) ?_
  refine Ew_of (pc' := 644) (fun _ => x_aload_n rfl l2) ?_
  refine Ew_of (pc' := 645) (fun _ => x_aload_n rfl l0) ?_
  refine Ew_of (pc' := 646) (fun _ => x_iload_n rfl l3) ?_
  refine Ew_of (pc' := 647) (fun _ => x_iconst rfl) ?_
  refine w_iadd rfl ?_
  refine w_scr hc1 rfl (by omega) (by omega) ?_
  refine Ew_of (pc' := 650) (fun _ => x_aload_n rfl l0) ?_
  refine Ew_of (pc' := 651) (fun _ => x_iload_n rfl l3) ?_
  refine Ew_of (pc' := 652) (fun _ => x_iconst rfl) ?_
  refine w_iadd rfl ?_
  refine w_scr hc1 rfl (by omega) (by omega) ?_
  refine Ew_of (pc' := 655) (fun _ => x_aload_n rfl l0) ?_
  refine Ew_of (pc' := 656) (fun _ => x_iload_n rfl l3) ?_
  refine Ew_of (pc' := 657) (fun _ => x_iconst rfl) ?_
  refine w_iadd rfl ?_
  refine w_scr hc1 rfl (by omega) (by omega) ?_
  refine Ew_of (pc' := 660) (fun _ => x_aload_n rfl l0) ?_
  refine Ew_of (pc' := 661) (fun _ => x_iload_n rfl l3) ?_
  refine Ew_of (pc' := 662) (fun _ => x_iconst rfl) ?_
  refine w_iadd rfl ?_
  refine w_scr hc1 rfl (by omega) (by omega) ?_
  refine w_i2l rfl (hx _) ?_
  refine Ew_of (pc' := 667) (fun _ => x_bipush rfl (z := 32) (by decide)) ?_
  refine w_lshlZ rfl ?_
  refine Ew_of (pc' := 669) (fun _ => x_aload_n rfl l0) ?_
  refine Ew_of (pc' := 670) (fun _ => x_iload_n rfl l3) ?_
  refine Ew_of (pc' := 671) (fun _ => x_iconst rfl) ?_
  refine w_iadd rfl ?_
  refine w_scr hc1 rfl (by omega) (by omega) ?_
  refine w_i2l rfl (hx _) ?_
  refine Ew_of (pc' := 677) (fun _ => x_ldc2 rfl (z := 4294967295) (by decide)) ?_
  refine w_landZ rfl ?_
  refine w_lorZ rfl ?_
  refine w_callk rfl (fun rec => rinvv rfl rfl (Y1.1.1.obj 0 (Y1.1.1.perm 0 rfl) rfl) rec) rfl (RS_wide (d := d + 8) Y1.1 (hx _) (hx _) (hx _) (zrng _ _) (fun z2 σ2 F3 A3 Y2 T2 t12 zr2 => ⟨rfl, ?_⟩))
  have X2 := RF_cls X1 Y1.1.1 Y1.2 T2
  have hc2 := RF_scr Y1.1.1 hc1 T2
  have E2 : EQS (A1 10) (A3 12) := by rw [t12]; exact E1
  refine Ew_of (pc' := 683) (fun _ => x_pop2 rfl) ?_
  refine Ew_of (pc' := 1065) (fun _ => x_goto rfl rfl) ?_
  exact k g σ2 D1 N1 F1 A1 F3 A3 _ _ X2 Y2 Y1.2 hc2 S1.1.2.1 (RMG_of S1.1) E2
set_option maxHeartbeats 4000000 in
theorem LC_12 {g : Nat → Bool} {σ : rS} {D N D2 N2 : Nat → Nat} {F F2 : hF} {A A2 : hA} {d c s L : Nat} {xs : Nat → Int} {Q : wQ} (X : PHI g σ D N F A) (Y : RHI σ D2 N2 F2 A2) (hs : SEP g D D2) (hc : SCR σ L xs) (hE : EQS (A 10) (A2 12)) (hx : ∀ j, inr (xs j)) (hL : L ≤ 1000000) {i : Int} (hi : 0 ≤ i ∧ i + 6 ≤ L) {ls : rO} (l0 : rlook ls 0 = some (.ref 11)) (l1 : rlook ls 1 = some (.ref (D 0))) (l2 : rlook ls 2 = some (.ref (D2 0))) (l3 : rlook ls 3 = some (I i)) (k : ∀ (g' : Nat → Bool) (σ' : rS) (D' N' : Nat → Nat) (F' : hF) (A' : hA) (F2' : hF) (A2' : hA) (c' s' : Nat), PHI g' σ' D' N' F' A' → RHI σ' D2 N2 F2' A2' → SEP g' D' D2 → SCR σ' L xs → D' 0 = D 0 → RMG g N c s g' N' c' s' → EQS (A' 10) (A2' 12) → Ew 455 (d + 14) 1065 ls [] σ' c' s' Q) : Ew 455 (d + 14) 686 ls [] σ c s Q := by
  refine Ew_of (pc' := 687) (fun _ => x_aload_n rfl l1) ?_
  refine Ew_of (pc' := 688) (fun _ => x_aload_n rfl l0) ?_
  refine Ew_of (pc' := 689) (fun _ => x_iload_n rfl l3) ?_
  refine Ew_of (pc' := 690) (fun _ => x_iconst rfl) ?_
  refine w_iadd rfl ?_
  refine w_scr hc rfl (by omega) (by omega) ?_
  refine Ew_of (pc' := 693) (fun _ => x_aload_n rfl l0) ?_
  refine Ew_of (pc' := 694) (fun _ => x_iload_n rfl l3) ?_
  refine Ew_of (pc' := 695) (fun _ => x_iconst rfl) ?_
  refine w_iadd rfl ?_
  refine w_scr hc rfl (by omega) (by omega) ?_
  refine Ew_of (pc' := 698) (fun _ => x_aload_n rfl l0) ?_
  refine Ew_of (pc' := 699) (fun _ => x_iload_n rfl l3) ?_
  refine Ew_of (pc' := 700) (fun _ => x_iconst rfl) ?_
  refine w_iadd rfl ?_
  refine w_scr hc rfl (by omega) (by omega) ?_
  refine Ew_of (pc' := 703) (fun _ => x_aload_n rfl l0) ?_
  refine Ew_of (pc' := 704) (fun _ => x_iload_n rfl l3) ?_
  refine Ew_of (pc' := 705) (fun _ => x_iconst rfl) ?_
  refine w_iadd rfl ?_
  refine w_scr hc rfl (by omega) (by omega) ?_
  refine w_ifeq (t := 714) rfl rfl (hx _) (fun b1 => ?_) (fun b1 => ?_)
  · skip
    refine Ew_of (pc' := 715) (fun _ => x_iconst rfl) ?_
    refine w_callk rfl (fun rec => rinvv rfl rfl (X.1.obj 0 (by decide +kernel) (show g 0 = true from X.2.2.1) rfl) rec) rfl (T_poly (d := d + 11) X (hx _) (hx _) (hx _) (by omega) (by omega) (fun z σ1 D1 N1 F1 A1 c1 s1 X1 S1 zr => ⟨rfl, ?_⟩))
    have Y1 := CL_ref Y hs S1.1
    have hc1 := CL_scr X.1 hc S1.1
    have E1 : EQS (A1 10) (A2 12) := by rw [S1.2]; exact hE
    refine Ew_of (pc' := 719) (fun _ => x_pop rfl rfl) ?_
    refine Ew_of (pc' := 720) (fun _ => x_aload_n rfl l2) ?_
    refine Ew_of (pc' := 721) (fun _ => x_aload_n rfl l0) ?_
    refine Ew_of (pc' := 722) (fun _ => x_iload_n rfl l3) ?_
    refine Ew_of (pc' := 723) (fun _ => x_iconst rfl) ?_
    refine w_iadd rfl ?_
    refine w_scr hc1 rfl (by omega) (by omega) ?_
    refine Ew_of (pc' := 726) (fun _ => x_aload_n rfl l0) ?_
    refine Ew_of (pc' := 727) (fun _ => x_iload_n rfl l3) ?_
    refine Ew_of (pc' := 728) (fun _ => x_iconst rfl) ?_
    refine w_iadd rfl ?_
    refine w_scr hc1 rfl (by omega) (by omega) ?_
    refine Ew_of (pc' := 731) (fun _ => x_aload_n rfl l0) ?_
    refine Ew_of (pc' := 732) (fun _ => x_iload_n rfl l3) ?_
    refine Ew_of (pc' := 733) (fun _ => x_iconst rfl) ?_
    refine w_iadd rfl ?_
    refine w_scr hc1 rfl (by omega) (by omega) ?_
    refine Ew_of (pc' := 736) (fun _ => x_aload_n rfl l0) ?_
    refine Ew_of (pc' := 737) (fun _ => x_iload_n rfl l3) ?_
    refine Ew_of (pc' := 738) (fun _ => x_iconst rfl) ?_
    refine w_iadd rfl ?_
    refine w_scr hc1 rfl (by omega) (by omega) ?_
    refine w_ifeq (t := 747) rfl rfl (hx _) (fun b3 => ?_) (fun b3 => ?_)
    · skip
      refine Ew_of (pc' := 748) (fun _ => x_iconst rfl) ?_
      refine w_callk rfl (fun rec => rinvv rfl rfl (Y1.1.1.obj 0 (Y1.1.1.perm 0 rfl) rfl) rec) rfl (RS_poly (d := d + 9) Y1.1 (hx _) (hx _) (hx _) (by omega) (by omega) (fun z2 σ2 F3 A3 Y2 T2 t12 zr2 => ⟨rfl, ?_⟩))
      have X2 := RF_cls X1 Y1.1.1 Y1.2 T2
      have hc2 := RF_scr Y1.1.1 hc1 T2
      have E2 : EQS (A1 10) (A3 12) := by rw [t12]; exact E1
      refine Ew_of (pc' := 752) (fun _ => x_pop rfl rfl) ?_
      refine Ew_of (pc' := 1065) (fun _ => x_goto rfl rfl) ?_
      exact k g σ2 D1 N1 F1 A1 F3 A3 _ _ X2 Y2 Y1.2 hc2 S1.1.2.1 (RMG_of S1.1) E2
    · skip
      exfalso
      omega
  · skip
    refine Ew_of (pc' := 711) (fun _ => x_iconst rfl) ?_
    refine Ew_of (pc' := 715) (fun _ => x_goto rfl rfl) ?_
    refine w_callk rfl (fun rec => rinvv rfl rfl (X.1.obj 0 (by decide +kernel) (show g 0 = true from X.2.2.1) rfl) rec) rfl (T_poly (d := d + 11) X (hx _) (hx _) (hx _) (by omega) (by omega) (fun z σ1 D1 N1 F1 A1 c1 s1 X1 S1 zr => ⟨rfl, ?_⟩))
    have Y1 := CL_ref Y hs S1.1
    have hc1 := CL_scr X.1 hc S1.1
    have E1 : EQS (A1 10) (A2 12) := by rw [S1.2]; exact hE
    refine Ew_of (pc' := 719) (fun _ => x_pop rfl rfl) ?_
    refine Ew_of (pc' := 720) (fun _ => x_aload_n rfl l2) ?_
    refine Ew_of (pc' := 721) (fun _ => x_aload_n rfl l0) ?_
    refine Ew_of (pc' := 722) (fun _ => x_iload_n rfl l3) ?_
    refine Ew_of (pc' := 723) (fun _ => x_iconst rfl) ?_
    refine w_iadd rfl ?_
    refine w_scr hc1 rfl (by omega) (by omega) ?_
    refine Ew_of (pc' := 726) (fun _ => x_aload_n rfl l0) ?_
    refine Ew_of (pc' := 727) (fun _ => x_iload_n rfl l3) ?_
    refine Ew_of (pc' := 728) (fun _ => x_iconst rfl) ?_
    refine w_iadd rfl ?_
    refine w_scr hc1 rfl (by omega) (by omega) ?_
    refine Ew_of (pc' := 731) (fun _ => x_aload_n rfl l0) ?_
    refine Ew_of (pc' := 732) (fun _ => x_iload_n rfl l3) ?_
    refine Ew_of (pc' := 733) (fun _ => x_iconst rfl) ?_
    refine w_iadd rfl ?_
    refine w_scr hc1 rfl (by omega) (by omega) ?_
    refine Ew_of (pc' := 736) (fun _ => x_aload_n rfl l0) ?_
    refine Ew_of (pc' := 737) (fun _ => x_iload_n rfl l3) ?_
    refine Ew_of (pc' := 738) (fun _ => x_iconst rfl) ?_
    refine w_iadd rfl ?_
    refine w_scr hc1 rfl (by omega) (by omega) ?_
    refine w_ifeq (t := 747) rfl rfl (hx _) (fun b5 => ?_) (fun b5 => ?_)
    · skip
      exfalso
      omega
    · skip
      refine Ew_of (pc' := 744) (fun _ => x_iconst rfl) ?_
      refine Ew_of (pc' := 748) (fun _ => x_goto rfl rfl) ?_
      refine w_callk rfl (fun rec => rinvv rfl rfl (Y1.1.1.obj 0 (Y1.1.1.perm 0 rfl) rfl) rec) rfl (RS_poly (d := d + 9) Y1.1 (hx _) (hx _) (hx _) (by omega) (by omega) (fun z2 σ2 F3 A3 Y2 T2 t12 zr2 => ⟨rfl, ?_⟩))
      have X2 := RF_cls X1 Y1.1.1 Y1.2 T2
      have hc2 := RF_scr Y1.1.1 hc1 T2
      have E2 : EQS (A1 10) (A3 12) := by rw [t12]; exact E1
      refine Ew_of (pc' := 752) (fun _ => x_pop rfl rfl) ?_
      refine Ew_of (pc' := 1065) (fun _ => x_goto rfl rfl) ?_
      exact k g σ2 D1 N1 F1 A1 F3 A3 _ _ X2 Y2 Y1.2 hc2 S1.1.2.1 (RMG_of S1.1) E2
set_option maxHeartbeats 4000000 in
theorem LC_13 {g : Nat → Bool} {σ : rS} {D N D2 N2 : Nat → Nat} {F F2 : hF} {A A2 : hA} {d c s L : Nat} {xs : Nat → Int} {Q : wQ} (X : PHI g σ D N F A) (Y : RHI σ D2 N2 F2 A2) (hs : SEP g D D2) (hc : SCR σ L xs) (hE : EQS (A 10) (A2 12)) (hx : ∀ j, inr (xs j)) (hL : L ≤ 1000000) {i : Int} (hi : 0 ≤ i ∧ i + 6 ≤ L) {ls : rO} (l0 : rlook ls 0 = some (.ref 11)) (l1 : rlook ls 1 = some (.ref (D 0))) (l2 : rlook ls 2 = some (.ref (D2 0))) (l3 : rlook ls 3 = some (I i)) (k : ∀ (g' : Nat → Bool) (σ' : rS) (D' N' : Nat → Nat) (F' : hF) (A' : hA) (F2' : hF) (A2' : hA) (c' s' : Nat), PHI g' σ' D' N' F' A' → RHI σ' D2 N2 F2' A2' → SEP g' D' D2 → SCR σ' L xs → D' 0 = D 0 → RMG g N c s g' N' c' s' → EQS (A' 10) (A2' 12) → Ew 455 (d + 14) 1065 ls [] σ' c' s' Q) : Ew 455 (d + 14) 755 ls [] σ c s Q := by
  refine Ew_of (pc' := 756) (fun _ => x_aload_n rfl l1) ?_
  refine Ew_of (pc' := 757) (fun _ => x_aload_n rfl l0) ?_
  refine Ew_of (pc' := 758) (fun _ => x_iload_n rfl l3) ?_
  refine Ew_of (pc' := 759) (fun _ => x_iconst rfl) ?_
  refine w_iadd rfl ?_
  refine w_scr hc rfl (by omega) (by omega) ?_
  refine w_callk rfl (fun rec => rinvv rfl rfl (X.1.obj 0 (by decide +kernel) (show g 0 = true from X.2.2.1) rfl) rec) rfl (T_history (d := d + 9) X (hx _) (fun z σ1 D1 N1 F1 A1 c1 s1 X1 S1 zr px0 => ⟨(rretB rfl zr), ?_⟩))
  have Y1 := CL_ref Y hs S1.1
  have hc1 := CL_scr X.1 hc S1.1
  have E1 : EQS (A1 10) (A2 12) := by rw [S1.2]; exact hE
  refine Ew_of (pc' := 765) (fun _ => x_pop rfl rfl) ?_
  refine Ew_of (pc' := 766) (fun _ => x_aload_n rfl l2) ?_
  refine Ew_of (pc' := 767) (fun _ => x_aload_n rfl l0) ?_
  refine Ew_of (pc' := 768) (fun _ => x_iload_n rfl l3) ?_
  refine Ew_of (pc' := 769) (fun _ => x_iconst rfl) ?_
  refine w_iadd rfl ?_
  refine w_scr hc1 rfl (by omega) (by omega) ?_
  refine w_callk rfl (fun rec => rinvv rfl rfl (Y1.1.1.obj 0 (Y1.1.1.perm 0 rfl) rfl) rec) rfl (RS_history (d := d + 12) Y1.1 (hx _) (fun z2 σ2 F3 A3 Y2 T2 t12 zr2 py0 => ⟨(rretB rfl zr2), ?_⟩))
  have X2 := RF_cls X1 Y1.1.1 Y1.2 T2
  have hc2 := RF_scr Y1.1.1 hc1 T2
  have E2 : EQS (A1 10) (A3 12) := by rw [t12]; exact E1
  refine Ew_of (pc' := 775) (fun _ => x_pop rfl rfl) ?_
  refine Ew_of (pc' := 1065) (fun _ => x_goto rfl rfl) ?_
  exact k g σ2 D1 N1 F1 A1 F3 A3 _ _ X2 Y2 Y1.2 hc2 S1.1.2.1 (RMG_of S1.1) E2
set_option maxHeartbeats 4000000 in
theorem LC_14 {g : Nat → Bool} {σ : rS} {D N D2 N2 : Nat → Nat} {F F2 : hF} {A A2 : hA} {d c s L : Nat} {xs : Nat → Int} {Q : wQ} (X : PHI g σ D N F A) (Y : RHI σ D2 N2 F2 A2) (hs : SEP g D D2) (hc : SCR σ L xs) (hE : EQS (A 10) (A2 12)) (hx : ∀ j, inr (xs j)) (hL : L ≤ 1000000) {i : Int} (hi : 0 ≤ i ∧ i + 6 ≤ L) {ls : rO} (l0 : rlook ls 0 = some (.ref 11)) (l1 : rlook ls 1 = some (.ref (D 0))) (l2 : rlook ls 2 = some (.ref (D2 0))) (l3 : rlook ls 3 = some (I i)) (k : ∀ (g' : Nat → Bool) (σ' : rS) (D' N' : Nat → Nat) (F' : hF) (A' : hA) (F2' : hF) (A2' : hA) (c' s' : Nat), PHI g' σ' D' N' F' A' → RHI σ' D2 N2 F2' A2' → SEP g' D' D2 → SCR σ' L xs → D' 0 = D 0 → RMG g N c s g' N' c' s' → EQS (A' 10) (A2' 12) → Ew 455 (d + 14) 1065 ls [] σ' c' s' Q) : Ew 455 (d + 14) 778 ls [] σ c s Q := by
  refine Ew_of (pc' := 779) (fun _ => x_aload_n rfl l1) ?_
  refine Ew_of (pc' := 780) (fun _ => x_aload_n rfl l0) ?_
  refine Ew_of (pc' := 781) (fun _ => x_iload_n rfl l3) ?_
  refine Ew_of (pc' := 782) (fun _ => x_iconst rfl) ?_
  refine w_iadd rfl ?_
  refine w_scr hc rfl (by omega) (by omega) ?_
  refine w_callk rfl (fun rec => rinvv rfl rfl (X.1.obj 0 (by decide +kernel) (show g 0 = true from X.2.2.1) rfl) rec) rfl (T_learn (d := d + 7) X (hx _) (fun z g1 σ1 D1 N1 F1 A1 c1 s1 X1 S1 zr => ⟨rfl, ?_⟩))
  have Y1 := CL_ref Y hs S1.1
  have hc1 := CL_scr X.1 hc S1.1
  have E1 : EQS (A1 10) (A2 12) := by rw [S1.2]; exact hE
  refine Ew_of (pc' := 788) (fun _ => x_pop rfl rfl) ?_
  refine Ew_of (pc' := 789) (fun _ => x_aload_n rfl l2) ?_
  refine Ew_of (pc' := 790) (fun _ => x_aload_n rfl l0) ?_
  refine Ew_of (pc' := 791) (fun _ => x_iload_n rfl l3) ?_
  refine Ew_of (pc' := 792) (fun _ => x_iconst rfl) ?_
  refine w_iadd rfl ?_
  refine w_scr hc1 rfl (by omega) (by omega) ?_
  refine w_callk rfl (fun rec => rinvv rfl rfl (Y1.1.1.obj 0 (Y1.1.1.perm 0 rfl) rfl) rec) rfl (RS_learn (d := d + 8) Y1.1 (hx _) (fun z2 σ2 F3 A3 Y2 T2 t12 zr2 => ⟨rfl, ?_⟩))
  have X2 := RF_cls X1 Y1.1.1 Y1.2 T2
  have hc2 := RF_scr Y1.1.1 hc1 T2
  have E2 : EQS (A1 10) (A3 12) := by rw [t12]; exact E1
  refine Ew_of (pc' := 798) (fun _ => x_pop rfl rfl) ?_
  refine Ew_of (pc' := 1065) (fun _ => x_goto rfl rfl) ?_
  exact k g1 σ2 D1 N1 F1 A1 F3 A3 _ _ X2 Y2 Y1.2 hc2 S1.1.2.1 (RMG_of S1.1) E2
set_option maxHeartbeats 4000000 in
theorem LC_15 {g : Nat → Bool} {σ : rS} {D N D2 N2 : Nat → Nat} {F F2 : hF} {A A2 : hA} {d c s L : Nat} {xs : Nat → Int} {Q : wQ} (X : PHI g σ D N F A) (Y : RHI σ D2 N2 F2 A2) (hs : SEP g D D2) (hc : SCR σ L xs) (hE : EQS (A 10) (A2 12)) (hx : ∀ j, inr (xs j)) (hL : L ≤ 1000000) {i : Int} (hi : 0 ≤ i ∧ i + 6 ≤ L) {ls : rO} (l0 : rlook ls 0 = some (.ref 11)) (l1 : rlook ls 1 = some (.ref (D 0))) (l2 : rlook ls 2 = some (.ref (D2 0))) (l3 : rlook ls 3 = some (I i)) (k : ∀ (g' : Nat → Bool) (σ' : rS) (D' N' : Nat → Nat) (F' : hF) (A' : hA) (F2' : hF) (A2' : hA) (c' s' : Nat), PHI g' σ' D' N' F' A' → RHI σ' D2 N2 F2' A2' → SEP g' D' D2 → SCR σ' L xs → D' 0 = D 0 → RMG g N c s g' N' c' s' → EQS (A' 10) (A2' 12) → Ew 455 (d + 14) 1065 ls [] σ' c' s' Q) : Ew 455 (d + 14) 801 ls [] σ c s Q := by
  refine Ew_of (pc' := 802) (fun _ => x_aload_n rfl l1) ?_
  refine Ew_of (pc' := 803) (fun _ => x_aload_n rfl l0) ?_
  refine Ew_of (pc' := 804) (fun _ => x_iload_n rfl l3) ?_
  refine Ew_of (pc' := 805) (fun _ => x_iconst rfl) ?_
  refine w_iadd rfl ?_
  refine w_scr hc rfl (by omega) (by omega) ?_
  refine w_callk rfl (fun rec => rinvv rfl rfl (X.1.obj 0 (by decide +kernel) (show g 0 = true from X.2.2.1) rfl) rec) rfl (T_forget (d := d + 11) X (hx _) (fun z σ1 D1 N1 F1 A1 c1 s1 X1 S1 zr px0 => ⟨(rretB rfl zr), ?_⟩))
  have Y1 := CL_ref Y hs S1.1
  have hc1 := CL_scr X.1 hc S1.1
  have E1 : EQS (A1 10) (A2 12) := by rw [S1.2]; exact hE
  refine Ew_of (pc' := 811) (fun _ => x_pop rfl rfl) ?_
  refine Ew_of (pc' := 812) (fun _ => x_aload_n rfl l2) ?_
  refine Ew_of (pc' := 813) (fun _ => x_aload_n rfl l0) ?_
  refine Ew_of (pc' := 814) (fun _ => x_iload_n rfl l3) ?_
  refine Ew_of (pc' := 815) (fun _ => x_iconst rfl) ?_
  refine w_iadd rfl ?_
  refine w_scr hc1 rfl (by omega) (by omega) ?_
  refine w_callk rfl (fun rec => rinvv rfl rfl (Y1.1.1.obj 0 (Y1.1.1.perm 0 rfl) rfl) rec) rfl (RS_forget (d := d + 12) Y1.1 (hx _) (fun z2 σ2 F3 A3 Y2 T2 t12 zr2 py0 => ⟨(rretB rfl zr2), ?_⟩))
  have X2 := RF_cls X1 Y1.1.1 Y1.2 T2
  have hc2 := RF_scr Y1.1.1 hc1 T2
  have E2 : EQS (A1 10) (A3 12) := by rw [t12]; exact E1
  refine Ew_of (pc' := 821) (fun _ => x_pop rfl rfl) ?_
  refine Ew_of (pc' := 1065) (fun _ => x_goto rfl rfl) ?_
  exact k g σ2 D1 N1 F1 A1 F3 A3 _ _ X2 Y2 Y1.2 hc2 S1.1.2.1 (RMG_of S1.1) E2
set_option maxHeartbeats 4000000 in
theorem LC_16 {g : Nat → Bool} {σ : rS} {D N D2 N2 : Nat → Nat} {F F2 : hF} {A A2 : hA} {d c s L : Nat} {xs : Nat → Int} {Q : wQ} (X : PHI g σ D N F A) (Y : RHI σ D2 N2 F2 A2) (hs : SEP g D D2) (hc : SCR σ L xs) (hE : EQS (A 10) (A2 12)) (hx : ∀ j, inr (xs j)) (hL : L ≤ 1000000) {i : Int} (hi : 0 ≤ i ∧ i + 6 ≤ L) {ls : rO} (l0 : rlook ls 0 = some (.ref 11)) (l1 : rlook ls 1 = some (.ref (D 0))) (l2 : rlook ls 2 = some (.ref (D2 0))) (l3 : rlook ls 3 = some (I i)) (k : ∀ (g' : Nat → Bool) (σ' : rS) (D' N' : Nat → Nat) (F' : hF) (A' : hA) (F2' : hF) (A2' : hA) (c' s' : Nat), PHI g' σ' D' N' F' A' → RHI σ' D2 N2 F2' A2' → SEP g' D' D2 → SCR σ' L xs → D' 0 = D 0 → RMG g N c s g' N' c' s' → EQS (A' 10) (A2' 12) → Ew 455 (d + 14) 1065 ls [] σ' c' s' Q) : Ew 455 (d + 14) 824 ls [] σ c s Q := by
  refine Ew_of (pc' := 825) (fun _ => x_aload_n rfl l1) ?_
  refine Ew_of (pc' := 826) (fun _ => x_aload_n rfl l0) ?_
  refine Ew_of (pc' := 827) (fun _ => x_iload_n rfl l3) ?_
  refine Ew_of (pc' := 828) (fun _ => x_iconst rfl) ?_
  refine w_iadd rfl ?_
  refine w_scr hc rfl (by omega) (by omega) ?_
  refine Ew_of (pc' := 831) (fun _ => x_aload_n rfl l0) ?_
  refine Ew_of (pc' := 832) (fun _ => x_iload_n rfl l3) ?_
  refine Ew_of (pc' := 833) (fun _ => x_iconst rfl) ?_
  refine w_iadd rfl ?_
  refine w_scr hc rfl (by omega) (by omega) ?_
  refine Ew_of (pc' := 836) (fun _ => x_aload_n rfl l0) ?_
  refine Ew_of (pc' := 837) (fun _ => x_iload_n rfl l3) ?_
  refine Ew_of (pc' := 838) (fun _ => x_iconst rfl) ?_
  refine w_iadd rfl ?_
  refine w_scr hc rfl (by omega) (by omega) ?_
  refine w_callk rfl (fun rec => rinvv rfl rfl (X.1.obj 0 (by decide +kernel) (show g 0 = true from X.2.2.1) rfl) rec) rfl (T_write (d := d + 5) X (hx _) (hx _) (hx _) (fun z g1 σ1 D1 N1 F1 A1 c1 s1 X1 S1 zr => ⟨rfl, ?_⟩))
  have Y1 := CL_ref Y hs S1.1
  have hc1 := CL_scr X.1 hc S1.1
  have E1 : EQS (A1 10) (A2 12) := by rw [S1.2]; exact hE
  refine Ew_of (pc' := 844) (fun _ => x_pop rfl rfl) ?_
  refine Ew_of (pc' := 845) (fun _ => x_aload_n rfl l2) ?_
  refine Ew_of (pc' := 846) (fun _ => x_aload_n rfl l0) ?_
  refine Ew_of (pc' := 847) (fun _ => x_iload_n rfl l3) ?_
  refine Ew_of (pc' := 848) (fun _ => x_iconst rfl) ?_
  refine w_iadd rfl ?_
  refine w_scr hc1 rfl (by omega) (by omega) ?_
  refine Ew_of (pc' := 851) (fun _ => x_aload_n rfl l0) ?_
  refine Ew_of (pc' := 852) (fun _ => x_iload_n rfl l3) ?_
  refine Ew_of (pc' := 853) (fun _ => x_iconst rfl) ?_
  refine w_iadd rfl ?_
  refine w_scr hc1 rfl (by omega) (by omega) ?_
  refine Ew_of (pc' := 856) (fun _ => x_aload_n rfl l0) ?_
  refine Ew_of (pc' := 857) (fun _ => x_iload_n rfl l3) ?_
  refine Ew_of (pc' := 858) (fun _ => x_iconst rfl) ?_
  refine w_iadd rfl ?_
  refine w_scr hc1 rfl (by omega) (by omega) ?_
  refine w_callk rfl (fun rec => rinvv rfl rfl (Y1.1.1.obj 0 (Y1.1.1.perm 0 rfl) rfl) rec) rfl (RS_write (d := d + 0) Y1.1 (hx _) (hx _) (hx _) (fun z2 σ2 F3 A3 Y2 T2 t12 zr2 => ⟨rfl, ?_⟩))
  have X2 := RF_cls X1 Y1.1.1 Y1.2 T2
  have hc2 := RF_scr Y1.1.1 hc1 T2
  have E2 : EQS (A1 10) (A3 12) := by rw [t12]; exact E1
  refine Ew_of (pc' := 864) (fun _ => x_pop rfl rfl) ?_
  refine Ew_of (pc' := 1065) (fun _ => x_goto rfl rfl) ?_
  exact k g1 σ2 D1 N1 F1 A1 F3 A3 _ _ X2 Y2 Y1.2 hc2 S1.1.2.1 (RMG_of S1.1) E2
set_option maxHeartbeats 4000000 in
theorem LC_17 {g : Nat → Bool} {σ : rS} {D N D2 N2 : Nat → Nat} {F F2 : hF} {A A2 : hA} {d c s L : Nat} {xs : Nat → Int} {Q : wQ} (X : PHI g σ D N F A) (Y : RHI σ D2 N2 F2 A2) (hs : SEP g D D2) (hc : SCR σ L xs) (hE : EQS (A 10) (A2 12)) (hx : ∀ j, inr (xs j)) (hL : L ≤ 1000000) {i : Int} (hi : 0 ≤ i ∧ i + 6 ≤ L) {ls : rO} (l0 : rlook ls 0 = some (.ref 11)) (l1 : rlook ls 1 = some (.ref (D 0))) (l2 : rlook ls 2 = some (.ref (D2 0))) (l3 : rlook ls 3 = some (I i)) (k : ∀ (g' : Nat → Bool) (σ' : rS) (D' N' : Nat → Nat) (F' : hF) (A' : hA) (F2' : hF) (A2' : hA) (c' s' : Nat), PHI g' σ' D' N' F' A' → RHI σ' D2 N2 F2' A2' → SEP g' D' D2 → SCR σ' L xs → D' 0 = D 0 → RMG g N c s g' N' c' s' → EQS (A' 10) (A2' 12) → Ew 455 (d + 14) 1065 ls [] σ' c' s' Q) : Ew 455 (d + 14) 867 ls [] σ c s Q := by
  refine Ew_of (pc' := 868) (fun _ => x_aload_n rfl l1) ?_
  refine Ew_of (pc' := 869) (fun _ => x_aload_n rfl l0) ?_
  refine Ew_of (pc' := 870) (fun _ => x_iload_n rfl l3) ?_
  refine Ew_of (pc' := 871) (fun _ => x_iconst rfl) ?_
  refine w_iadd rfl ?_
  refine w_scr hc rfl (by omega) (by omega) ?_
  refine Ew_of (pc' := 874) (fun _ => x_aload_n rfl l0) ?_
  refine Ew_of (pc' := 875) (fun _ => x_iload_n rfl l3) ?_
  refine Ew_of (pc' := 876) (fun _ => x_iconst rfl) ?_
  refine w_iadd rfl ?_
  refine w_scr hc rfl (by omega) (by omega) ?_
  refine Ew_of (pc' := 879) (fun _ => x_aload_n rfl l0) ?_
  refine Ew_of (pc' := 880) (fun _ => x_iload_n rfl l3) ?_
  refine Ew_of (pc' := 881) (fun _ => x_iconst rfl) ?_
  refine w_iadd rfl ?_
  refine w_scr hc rfl (by omega) (by omega) ?_
  refine Ew_of (pc' := 884) (fun _ => x_aload_n rfl l0) ?_
  refine Ew_of (pc' := 885) (fun _ => x_iload_n rfl l3) ?_
  refine Ew_of (pc' := 886) (fun _ => x_iconst rfl) ?_
  refine w_iadd rfl ?_
  refine w_scr hc rfl (by omega) (by omega) ?_
  refine w_callk rfl (fun rec => rinvv rfl rfl (X.1.obj 0 (by decide +kernel) (show g 0 = true from X.2.2.1) rfl) rec) rfl (T_read (d := d + 5) X (hx _) (hx _) (hx _) (hx _) (fun z g1 σ1 D1 N1 F1 A1 c1 s1 X1 S1 zr => ⟨rfl, ?_⟩))
  have Y1 := CL_ref Y hs S1.1
  have hc1 := CL_scr X.1 hc S1.1
  have E1 : EQS (A1 10) (A2 12) := by rw [S1.2]; exact hE
  refine Ew_of (pc' := 892) (fun _ => x_pop rfl rfl) ?_
  refine Ew_of (pc' := 893) (fun _ => x_aload_n rfl l2) ?_
  refine Ew_of (pc' := 894) (fun _ => x_aload_n rfl l0) ?_
  refine Ew_of (pc' := 895) (fun _ => x_iload_n rfl l3) ?_
  refine Ew_of (pc' := 896) (fun _ => x_iconst rfl) ?_
  refine w_iadd rfl ?_
  refine w_scr hc1 rfl (by omega) (by omega) ?_
  refine Ew_of (pc' := 899) (fun _ => x_aload_n rfl l0) ?_
  refine Ew_of (pc' := 900) (fun _ => x_iload_n rfl l3) ?_
  refine Ew_of (pc' := 901) (fun _ => x_iconst rfl) ?_
  refine w_iadd rfl ?_
  refine w_scr hc1 rfl (by omega) (by omega) ?_
  refine Ew_of (pc' := 904) (fun _ => x_aload_n rfl l0) ?_
  refine Ew_of (pc' := 905) (fun _ => x_iload_n rfl l3) ?_
  refine Ew_of (pc' := 906) (fun _ => x_iconst rfl) ?_
  refine w_iadd rfl ?_
  refine w_scr hc1 rfl (by omega) (by omega) ?_
  refine Ew_of (pc' := 909) (fun _ => x_aload_n rfl l0) ?_
  refine Ew_of (pc' := 910) (fun _ => x_iload_n rfl l3) ?_
  refine Ew_of (pc' := 911) (fun _ => x_iconst rfl) ?_
  refine w_iadd rfl ?_
  refine w_scr hc1 rfl (by omega) (by omega) ?_
  refine w_callk rfl (fun rec => rinvv rfl rfl (Y1.1.1.obj 0 (Y1.1.1.perm 0 rfl) rfl) rec) rfl (RS_read (d := d + 1) Y1.1 (hx _) (hx _) (hx _) (hx _) (fun z2 σ2 F3 A3 Y2 T2 t12 zr2 => ⟨rfl, ?_⟩))
  have X2 := RF_cls X1 Y1.1.1 Y1.2 T2
  have hc2 := RF_scr Y1.1.1 hc1 T2
  have E2 : EQS (A1 10) (A3 12) := by rw [t12]; exact E1
  refine Ew_of (pc' := 917) (fun _ => x_pop rfl rfl) ?_
  refine Ew_of (pc' := 1065) (fun _ => x_goto rfl rfl) ?_
  exact k g1 σ2 D1 N1 F1 A1 F3 A3 _ _ X2 Y2 Y1.2 hc2 S1.1.2.1 (RMG_of S1.1) E2
set_option maxHeartbeats 4000000 in
theorem LC_18 {g : Nat → Bool} {σ : rS} {D N D2 N2 : Nat → Nat} {F F2 : hF} {A A2 : hA} {d c s L : Nat} {xs : Nat → Int} {Q : wQ} (X : PHI g σ D N F A) (Y : RHI σ D2 N2 F2 A2) (hs : SEP g D D2) (hc : SCR σ L xs) (hE : EQS (A 10) (A2 12)) (hx : ∀ j, inr (xs j)) (hL : L ≤ 1000000) {i : Int} (hi : 0 ≤ i ∧ i + 6 ≤ L) {ls : rO} (l0 : rlook ls 0 = some (.ref 11)) (l1 : rlook ls 1 = some (.ref (D 0))) (l2 : rlook ls 2 = some (.ref (D2 0))) (l3 : rlook ls 3 = some (I i)) (k : ∀ (g' : Nat → Bool) (σ' : rS) (D' N' : Nat → Nat) (F' : hF) (A' : hA) (F2' : hF) (A2' : hA) (c' s' : Nat), PHI g' σ' D' N' F' A' → RHI σ' D2 N2 F2' A2' → SEP g' D' D2 → SCR σ' L xs → D' 0 = D 0 → RMG g N c s g' N' c' s' → EQS (A' 10) (A2' 12) → Ew 455 (d + 14) 1065 ls [] σ' c' s' Q) : Ew 455 (d + 14) 920 ls [] σ c s Q := by
  refine Ew_of (pc' := 921) (fun _ => x_aload_n rfl l1) ?_
  refine Ew_of (pc' := 922) (fun _ => x_aload_n rfl l0) ?_
  refine Ew_of (pc' := 923) (fun _ => x_iload_n rfl l3) ?_
  refine Ew_of (pc' := 924) (fun _ => x_iconst rfl) ?_
  refine w_iadd rfl ?_
  refine w_scr hc rfl (by omega) (by omega) ?_
  refine w_callk rfl (fun rec => rinvv rfl rfl (X.1.obj 0 (by decide +kernel) (show g 0 = true from X.2.2.1) rfl) rec) rfl (T_kind (d := d + 10) X (hx _) (fun z σ1 D1 N1 F1 A1 c1 s1 X1 S1 zr => ⟨rfl, ?_⟩))
  have Y1 := CL_ref Y hs S1.1
  have hc1 := CL_scr X.1 hc S1.1
  have E1 : EQS (A1 10) (A2 12) := by rw [S1.2]; exact hE
  refine Ew_of (pc' := 930) (fun _ => x_pop rfl rfl) ?_
  refine Ew_of (pc' := 931) (fun _ => x_aload_n rfl l2) ?_
  refine Ew_of (pc' := 932) (fun _ => x_aload_n rfl l0) ?_
  refine Ew_of (pc' := 933) (fun _ => x_iload_n rfl l3) ?_
  refine Ew_of (pc' := 934) (fun _ => x_iconst rfl) ?_
  refine w_iadd rfl ?_
  refine w_scr hc1 rfl (by omega) (by omega) ?_
  refine w_callk rfl (fun rec => rinvv rfl rfl (Y1.1.1.obj 0 (Y1.1.1.perm 0 rfl) rfl) rec) rfl (RS_kind (d := d + 12) Y1.1 (hx _) (fun z2 σ2 F3 A3 Y2 T2 t12 zr2 => ⟨rfl, ?_⟩))
  have X2 := RF_cls X1 Y1.1.1 Y1.2 T2
  have hc2 := RF_scr Y1.1.1 hc1 T2
  have E2 : EQS (A1 10) (A3 12) := by rw [t12]; exact E1
  refine Ew_of (pc' := 940) (fun _ => x_pop rfl rfl) ?_
  refine Ew_of (pc' := 1065) (fun _ => x_goto rfl rfl) ?_
  exact k g σ2 D1 N1 F1 A1 F3 A3 _ _ X2 Y2 Y1.2 hc2 S1.1.2.1 (RMG_of S1.1) E2
set_option maxHeartbeats 4000000 in
theorem LC_19 {g : Nat → Bool} {σ : rS} {D N D2 N2 : Nat → Nat} {F F2 : hF} {A A2 : hA} {d c s L : Nat} {xs : Nat → Int} {Q : wQ} (X : PHI g σ D N F A) (Y : RHI σ D2 N2 F2 A2) (hs : SEP g D D2) (hc : SCR σ L xs) (hE : EQS (A 10) (A2 12)) (hx : ∀ j, inr (xs j)) (hL : L ≤ 1000000) {i : Int} (hi : 0 ≤ i ∧ i + 6 ≤ L) {ls : rO} (l0 : rlook ls 0 = some (.ref 11)) (l1 : rlook ls 1 = some (.ref (D 0))) (l2 : rlook ls 2 = some (.ref (D2 0))) (l3 : rlook ls 3 = some (I i)) (k : ∀ (g' : Nat → Bool) (σ' : rS) (D' N' : Nat → Nat) (F' : hF) (A' : hA) (F2' : hF) (A2' : hA) (c' s' : Nat), PHI g' σ' D' N' F' A' → RHI σ' D2 N2 F2' A2' → SEP g' D' D2 → SCR σ' L xs → D' 0 = D 0 → RMG g N c s g' N' c' s' → EQS (A' 10) (A2' 12) → Ew 455 (d + 14) 1065 ls [] σ' c' s' Q) : Ew 455 (d + 14) 943 ls [] σ c s Q := by
  refine Ew_of (pc' := 944) (fun _ => x_aload_n rfl l1) ?_
  refine Ew_of (pc' := 945) (fun _ => x_aload_n rfl l0) ?_
  refine Ew_of (pc' := 946) (fun _ => x_iload_n rfl l3) ?_
  refine Ew_of (pc' := 947) (fun _ => x_iconst rfl) ?_
  refine w_iadd rfl ?_
  refine w_scr hc rfl (by omega) (by omega) ?_
  refine Ew_of (pc' := 950) (fun _ => x_aload_n rfl l0) ?_
  refine Ew_of (pc' := 951) (fun _ => x_iload_n rfl l3) ?_
  refine Ew_of (pc' := 952) (fun _ => x_iconst rfl) ?_
  refine w_iadd rfl ?_
  refine w_scr hc rfl (by omega) (by omega) ?_
  refine Ew_of (pc' := 955) (fun _ => x_aload_n rfl l0) ?_
  refine Ew_of (pc' := 956) (fun _ => x_iload_n rfl l3) ?_
  refine Ew_of (pc' := 957) (fun _ => x_iconst rfl) ?_
  refine w_iadd rfl ?_
  refine w_scr hc rfl (by omega) (by omega) ?_
  refine w_callk rfl (fun rec => rinvv rfl rfl (X.1.obj 0 (by decide +kernel) (show g 0 = true from X.2.2.1) rfl) rec) rfl (T_open (d := d + 5) X (hx _) (hx _) (hx _) (fun z g1 σ1 D1 N1 F1 A1 c1 s1 X1 S1 zr => ⟨rfl, ?_⟩))
  have Y1 := CL_ref Y hs S1.1
  have hc1 := CL_scr X.1 hc S1.1
  have E1 : EQS (A1 10) (A2 12) := by rw [S1.2]; exact hE
  refine Ew_of (pc' := 963) (fun _ => x_pop rfl rfl) ?_
  refine Ew_of (pc' := 964) (fun _ => x_aload_n rfl l2) ?_
  refine Ew_of (pc' := 965) (fun _ => x_aload_n rfl l0) ?_
  refine Ew_of (pc' := 966) (fun _ => x_iload_n rfl l3) ?_
  refine Ew_of (pc' := 967) (fun _ => x_iconst rfl) ?_
  refine w_iadd rfl ?_
  refine w_scr hc1 rfl (by omega) (by omega) ?_
  refine Ew_of (pc' := 970) (fun _ => x_aload_n rfl l0) ?_
  refine Ew_of (pc' := 971) (fun _ => x_iload_n rfl l3) ?_
  refine Ew_of (pc' := 972) (fun _ => x_iconst rfl) ?_
  refine w_iadd rfl ?_
  refine w_scr hc1 rfl (by omega) (by omega) ?_
  refine Ew_of (pc' := 975) (fun _ => x_aload_n rfl l0) ?_
  refine Ew_of (pc' := 976) (fun _ => x_iload_n rfl l3) ?_
  refine Ew_of (pc' := 977) (fun _ => x_iconst rfl) ?_
  refine w_iadd rfl ?_
  refine w_scr hc1 rfl (by omega) (by omega) ?_
  refine w_callk rfl (fun rec => rinvv rfl rfl (Y1.1.1.obj 0 (Y1.1.1.perm 0 rfl) rfl) rec) rfl (RS_open (d := d + 0) Y1.1 (hx _) (hx _) (hx _) (fun z2 σ2 F3 A3 Y2 T2 t12 zr2 => ⟨rfl, ?_⟩))
  have X2 := RF_cls X1 Y1.1.1 Y1.2 T2
  have hc2 := RF_scr Y1.1.1 hc1 T2
  have E2 : EQS (A1 10) (A3 12) := by rw [t12]; exact E1
  refine Ew_of (pc' := 983) (fun _ => x_pop rfl rfl) ?_
  refine Ew_of (pc' := 1065) (fun _ => x_goto rfl rfl) ?_
  exact k g1 σ2 D1 N1 F1 A1 F3 A3 _ _ X2 Y2 Y1.2 hc2 S1.1.2.1 (RMG_of S1.1) E2
set_option maxHeartbeats 4000000 in
theorem LC_20 {g : Nat → Bool} {σ : rS} {D N D2 N2 : Nat → Nat} {F F2 : hF} {A A2 : hA} {d c s L : Nat} {xs : Nat → Int} {Q : wQ} (X : PHI g σ D N F A) (Y : RHI σ D2 N2 F2 A2) (hs : SEP g D D2) (hc : SCR σ L xs) (hE : EQS (A 10) (A2 12)) (hx : ∀ j, inr (xs j)) (hL : L ≤ 1000000) {i : Int} (hi : 0 ≤ i ∧ i + 6 ≤ L) {ls : rO} (l0 : rlook ls 0 = some (.ref 11)) (l1 : rlook ls 1 = some (.ref (D 0))) (l2 : rlook ls 2 = some (.ref (D2 0))) (l3 : rlook ls 3 = some (I i)) (k : ∀ (g' : Nat → Bool) (σ' : rS) (D' N' : Nat → Nat) (F' : hF) (A' : hA) (F2' : hF) (A2' : hA) (c' s' : Nat), PHI g' σ' D' N' F' A' → RHI σ' D2 N2 F2' A2' → SEP g' D' D2 → SCR σ' L xs → D' 0 = D 0 → RMG g N c s g' N' c' s' → EQS (A' 10) (A2' 12) → Ew 455 (d + 14) 1065 ls [] σ' c' s' Q) : Ew 455 (d + 14) 986 ls [] σ c s Q := by
  refine Ew_of (pc' := 987) (fun _ => x_aload_n rfl l1) ?_
  refine Ew_of (pc' := 988) (fun _ => x_aload_n rfl l0) ?_
  refine Ew_of (pc' := 989) (fun _ => x_iload_n rfl l3) ?_
  refine Ew_of (pc' := 990) (fun _ => x_iconst rfl) ?_
  refine w_iadd rfl ?_
  refine w_scr hc rfl (by omega) (by omega) ?_
  refine Ew_of (pc' := 993) (fun _ => x_aload_n rfl l0) ?_
  refine Ew_of (pc' := 994) (fun _ => x_iload_n rfl l3) ?_
  refine Ew_of (pc' := 995) (fun _ => x_iconst rfl) ?_
  refine w_iadd rfl ?_
  refine w_scr hc rfl (by omega) (by omega) ?_
  refine w_callk rfl (fun rec => rinvv rfl rfl (X.1.obj 0 (by decide +kernel) (show g 0 = true from X.2.2.1) rfl) rec) rfl (T_bound (d := d + 10) X (hx _) (hx _) (fun z σ1 D1 N1 F1 A1 c1 s1 X1 S1 zr => ⟨rfl, ?_⟩))
  have Y1 := CL_ref Y hs S1.1
  have hc1 := CL_scr X.1 hc S1.1
  have E1 : EQS (A1 10) (A2 12) := by rw [S1.2]; exact hE
  refine Ew_of (pc' := 1001) (fun _ => x_pop rfl rfl) ?_
  refine Ew_of (pc' := 1002) (fun _ => x_aload_n rfl l2) ?_
  refine Ew_of (pc' := 1003) (fun _ => x_aload_n rfl l0) ?_
  refine Ew_of (pc' := 1004) (fun _ => x_iload_n rfl l3) ?_
  refine Ew_of (pc' := 1005) (fun _ => x_iconst rfl) ?_
  refine w_iadd rfl ?_
  refine w_scr hc1 rfl (by omega) (by omega) ?_
  refine Ew_of (pc' := 1008) (fun _ => x_aload_n rfl l0) ?_
  refine Ew_of (pc' := 1009) (fun _ => x_iload_n rfl l3) ?_
  refine Ew_of (pc' := 1010) (fun _ => x_iconst rfl) ?_
  refine w_iadd rfl ?_
  refine w_scr hc1 rfl (by omega) (by omega) ?_
  refine w_callk rfl (fun rec => rinvv rfl rfl (Y1.1.1.obj 0 (Y1.1.1.perm 0 rfl) rfl) rec) rfl (RS_bound (d := d + 12) Y1.1 (hx _) (hx _) (fun z2 σ2 F3 A3 Y2 T2 t12 zr2 => ⟨rfl, ?_⟩))
  have X2 := RF_cls X1 Y1.1.1 Y1.2 T2
  have hc2 := RF_scr Y1.1.1 hc1 T2
  have E2 : EQS (A1 10) (A3 12) := by rw [t12]; exact E1
  refine Ew_of (pc' := 1016) (fun _ => x_pop rfl rfl) ?_
  refine Ew_of (pc' := 1065) (fun _ => x_goto rfl rfl) ?_
  exact k g σ2 D1 N1 F1 A1 F3 A3 _ _ X2 Y2 Y1.2 hc2 S1.1.2.1 (RMG_of S1.1) E2
set_option maxHeartbeats 4000000 in
theorem LC_21 {g : Nat → Bool} {σ : rS} {D N D2 N2 : Nat → Nat} {F F2 : hF} {A A2 : hA} {d c s L : Nat} {xs : Nat → Int} {Q : wQ} (X : PHI g σ D N F A) (Y : RHI σ D2 N2 F2 A2) (hs : SEP g D D2) (hc : SCR σ L xs) (hE : EQS (A 10) (A2 12)) (hx : ∀ j, inr (xs j)) (hL : L ≤ 1000000) {i : Int} (hi : 0 ≤ i ∧ i + 6 ≤ L) {ls : rO} (l0 : rlook ls 0 = some (.ref 11)) (l1 : rlook ls 1 = some (.ref (D 0))) (l2 : rlook ls 2 = some (.ref (D2 0))) (l3 : rlook ls 3 = some (I i)) (k : ∀ (g' : Nat → Bool) (σ' : rS) (D' N' : Nat → Nat) (F' : hF) (A' : hA) (F2' : hF) (A2' : hA) (c' s' : Nat), PHI g' σ' D' N' F' A' → RHI σ' D2 N2 F2' A2' → SEP g' D' D2 → SCR σ' L xs → D' 0 = D 0 → RMG g N c s g' N' c' s' → EQS (A' 10) (A2' 12) → Ew 455 (d + 14) 1065 ls [] σ' c' s' Q) : Ew 455 (d + 14) 1019 ls [] σ c s Q := by
  refine Ew_of (pc' := 1020) (fun _ => x_aload_n rfl l1) ?_
  refine Ew_of (pc' := 1021) (fun _ => x_aload_n rfl l0) ?_
  refine Ew_of (pc' := 1022) (fun _ => x_iload_n rfl l3) ?_
  refine Ew_of (pc' := 1023) (fun _ => x_iconst rfl) ?_
  refine w_iadd rfl ?_
  refine w_scr hc rfl (by omega) (by omega) ?_
  refine w_callk rfl (fun rec => rinvv rfl rfl (X.1.obj 0 (by decide +kernel) (show g 0 = true from X.2.2.1) rfl) rec) rfl (T_about (d := d + 13) X (hx _) (fun z σ1 D1 N1 F1 A1 c1 s1 X1 S1 zr => ⟨rfl, ?_⟩))
  have Y1 := CL_ref Y hs S1.1
  have hc1 := CL_scr X.1 hc S1.1
  have E1 : EQS (A1 10) (A2 12) := by rw [S1.2]; exact hE
  refine Ew_of (pc' := 1029) (fun _ => x_pop rfl rfl) ?_
  refine Ew_of (pc' := 1030) (fun _ => x_aload_n rfl l2) ?_
  refine Ew_of (pc' := 1031) (fun _ => x_aload_n rfl l0) ?_
  refine Ew_of (pc' := 1032) (fun _ => x_iload_n rfl l3) ?_
  refine Ew_of (pc' := 1033) (fun _ => x_iconst rfl) ?_
  refine w_iadd rfl ?_
  refine w_scr hc1 rfl (by omega) (by omega) ?_
  refine w_callk rfl (fun rec => rinvv rfl rfl (Y1.1.1.obj 0 (Y1.1.1.perm 0 rfl) rfl) rec) rfl (RS_about (d := d + 12) Y1.1 (hx _) (fun z2 σ2 F3 A3 Y2 T2 t12 zr2 => ⟨rfl, ?_⟩))
  have X2 := RF_cls X1 Y1.1.1 Y1.2 T2
  have hc2 := RF_scr Y1.1.1 hc1 T2
  have E2 : EQS (A1 10) (A3 12) := by rw [t12]; exact E1
  refine Ew_of (pc' := 1039) (fun _ => x_pop rfl rfl) ?_
  refine Ew_of (pc' := 1065) (fun _ => x_goto rfl rfl) ?_
  exact k g σ2 D1 N1 F1 A1 F3 A3 _ _ X2 Y2 Y1.2 hc2 S1.1.2.1 (RMG_of S1.1) E2
set_option maxHeartbeats 4000000 in
theorem LC_22 {g : Nat → Bool} {σ : rS} {D N D2 N2 : Nat → Nat} {F F2 : hF} {A A2 : hA} {d c s L : Nat} {xs : Nat → Int} {Q : wQ} (X : PHI g σ D N F A) (Y : RHI σ D2 N2 F2 A2) (hs : SEP g D D2) (hc : SCR σ L xs) (hE : EQS (A 10) (A2 12)) (hx : ∀ j, inr (xs j)) (hL : L ≤ 1000000) {i : Int} (hi : 0 ≤ i ∧ i + 6 ≤ L) {ls : rO} (l0 : rlook ls 0 = some (.ref 11)) (l1 : rlook ls 1 = some (.ref (D 0))) (l2 : rlook ls 2 = some (.ref (D2 0))) (l3 : rlook ls 3 = some (I i)) (k : ∀ (g' : Nat → Bool) (σ' : rS) (D' N' : Nat → Nat) (F' : hF) (A' : hA) (F2' : hF) (A2' : hA) (c' s' : Nat), PHI g' σ' D' N' F' A' → RHI σ' D2 N2 F2' A2' → SEP g' D' D2 → SCR σ' L xs → D' 0 = D 0 → RMG g N c s g' N' c' s' → EQS (A' 10) (A2' 12) → Ew 455 (d + 14) 1065 ls [] σ' c' s' Q) : Ew 455 (d + 14) 1042 ls [] σ c s Q := by
  refine Ew_of (pc' := 1043) (fun _ => x_aload_n rfl l1) ?_
  refine Ew_of (pc' := 1044) (fun _ => x_aload_n rfl l0) ?_
  refine Ew_of (pc' := 1045) (fun _ => x_iload_n rfl l3) ?_
  refine Ew_of (pc' := 1046) (fun _ => x_iconst rfl) ?_
  refine w_iadd rfl ?_
  refine w_scr hc rfl (by omega) (by omega) ?_
  refine w_callk rfl (fun rec => rinvv rfl rfl (X.1.obj 0 (by decide +kernel) (show g 0 = true from X.2.2.1) rfl) rec) rfl (T_strayed (d := d + 13) X (hx _) (fun z σ1 D1 N1 F1 A1 c1 s1 X1 S1 zr => ⟨rfl, ?_⟩))
  have Y1 := CL_ref Y hs S1.1
  have hc1 := CL_scr X.1 hc S1.1
  have E1 : EQS (A1 10) (A2 12) := by rw [S1.2]; exact hE
  refine Ew_of (pc' := 1052) (fun _ => x_pop rfl rfl) ?_
  refine Ew_of (pc' := 1053) (fun _ => x_aload_n rfl l2) ?_
  refine Ew_of (pc' := 1054) (fun _ => x_aload_n rfl l0) ?_
  refine Ew_of (pc' := 1055) (fun _ => x_iload_n rfl l3) ?_
  refine Ew_of (pc' := 1056) (fun _ => x_iconst rfl) ?_
  refine w_iadd rfl ?_
  refine w_scr hc1 rfl (by omega) (by omega) ?_
  refine w_callk rfl (fun rec => rinvv rfl rfl (Y1.1.1.obj 0 (Y1.1.1.perm 0 rfl) rfl) rec) rfl (RS_strayed (d := d + 13) Y1.1 (hx _) (fun z2 σ2 F3 A3 Y2 T2 t12 zr2 => ⟨rfl, ?_⟩))
  have X2 := RF_cls X1 Y1.1.1 Y1.2 T2
  have hc2 := RF_scr Y1.1.1 hc1 T2
  have E2 : EQS (A1 10) (A3 12) := by rw [t12]; exact E1
  refine Ew_of (pc' := 1062) (fun _ => x_pop rfl rfl) ?_
  refine Ew_of (pc' := 1065) (fun _ => x_goto rfl rfl) ?_
  exact k g σ2 D1 N1 F1 A1 F3 A3 _ _ X2 Y2 Y1.2 hc2 S1.1.2.1 (RMG_of S1.1) E2
