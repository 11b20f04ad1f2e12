section
/-! X2.sw -/
def swl : List Nat := [0, 1, 2, 3, 4, 5, 6, 7, 8, 9, 10, 11, 12, 19, 20, 21, 22, 23, 24, 13, 14, 15, 16, 17, 18, 25, 26, 27, 28, 29, 30, 31, 32, 33, 34, 35, 36, 37, 38, 39, 40, 41, 42, 43, 44, 45, 46, 47, 48, 49, 50, 51, 52, 53, 54, 55, 56, 57, 58, 59, 60, 61, 62, 63, 64, 65, 66, 67, 68, 69, 70, 71, 72, 73, 74, 75, 76, 77, 78, 79, 80, 81, 82, 83, 84, 85, 86, 87, 88, 89, 90, 91, 92, 93, 94, 95, 96, 97, 98, 99, 100, 101, 102, 103, 104, 105, 106, 107, 108, 109, 110, 111, 112, 113, 114, 115, 116, 117, 118, 119, 120, 121, 122, 123, 124, 125, 126, 127, 128, 129, 130, 131, 132, 133, 134, 135, 136, 137, 138, 139, 140, 141, 142, 143, 144, 145, 146, 147, 148, 149, 150, 151, 152, 153, 154, 155, 156, 157, 158, 159, 160, 161, 162, 163, 164, 165, 166, 167, 168, 169, 170, 171, 172, 173, 174, 175, 176, 177, 178, 179, 180, 181, 182, 183, 184, 185, 186, 187, 188, 189, 190, 191, 192, 193, 194, 195, 196, 197, 198, 199, 200, 201, 202, 203, 204, 205, 206, 207, 208, 209, 210, 211, 212, 213, 214, 215, 216, 217, 218, 219, 220, 221, 222, 223, 224, 225, 226, 227, 228, 229, 230, 231, 232, 233, 234, 235, 236, 237, 238, 239, 240, 241, 242, 243, 244, 245, 246, 247, 248, 249, 250, 251, 252, 253, 254, 255, 256, 257, 258, 310, 311, 312, 313, 314, 315, 316, 317, 318, 319, 320, 321, 322, 323, 324, 325, 326, 327, 328, 329, 330, 331, 332, 333, 334, 335, 336, 337, 338, 339, 340, 341, 342, 343, 344, 345, 346, 347, 348, 349, 350, 351, 352, 353, 354, 355, 356, 357, 358, 359, 360, 259, 260, 261, 262, 263, 264, 265, 266, 267, 268, 269, 270, 271, 272, 273, 274, 275, 276, 277, 278, 279, 280, 281, 282, 283, 284, 285, 286, 287, 288, 289, 290, 291, 292, 293, 294, 295, 296, 297, 298, 299, 300, 301, 302, 303, 304, 305, 306, 307, 308, 309]
def sw (x : Nat) : Nat := swl.getD x x
def swj (j : Nat) : Nat := bif Nat.beq j 7 then 8 else bif Nat.beq j 8 then 7 else j
def swg (g : Nat → Bool) : Nat → Bool := fun j => g (swj j)
def swa : List Nat := [13, 14, 15, 16, 17, 18, 259, 260, 261, 262, 263, 264, 265, 266, 267, 268, 269, 270, 271, 272, 273, 274, 275, 276, 277, 278, 279, 280, 281, 282, 283, 284, 285, 286, 287, 288, 289, 290, 291, 292, 293, 294, 295, 296, 297, 298, 299, 300, 301, 302, 303, 304, 305, 306, 307, 308, 309]
def swb : List Nat := [19, 20, 21, 22, 23, 24, 310, 311, 312, 313, 314, 315, 316, 317, 318, 319, 320, 321, 322, 323, 324, 325, 326, 327, 328, 329, 330, 331, 332, 333, 334, 335, 336, 337, 338, 339, 340, 341, 342, 343, 344, 345, 346, 347, 348, 349, 350, 351, 352, 353, 354, 355, 356, 357, 358, 359, 360]
theorem sw_all {p : Nat → Bool} (h : (List.range VPH.length).all p = true) {x : Nat} (hx : x < VPH.length) : p x = true := List.all_eq_true.mp h x (List.mem_range.mpr hx)
theorem sw_lt {x : Nat} (hx : x < VPH.length) : sw x < VPH.length := blt_of (sw_all (p := fun x => Nat.blt (sw x) VPH.length) (by decide +kernel) hx)
theorem sw_sw {x : Nat} (hx : x < VPH.length) : sw (sw x) = x := Nat.eq_of_beq_eq_true (sw_all (p := fun x => Nat.beq (sw (sw x)) x) (by decide +kernel) hx)
theorem sw_g {x : Nat} (hx : x < VPH.length) : GPH.getD (sw x) 0 = swj (GPH.getD x 0) := Nat.eq_of_beq_eq_true (sw_all (p := fun x => Nat.beq (GPH.getD (sw x) 0) (swj (GPH.getD x 0))) (by decide +kernel) hx)
theorem sw_v {x : Nat} (hx : x < VPH.length) : vent VPH (sw x) = vent VPH x := of_decide_eq_true (sw_all (p := fun x => decide (vent VPH (sw x) = vent VPH x)) (by decide +kernel) hx)
theorem sw_S {g : Nat → Bool} {x : Nat} (hx : x < VPH.length) : SPH (swg g) x = SPH g (sw x) := by
  unfold SPH swg
  rw [sw_g hx]
theorem sw_h {σ : rS} {g : Nat → Bool} {D N : Nat → Nat} {F : hF} {A : hA} (H : HWs (SPH g) VPH σ D N F A) : HWs (SPH (swg g)) VPH σ (fun x => D (sw x)) (fun x => N (sw x)) (fun x => F (sw x)) (fun x => A (sw x)) := by
  have va_ : ∀ {x : Nat}, x < VPH.length → varr VPH (sw x) = varr VPH x := fun hx => by unfold varr vtc; rw [sw_v hx]
  have vk_ : ∀ {x : Nat}, x < VPH.length → vak VPH (sw x) = vak VPH x := fun hx => by unfold vak vtc; rw [sw_v hx]
  refine ⟨fun x hx hp ha => ?_, fun x hx hp ha => ?_, fun x y hx hy hp hq e => ?_, fun x hx hp => H.lo _ (sw_lt hx) (by rw [← sw_S hx]; exact hp), fun x k hx hp => ?_, fun x i hx hp ha => ?_, fun x hx hp => H.nle _ (sw_lt hx) (by rw [← sw_S hx]; exact hp)⟩
  · show rat σ (D (sw x)) = _
    rw [H.obj _ (sw_lt hx) (by rw [← sw_S hx]; exact hp) (by rw [va_ hx]; exact ha)]
    unfold vcell vcls vtc vnf vfd
    rw [sw_v hx]
    congr 3
    apply List.map_congr_left
    intro k hk
    exact vf_eq rfl (fun q => absurd q (vn3_f (V := VPH) (x := x) (k := k) VPH_3))
  · have w := H.arr _ (sw_lt hx) (by rw [← sw_S hx]; exact hp) (by rw [va_ hx]; exact ha)
    rw [vk_ hx] at w
    exact w
  · have := H.inj _ _ (sw_lt hx) (sw_lt hy) (by rw [← sw_S hx]; exact hp) (by rw [← sw_S hy]; exact hq) e
    rw [← sw_sw hx, this, sw_sw hy]
  · have w := H.krg (sw x) k (sw_lt hx) (by rw [← sw_S hx]; exact hp)
    unfold vfd at w ⊢
    rw [sw_v hx] at w
    exact w
  · have w := H.arg (sw x) i (sw_lt hx) (by rw [← sw_S hx]; exact hp) (by rw [va_ hx]; exact ha)
    rw [vk_ hx] at w
    exact w
theorem sum_vs {h : Nat → Int} : ∀ (l : List Nat), vs (fun x => h (l.getD x 0)) l.length = (l.map h).sum
  | [] => rfl
  | a :: l => by
    have e : vs (fun x => h ((a :: l).getD x 0)) (l.length + 1) = h a + vs (fun x => h (l.getD x 0)) l.length := vs_cons
    show vs (fun x => h ((a :: l).getD x 0)) (l.length + 1) = _
    rw [e, sum_vs l, List.map_cons, List.sum_cons]
theorem sw_vs (h : Nat → Int) : vs (fun x => h (sw x)) VPH.length = vs h VPH.length := by
  have nd : nodB (swa ++ swb) = true := by decide +kernel
  have lt : ∀ x, x < (swa ++ swb).length → (swa ++ swb).getD x 0 < VPH.length := fun x hx => blt_of (List.all_eq_true.mp (show (List.range (swa ++ swb).length).all (fun x => Nat.blt ((swa ++ swb).getD x 0) VPH.length) = true by decide +kernel) x (List.mem_range.mpr hx))
  have e1 := vs_part (g := h) nd lt
  have e2 := vs_part (g := fun x => h (sw x)) nd lt
  have e3 := vs_congr (g := fun y => if (fnd y (swa ++ swb)).isSome then 0 else h (sw y)) (h := fun y => if (fnd y (swa ++ swb)).isSome then 0 else h y) (n := VPH.length) (fun y hy => by
    have w := sw_all (p := fun y => (fnd y (swa ++ swb)).isSome || Nat.beq (sw y) y) (by decide +kernel) hy
    rw [Bool.or_eq_true] at w
    rcases w with w | w
    · rw [if_pos w, if_pos w]
    · rw [Nat.eq_of_beq_eq_true w])
  have e4 := sum_vs (h := h) (swa ++ swb)
  have e5 := sum_vs (h := fun x => h (sw x)) (swa ++ swb)
  have e6 : (swa ++ swb).map (fun x => h (sw x)) = (swb ++ swa).map h := by
    rw [show (swb ++ swa) = (swa ++ swb).map sw by decide +kernel, List.map_map]
    rfl
  have e7 : ((swb ++ swa).map h).sum = ((swa ++ swb).map h).sum := by
    rw [List.map_append, List.map_append, List.sum_append, List.sum_append]
    omega
  rw [e6, e7] at e5
  rw [e3] at e2
  omega
theorem EQD_sw {D N : Nat → Nat} {F F1 : hF} {A : hA} {LF : List (Nat × Nat)} {LA LN LD : List Nat} (hF : ∀ x k, x ≠ 0 → F1 x k = F x k) (h : (LF.all (fun q => Nat.beq (sw q.1) q.1 && !(Nat.beq q.1 0)) && (LA.all (fun x => Nat.beq (sw x) x) && (LN.all (fun x => Nat.beq (sw x) x) && LD.all (fun x => Nat.beq (sw x) x)))) = true) : EQD LF LA LN LD D N F A (fun x => D (sw x)) (fun x => N (sw x)) (fun x => F1 (sw x)) (fun x => A (sw x)) := by
  simp only [Bool.and_eq_true] at h
  obtain ⟨c1, c2, c3, c4⟩ := h
  refine ⟨fun q hq => ?_, fun x hx => ?_, fun x hx => ?_, fun x hx => ?_⟩
  · have w := List.all_eq_true.mp c1 q hq
    rw [Bool.and_eq_true] at w
    show F1 (sw q.1) q.2 = F q.1 q.2
    rw [Nat.eq_of_beq_eq_true w.1]
    refine hF _ _ (fun e => ?_)
    have w2 := w.2
    rw [e] at w2
    cases w2
  · show A (sw x) = A x
    rw [Nat.eq_of_beq_eq_true (List.all_eq_true.mp c2 x hx)]
  · show N (sw x) = N x
    rw [Nat.eq_of_beq_eq_true (List.all_eq_true.mp c3 x hx)]
  · show D (sw x) = D x
    rw [Nat.eq_of_beq_eq_true (List.all_eq_true.mp c4 x hx)]
def OD8 (Dc : DcS) (D N : Nat → Nat) (F : hF) (A : hA) : Prop := (HID ((F 22 0) = -1 ∨ (F 22 0) = (((D 310 : Nat) : Int)) ∧ 0 ≤ (F 310 3) ∧ (F 310 3) ≤ 11)) ∧ (HID ((F 22 0) = -1 ∨ LNG ((A 311)) ((F 310 3)))) ∧ (HID (((A 23)) 0 = -1 ∨ ((A 23)) 0 = (((D 334 : Nat) : Int)))) ∧ (HID (((A 23)) 1 = -1 ∨ ((A 23)) 1 = (((D 343 : Nat) : Int)))) ∧ (HID (((A 23)) 2 = -1 ∨ ((A 23)) 2 = (((D 352 : Nat) : Int)))) ∧ (HID (((A 23)) 0 = -1 ∨ SL ((A 335)) ((F 334 1)) ((F 334 0)) ((A 336)) ((A 337)) ((A 338)) ((A 340)) ((A 341)) ((A 342)))) ∧ (HID (((A 23)) 1 = -1 ∨ SL ((A 344)) ((F 343 1)) ((F 343 0)) ((A 345)) ((A 346)) ((A 347)) ((A 349)) ((A 350)) ((A 351)))) ∧ (HID (((A 23)) 2 = -1 ∨ SL ((A 353)) ((F 352 1)) ((F 352 0)) ((A 354)) ((A 355)) ((A 356)) ((A 358)) ((A 359)) ((A 360)))) ∧ (HID (((A 23)) 0 = -1 ∨ (F 334 0) ≤ 9)) ∧ (HID (((A 23)) 1 = -1 ∨ (F 343 0) ≤ 8)) ∧ (HID (((A 23)) 2 = -1 ∨ (F 352 0) ≤ 9)) ∧ (DCQ Dc.2.2.1 ((F 22 0)) ((F 310 3)) ((A 313))) ∧ (DCT (Dc.2.2.2.1 0) (((A 23)) 0) ((F 334 0)) ((F 334 1)) ((A 335))) ∧ (DCT (Dc.2.2.2.1 1) (((A 23)) 1) ((F 343 0)) ((F 343 1)) ((A 344))) ∧ (DCT (Dc.2.2.2.1 2) (((A 23)) 2) ((F 352 0)) ((F 352 1)) ((A 353))) ∧ (DCW Dc.2.2.1 ((F 22 0)) ((F 310 3)) ((A 311)) ((A 313)) ((A 312)))
def ON8 (Dc : DcS) (D N : Nat → Nat) (F : hF) (A : hA) : Prop := ((F 22 0) = -1) ∧ (((A 23)) 0 = -1) ∧ (((A 23)) 1 = -1) ∧ (((A 23)) 2 = -1) ∧ (Dc.2.2.1.1 = 0) ∧ ((Dc.2.2.2.1 0).1 < 0) ∧ ((Dc.2.2.2.1 1).1 < 0) ∧ ((Dc.2.2.2.1 2).1 < 0)
theorem PHI_swap {Dc : DcS} {Dn : DcS} {g : Nat → Bool} {σ σ1 : rS} {D N : Nat → Nat} {F F1 : hF} {A : hA} (X : PHI Dc g σ D N F A) (hk : DCK Dn (sc ((A 21)) 0 ((F 20 1))) ((F 19 2)) ((A 24))) (ho : DCo Dn) (hl : DCl Dn) (hgood : g 8 = true ∧ OD8 Dn D N F A ∨ g 8 = false ∧ ON8 Dn D N F A) (HW1 : HWs (SPH g) VPH σ1 D N F1 A) (HT1 : STC σ1) (hF : ∀ x k, x ≠ 0 → F1 x k = F x k) (hF0 : ∀ k, k ≠ 3 → k ≠ 4 → F1 0 k = F 0 k) (z1 : F1 0 3 = (D 19 : Int)) (z2 : F1 0 4 = (D 13 : Int)) : PHI Dn (swg g) σ1 (fun x => D (sw x)) (fun x => N (sw x)) (fun x => F1 (sw x)) (fun x => A (sw x)) := by
  obtain ⟨HX, HT, hg0, hPF, hAB, hNZ, hGI, hI0, hI1, hI2, hI3, hI4, hI5, hI6, hI7, hI8, hI9⟩ := X
  unfold INV0 at hI0
  obtain ⟨f0_0, f0_1, f0_2, f0_3, f0_4, f0_5, f0_6, f0_7, f0_8, f0_9, f0_10, f0_11, f0_12, f0_13, f0_14, f0_15, f0_16, f0_17, f0_18, f0_19, f0_20, f0_21, f0_22, f0_23, f0_24⟩ := hI0
  refine ⟨sw_h HW1, HT1, hg0, fun e he h1 h2 => ?_, fun e he hb => ?_, fun x hx => ?_, hGI, ⟨(show 0 ≤ (F1 2 1) ∧ (F1 2 1) ≤ ((N 3 : Int)) ∧ ((N 3 : Int)) ≤ 65536 from (by rw [hF 2 1 (by decide)]; exact f0_0)), (show 0 ≤ (F1 4 1) ∧ (F1 4 1) ≤ ((N 5 : Int)) ∧ ((N 5 : Int)) ≤ 65536 from (by rw [hF 4 1 (by decide)]; exact f0_1)), (show 0 ≤ (F1 6 1) ∧ (F1 6 1) ≤ ((N 7 : Int)) ∧ ((N 7 : Int)) ≤ 65536 from (by rw [hF 6 1 (by decide)]; exact f0_2)), (show 0 ≤ (F1 8 1) ∧ (F1 8 1) ≤ ((N 9 : Int)) ∧ ((N 9 : Int)) ≤ 65536 from (by rw [hF 8 1 (by decide)]; exact f0_3)), (show 0 ≤ (F1 11 1) ∧ (F1 11 1) ≤ ((N 12 : Int)) ∧ ((N 12 : Int)) ≤ 65536 from (by rw [hF 11 1 (by decide)]; exact f0_4)), (show 0 ≤ (F1 25 1) ∧ (F1 25 1) ≤ ((N 26 : Int)) ∧ ((N 26 : Int)) ≤ 65536 from (by rw [hF 25 1 (by decide)]; exact f0_5)), (show 0 ≤ (F1 27 1) ∧ (F1 27 1) ≤ ((N 28 : Int)) ∧ ((N 28 : Int)) ≤ 65536 from (by rw [hF 27 1 (by decide)]; exact f0_6)), (show 0 ≤ (F1 20 1) ∧ (F1 20 1) ≤ ((N 21 : Int)) ∧ ((N 21 : Int)) ≤ 65536 from (by rw [hF 20 1 (by decide)]; exact f0_8)), (show 0 ≤ (F1 14 1) ∧ (F1 14 1) ≤ ((N 15 : Int)) ∧ ((N 15 : Int)) ≤ 65536 from (by rw [hF 14 1 (by decide)]; exact f0_7)), (show ((N 1 : Int)) = 4 from f0_9), (show ((N 10 : Int)) = 10 from f0_10), (show ((N 29 : Int)) = 13 from f0_11), (show ((N 30 : Int)) = 5 from f0_12), (show ((N 31 : Int)) = 5 from f0_13), (show ((N 32 : Int)) = 2 from f0_14), (show ((N 23 : Int)) = 3 ∧ ((N 24 : Int)) = 3 from f0_16), (show ((N 17 : Int)) = 3 ∧ ((N 18 : Int)) = 3 from f0_15), (show (F1 2 2) = 0 from (by rw [hF 2 2 (by decide)]; exact f0_17)), (show (F1 4 2) = 0 from (by rw [hF 4 2 (by decide)]; exact f0_18)), (show (F1 6 2) = 0 from (by rw [hF 6 2 (by decide)]; exact f0_19)), (show (F1 8 2) = 0 from (by rw [hF 8 2 (by decide)]; exact f0_20)), (show DCK Dn (sc ((A 21)) 0 ((F1 20 1))) ((F1 19 2)) ((A 24)) from (by rw [hF 19 2 (by decide), hF 20 1 (by decide)]; exact hk)), ho, hl, (show SETI ((A 10)) from f0_24)⟩, fun h => INV1_eq (EQD_sw hF (by decide +kernel)) (hI1 h), fun h => INV2_eq (EQD_sw hF (by decide +kernel)) (hI2 h), fun h => INV3_eq (EQD_sw hF (by decide +kernel)) (hI3 h), fun h => INV4_eq (EQD_sw hF (by decide +kernel)) (hI4 h), fun h => INV5_eq (EQD_sw hF (by decide +kernel)) (hI5 h), fun h => INV6_eq (EQD_sw hF (by decide +kernel)) (hI6 h), ?_, ?_, ?_⟩
  · have w := List.all_eq_true.mp (show PFT.all (fun e => decide (e = (0, 0, 3, 13)) || (decide (e = (0, 0, 4, 19)) || ((decide (e.2.1 = 0) && (!(Nat.beq e.2.2.1 3) && (!(Nat.beq e.2.2.1 4) && (Nat.beq (sw e.2.2.2) e.2.2.2 && Nat.beq e.1 0)))) || (!(Nat.beq e.2.1 0) && (!(Nat.beq (sw e.2.1) 0) && PFT.any (fun q => decide (q = (e.1, sw e.2.1, e.2.2.1, sw e.2.2.2)))))))) = true by decide +kernel) e he
    have l := PFT_lt e he
    rw [sw_S l.1] at h1
    rw [sw_S l.2] at h2
    simp only [Bool.or_eq_true, Bool.and_eq_true, decide_eq_true_eq] at w
    rcases w with w | w | w | w
    · subst w
      exact z1
    · subst w
      exact z2
    · obtain ⟨w1, w2, w3, w4, w5⟩ := w
      have w4 := Nat.eq_of_beq_eq_true w4
      have w5 := Nat.eq_of_beq_eq_true w5
      rw [w4] at h2
      rw [w1] at h1
      have v := hPF e he (by rw [w1]; exact h1) h2
      unfold rval at v ⊢
      rw [w5, w1] at v ⊢
      have v : F 0 e.2.2.1 = (D e.2.2.2 : Int) := v
      show F1 (sw 0) e.2.2.1 = ((D (sw e.2.2.2) : Nat) : Int)
      rw [w4]
      refine (hF0 _ (fun q => ?_) (fun q => ?_)).trans v
      · rw [q] at w2; cases w2
      · rw [q] at w3; cases w3
    · obtain ⟨w1, w2, w3⟩ := w
      obtain ⟨q, q1, q2⟩ := List.any_eq_true.mp w3
      have q2 := of_decide_eq_true q2
      subst q2
      have v := hPF _ q1 h1 h2
      unfold rval at v ⊢
      have hne : sw e.2.1 ≠ 0 := fun q => by rw [q] at w2; cases w2
      cases hk_ : Nat.beq e.1 0 with
      | true =>
        rw [hk_] at v
        have v : F (sw e.2.1) e.2.2.1 = ((D (sw e.2.2.2) : Nat) : Int) := v
        show F1 (sw e.2.1) e.2.2.1 = _
        rw [hF _ _ hne]
        exact v
      | false =>
        rw [hk_] at v
        exact v
  · have w := List.all_eq_true.mp (show ABT.all (fun e => ABT.any (fun q => decide (q = (swj e.1, sw e.2.1, e.2.2))) && (!(Nat.beq (sw e.2.1) 0) || (!(Nat.beq e.2.2 3) && !(Nat.beq e.2.2 4)))) = true by decide +kernel) e he
    rw [Bool.and_eq_true] at w
    obtain ⟨q, q1, q2⟩ := List.any_eq_true.mp w.1
    have q2 := of_decide_eq_true q2
    subst q2
    have v : F (sw e.2.1) e.2.2 = -1 := hAB _ q1 hb
    show F1 (sw e.2.1) e.2.2 = -1
    by_cases q : sw e.2.1 = 0
    · have w2 := w.2
      rw [q] at w2 v ⊢
      rw [Bool.or_eq_true, Bool.and_eq_true] at w2
      rcases w2 with w2 | w2
      · cases w2
      · refine (hF0 _ (fun r => ?_) (fun r => ?_)).trans v
        · rw [r] at w2; cases w2.1
        · rw [r] at w2; cases w2.2
    · rw [hF _ _ q]
      exact v
  · have e : FXT.getD (sw x) 0 = FXT.getD x 0 := Nat.eq_of_beq_eq_true (sw_all (p := fun x => Nat.beq (FXT.getD (sw x) 0) (FXT.getD x 0)) (by decide +kernel) hx)
    have w := hNZ _ (sw_lt hx)
    rw [e] at w
    rw [sw_S hx]
    exact w
  · intro h
    have h8 : g 8 = true := h
    have hJ := hI8 h8
    unfold INV8 at hJ
    obtain ⟨f8_0, f8_1, f8_2, f8_3, f8_4, f8_5, f8_6⟩ := hJ
    rcases hgood with ⟨-, hd⟩ | ⟨q, -⟩
    · unfold OD8 at hd
      obtain ⟨j0, j1, j2, j3, j4, j5, j6, j7, j8, j9, j10, j11, j12, j13, j14, j15⟩ := hd
      exact ⟨(show ((N 333 : Int)) = 3 from f8_0), (show CDZD (((N 311 : Int))) (((N 312 : Int))) (((N 313 : Int))) (((N 314 : Int))) (((N 315 : Int))) (((N 330 : Int))) (((N 331 : Int))) (((N 332 : Int))) from f8_1), (show SHZD (((N 317 : Int))) (((N 318 : Int))) (((N 319 : Int))) (((N 320 : Int))) (((N 321 : Int))) (((N 322 : Int))) (((N 323 : Int))) (((N 324 : Int))) ((F1 316 1)) 12 64 from (by rw [hF 316 1 (by decide)]; exact f8_2)), (show SHZD (((N 335 : Int))) (((N 336 : Int))) (((N 337 : Int))) (((N 338 : Int))) (((N 339 : Int))) (((N 340 : Int))) (((N 341 : Int))) (((N 342 : Int))) ((F1 334 1)) 36 512 from (by rw [hF 334 1 (by decide)]; exact f8_3)), (show SHZD (((N 344 : Int))) (((N 345 : Int))) (((N 346 : Int))) (((N 347 : Int))) (((N 348 : Int))) (((N 349 : Int))) (((N 350 : Int))) (((N 351 : Int))) ((F1 343 1)) 32 256 from (by rw [hF 343 1 (by decide)]; exact f8_4)), (show SHZD (((N 353 : Int))) (((N 354 : Int))) (((N 355 : Int))) (((N 356 : Int))) (((N 357 : Int))) (((N 358 : Int))) (((N 359 : Int))) (((N 360 : Int))) ((F1 352 1)) 53 512 from (by rw [hF 352 1 (by decide)]; exact f8_5)), (show CEL ((A 313)) from f8_6), (show HID ((F1 22 0) = -1 ∨ (F1 22 0) = (((D 310 : Nat) : Int)) ∧ 0 ≤ (F1 310 3) ∧ (F1 310 3) ≤ 11) from (by rw [hF 22 0 (by decide), hF 310 3 (by decide)]; exact j0)), (show HID ((F1 22 0) = -1 ∨ LNG ((A 311)) ((F1 310 3))) from (by rw [hF 22 0 (by decide), hF 310 3 (by decide)]; exact j1)), (show HID (((A 23)) 0 = -1 ∨ ((A 23)) 0 = (((D 334 : Nat) : Int))) from j2), (show HID (((A 23)) 1 = -1 ∨ ((A 23)) 1 = (((D 343 : Nat) : Int))) from j3), (show HID (((A 23)) 2 = -1 ∨ ((A 23)) 2 = (((D 352 : Nat) : Int))) from j4), (show HID (((A 23)) 0 = -1 ∨ SL ((A 335)) ((F1 334 1)) ((F1 334 0)) ((A 336)) ((A 337)) ((A 338)) ((A 340)) ((A 341)) ((A 342))) from (by rw [hF 334 0 (by decide), hF 334 1 (by decide)]; exact j5)), (show HID (((A 23)) 1 = -1 ∨ SL ((A 344)) ((F1 343 1)) ((F1 343 0)) ((A 345)) ((A 346)) ((A 347)) ((A 349)) ((A 350)) ((A 351))) from (by rw [hF 343 0 (by decide), hF 343 1 (by decide)]; exact j6)), (show HID (((A 23)) 2 = -1 ∨ SL ((A 353)) ((F1 352 1)) ((F1 352 0)) ((A 354)) ((A 355)) ((A 356)) ((A 358)) ((A 359)) ((A 360))) from (by rw [hF 352 0 (by decide), hF 352 1 (by decide)]; exact j7)), (show HID (((A 23)) 0 = -1 ∨ (F1 334 0) ≤ 9) from (by rw [hF 334 0 (by decide)]; exact j8)), (show HID (((A 23)) 1 = -1 ∨ (F1 343 0) ≤ 8) from (by rw [hF 343 0 (by decide)]; exact j9)), (show HID (((A 23)) 2 = -1 ∨ (F1 352 0) ≤ 9) from (by rw [hF 352 0 (by decide)]; exact j10)), (show DCQ Dn.2.2.1 ((F1 22 0)) ((F1 310 3)) ((A 313)) from (by rw [hF 22 0 (by decide), hF 310 3 (by decide)]; exact j11)), (show DCT (Dn.2.2.2.1 0) (((A 23)) 0) ((F1 334 0)) ((F1 334 1)) ((A 335)) from (by rw [hF 334 0 (by decide), hF 334 1 (by decide)]; exact j12)), (show DCT (Dn.2.2.2.1 1) (((A 23)) 1) ((F1 343 0)) ((F1 343 1)) ((A 344)) from (by rw [hF 343 0 (by decide), hF 343 1 (by decide)]; exact j13)), (show DCT (Dn.2.2.2.1 2) (((A 23)) 2) ((F1 352 0)) ((F1 352 1)) ((A 353)) from (by rw [hF 352 0 (by decide), hF 352 1 (by decide)]; exact j14)), (show DCW Dn.2.2.1 ((F1 22 0)) ((F1 310 3)) ((A 311)) ((A 313)) ((A 312)) from (by rw [hF 22 0 (by decide), hF 310 3 (by decide)]; exact j15))⟩
    · rw [h8] at q; cases q
  · intro h
    have hJ := hI7 h
    unfold INV7 at hJ
    obtain ⟨f7_0, f7_1, f7_2, f7_3, f7_4, f7_5, f7_6, f7_7, f7_8, f7_9, f7_10, f7_11, f7_12, f7_13, f7_14, f7_15, f7_16, f7_17, f7_18, f7_19, f7_20, f7_21, f7_22⟩ := hJ
    exact ⟨(show ((N 282 : Int)) = 3 from f7_0), (show CDZD (((N 260 : Int))) (((N 261 : Int))) (((N 262 : Int))) (((N 263 : Int))) (((N 264 : Int))) (((N 279 : Int))) (((N 280 : Int))) (((N 281 : Int))) from f7_1), (show SHZD (((N 266 : Int))) (((N 267 : Int))) (((N 268 : Int))) (((N 269 : Int))) (((N 270 : Int))) (((N 271 : Int))) (((N 272 : Int))) (((N 273 : Int))) ((F1 265 1)) 12 64 from (by rw [hF 265 1 (by decide)]; exact f7_2)), (show SHZD (((N 284 : Int))) (((N 285 : Int))) (((N 286 : Int))) (((N 287 : Int))) (((N 288 : Int))) (((N 289 : Int))) (((N 290 : Int))) (((N 291 : Int))) ((F1 283 1)) 36 512 from (by rw [hF 283 1 (by decide)]; exact f7_3)), (show SHZD (((N 293 : Int))) (((N 294 : Int))) (((N 295 : Int))) (((N 296 : Int))) (((N 297 : Int))) (((N 298 : Int))) (((N 299 : Int))) (((N 300 : Int))) ((F1 292 1)) 32 256 from (by rw [hF 292 1 (by decide)]; exact f7_4)), (show SHZD (((N 302 : Int))) (((N 303 : Int))) (((N 304 : Int))) (((N 305 : Int))) (((N 306 : Int))) (((N 307 : Int))) (((N 308 : Int))) (((N 309 : Int))) ((F1 301 1)) 53 512 from (by rw [hF 301 1 (by decide)]; exact f7_5)), (show CEL ((A 262)) from f7_6)⟩
  · intro h
    rcases hgood with ⟨q, -⟩ | ⟨-, hd⟩
    · have h : g 8 = false := h
      rw [h] at q; cases q
    · unfold ON8 at hd
      obtain ⟨j0, j1, j2, j3, j4, j5, j6, j7⟩ := hd
      exact ⟨(show (F1 22 0) = -1 from (by rw [hF 22 0 (by decide)]; exact j0)), (show ((A 23)) 0 = -1 from j1), (show ((A 23)) 1 = -1 from j2), (show ((A 23)) 2 = -1 from j3), (show Dn.2.2.1.1 = 0 from j4), (show (Dn.2.2.2.1 0).1 < 0 from j5), (show (Dn.2.2.2.1 1).1 < 0 from j6), (show (Dn.2.2.2.1 2).1 < 0 from j7)⟩


end
section
/-! X3.le -/
theorem T_hear0 {Dc : DcS} {g : Nat → Bool} {σ : rS} {D N : Nat → Nat} {F : hF} {A : hA} {d c s : Nat} {Q : wQ} (X : PHI Dc g σ D N F A) (k : ∀ (z : Int) (gₚ : Nat → Bool) (σₚ : rS) (Dₚ Nₚ : Nat → Nat) (Fₚ : hF) (Aₚ : hA) (cₚ sₚ : Nat), PHI Dc gₚ σₚ Dₚ Nₚ Fₚ Aₚ → STP g σ D N A c s gₚ σₚ Dₚ Nₚ Aₚ cₚ sₚ → EQD [(2, 1), (4, 1), (6, 1), (8, 1), (11, 1), (0, 18), (25, 1)] [3, 5, 7, 9, 12, 10, 29, 30, 32, 26] [] [] D N F A Dₚ Nₚ Fₚ Aₚ → inr z → z = (LNF (ap (sc (A 3) 0 (F 2 1))) ((sc (A 3) 0 (F 2 1)).length : Int)).1 → (0 ≤ z → (DCK (LNF (ap (sc (A 3) 0 (F 2 1))) ((sc (A 3) 0 (F 2 1)).length : Int)).2 (sc ((Aₚ 21)) 0 ((Fₚ 20 1))) ((Fₚ 19 2)) ((Aₚ 24)) ∧ (gₚ 8 = true ∧ OD8 (LNF (ap (sc (A 3) 0 (F 2 1))) ((sc (A 3) 0 (F 2 1)).length : Int)).2 Dₚ Nₚ Fₚ Aₚ ∨ gₚ 8 = false ∧ ON8 (LNF (ap (sc (A 3) 0 (F 2 1))) ((sc (A 3) 0 (F 2 1)).length : Int)).2 Dₚ Nₚ Fₚ Aₚ))) → Q (some (I z)) σₚ cₚ sₚ) : Ew 115 (d + 5) 0 (rargs 0 [.ref (D 19), .ref (D 2)]) [] σ c s Q := by
  have hri : 0 ≤ F 2 1 ∧ F 2 1 ≤ 65536 := by have w := X.2.2.2.2.2.2.2.1; unfold INV0 at w; have w := w.1; omega
  have hln : LNF (ub8 (A 3)) (F 2 1) = (LNF (ap (sc (A 3) 0 (F 2 1))) ((sc (A 3) 0 (F 2 1)).length : Int)) := LNF_c hri.1
  cases h8 : g 8 with
  | true =>
    refine T_hr0 (d := d + 0) X h8 (fun z σ1 D1 N1 F1 A1 c1 s1 X1 S1 E1 zr u0 u1 u2 u3 u4 u5 u6 u7 u8 u9 u10 j0 j1 j2 j3 j4 j5 j6 => ?_)
    rw [hln] at j0 j1 j2 j3 j4 j5 j6
    exact k z g σ1 D1 N1 F1 A1 c1 s1 X1 (S1) (EQD_sub (by decide) E1) zr j0 (fun hz => ⟨j1 hz, .inl ⟨h8, ⟨Or.resolve_left u0 (by omega), Or.resolve_left u1 (by omega), Or.resolve_left u2 (by omega), Or.resolve_left u3 (by omega), Or.resolve_left u4 (by omega), Or.resolve_left u5 (by omega), Or.resolve_left u6 (by omega), Or.resolve_left u7 (by omega), Or.resolve_left u8 (by omega), Or.resolve_left u9 (by omega), Or.resolve_left u10 (by omega), j2 hz, j3 hz, j4 hz, j5 hz, j6 hz⟩⟩⟩)
  | false =>
    refine T_ha0 (d := d + 1) X (fun x3 ls σ1 D1 N1 F1 A1 c1 s1 X1 S1 E1 l0 l2 l3 e0 e1 e2 e3 e4 => ?_) (fun z σ1 D1 N1 F1 A1 c1 s1 X1 S1 E1 zr v0 v1 v2 v3 j0 j1 => ?_)
    · have hg0 : g 0 = true := X1.2.2.1
      refine w_callk rfl (fun rec => rinvv rfl rfl (X1.1.obj 19 (by decide +kernel) hg0 rfl) rec) rfl (T_mk_par8 (d := d + 1) X1 h8 (fun σ2 D2 N2 F2 A2 c2 s2 X2 S2 K2 K0 => ⟨rfl, ?_⟩))
      have d0 : D2 19 = D1 19 := (K2 19 (by decide +kernel) hg0).1
      have d2 : D2 3 = D1 3 := (K2 3 (by decide +kernel) hg0).1
      have n2 : N2 3 = N1 3 := ((K2 3 (by decide +kernel) hg0).2 (by decide)).1
      have f2 : F2 20 1 = 0 := by rw [((K2 20 (by decide +kernel) hg0).2 (by decide)).2.2]; exact e1
      have f3 : F2 20 2 = 0 := by rw [((K2 20 (by decide +kernel) hg0).2 (by decide)).2.2]; exact e2
      have hrb : F1 2 1 ≤ (N1 3 : Int) ∧ (N1 3 : Int) ≤ 65536 := by have w := X1.2.2.2.2.2.2.2.1; unfold INV0 at w; have w := w.1; omega
      have E12 : EQD [(2, 1), (4, 1), (6, 1), (8, 1), (11, 1), (0, 18), (25, 1)] [3, 5, 7, 9, 12, 10, 29, 30, 32, 26] [] [] D N F A D2 N2 F2 A2 := EQD_tr (EQD_sub (by decide) E1) (KEP_EQ K2 K0.1 hg0 (by decide +kernel))
      have a2 : A2 3 = A 3 := E12.2.1 3 (by decide)
      have f21 : F2 2 1 = F 2 1 := E12.1 (2, 1) (by decide)
      have f11 : F1 2 1 = F 2 1 := (EQD_sub (by decide) E1 : EQD [(2, 1)] [] [] [] D N F A D1 N1 F1 A1).1 (2, 1) (by decide)
      refine T_hb0 (d := d + 0) X2 (gset_m rfl) (by rw [d0]; exact l0) (by rw [d2]; exact l2) l3 (by omega) (by omega) f2 f3 (by rw [a2]; exact e3) (by rw [K0.2, a2]; exact e4) (fun z σ3 D3 N3 F3 A3 c3 s3 X3 S3 E3 zr u0 u1 u2 u3 u4 u5 u6 u7 u8 u9 u10 j0 j1 j2 j3 j4 j5 j6 => ?_)
      rw [a2, e0.2, hln] at j0 j1 j2 j3 j4 j5 j6
      exact k z _ σ3 D3 N3 F3 A3 c3 s3 X3 (STP_trans (STP_tr0 S1 S2) S3) (EQD_tr E12 (EQD_sub (by decide) E3)) zr j0 (fun hz => ⟨j1 hz, .inl ⟨gset_m rfl, ⟨Or.resolve_left u0 (by omega), Or.resolve_left u1 (by omega), Or.resolve_left u2 (by omega), Or.resolve_left u3 (by omega), Or.resolve_left u4 (by omega), Or.resolve_left u5 (by omega), Or.resolve_left u6 (by omega), Or.resolve_left u7 (by omega), Or.resolve_left u8 (by omega), Or.resolve_left u9 (by omega), Or.resolve_left u10 (by omega), j2 hz, j3 hz, j4 hz, j5 hz, j6 hz⟩⟩⟩)
    · rw [hln] at j0 j1
      exact k z g σ1 D1 N1 F1 A1 c1 s1 X1 S1 (EQD_sub (by decide) E1) zr j0 (fun hz => ⟨(j1 hz).1, .inr ⟨h8, v0, v1, v2, v3, (j1 hz).2.1, (j1 hz).2.2 0, (j1 hz).2.2 1, (j1 hz).2.2 2⟩⟩)
theorem T_hear1 {Dc : DcS} {g : Nat → Bool} {σ : rS} {D N : Nat → Nat} {F : hF} {A : hA} {d c s : Nat} {Q : wQ} (X : PHI Dc g σ D N F A) (k : ∀ (z : Int) (gₚ : Nat → Bool) (σₚ : rS) (Dₚ Nₚ : Nat → Nat) (Fₚ : hF) (Aₚ : hA) (cₚ sₚ : Nat), PHI Dc gₚ σₚ Dₚ Nₚ Fₚ Aₚ → STP g σ D N A c s gₚ σₚ Dₚ Nₚ Aₚ cₚ sₚ → EQD [(2, 1), (4, 1), (6, 1), (8, 1), (11, 1), (0, 18), (25, 1)] [3, 5, 7, 9, 12, 10, 29, 30, 32, 26] [] [] D N F A Dₚ Nₚ Fₚ Aₚ → inr z → z = (LNF (ap (sc (A 5) 0 (F 4 1))) ((sc (A 5) 0 (F 4 1)).length : Int)).1 → (0 ≤ z → (DCK (LNF (ap (sc (A 5) 0 (F 4 1))) ((sc (A 5) 0 (F 4 1)).length : Int)).2 (sc ((Aₚ 21)) 0 ((Fₚ 20 1))) ((Fₚ 19 2)) ((Aₚ 24)) ∧ (gₚ 8 = true ∧ OD8 (LNF (ap (sc (A 5) 0 (F 4 1))) ((sc (A 5) 0 (F 4 1)).length : Int)).2 Dₚ Nₚ Fₚ Aₚ ∨ gₚ 8 = false ∧ ON8 (LNF (ap (sc (A 5) 0 (F 4 1))) ((sc (A 5) 0 (F 4 1)).length : Int)).2 Dₚ Nₚ Fₚ Aₚ))) → Q (some (I z)) σₚ cₚ sₚ) : Ew 115 (d + 5) 0 (rargs 0 [.ref (D 19), .ref (D 4)]) [] σ c s Q := by
  have hri : 0 ≤ F 4 1 ∧ F 4 1 ≤ 65536 := by have w := X.2.2.2.2.2.2.2.1; unfold INV0 at w; have w := w.2.1; omega
  have hln : LNF (ub8 (A 5)) (F 4 1) = (LNF (ap (sc (A 5) 0 (F 4 1))) ((sc (A 5) 0 (F 4 1)).length : Int)) := LNF_c hri.1
  cases h8 : g 8 with
  | true =>
    refine T_hr1 (d := d + 0) X h8 (fun z σ1 D1 N1 F1 A1 c1 s1 X1 S1 E1 zr u0 u1 u2 u3 u4 u5 u6 u7 u8 u9 u10 j0 j1 j2 j3 j4 j5 j6 => ?_)
    rw [hln] at j0 j1 j2 j3 j4 j5 j6
    exact k z g σ1 D1 N1 F1 A1 c1 s1 X1 (S1) (EQD_sub (by decide) E1) zr j0 (fun hz => ⟨j1 hz, .inl ⟨h8, ⟨Or.resolve_left u0 (by omega), Or.resolve_left u1 (by omega), Or.resolve_left u2 (by omega), Or.resolve_left u3 (by omega), Or.resolve_left u4 (by omega), Or.resolve_left u5 (by omega), Or.resolve_left u6 (by omega), Or.resolve_left u7 (by omega), Or.resolve_left u8 (by omega), Or.resolve_left u9 (by omega), Or.resolve_left u10 (by omega), j2 hz, j3 hz, j4 hz, j5 hz, j6 hz⟩⟩⟩)
  | false =>
    refine T_ha1 (d := d + 1) X (fun x3 ls σ1 D1 N1 F1 A1 c1 s1 X1 S1 E1 l0 l2 l3 e0 e1 e2 e3 e4 => ?_) (fun z σ1 D1 N1 F1 A1 c1 s1 X1 S1 E1 zr v0 v1 v2 v3 j0 j1 => ?_)
    · have hg0 : g 0 = true := X1.2.2.1
      refine w_callk rfl (fun rec => rinvv rfl rfl (X1.1.obj 19 (by decide +kernel) hg0 rfl) rec) rfl (T_mk_par8 (d := d + 1) X1 h8 (fun σ2 D2 N2 F2 A2 c2 s2 X2 S2 K2 K0 => ⟨rfl, ?_⟩))
      have d0 : D2 19 = D1 19 := (K2 19 (by decide +kernel) hg0).1
      have d2 : D2 5 = D1 5 := (K2 5 (by decide +kernel) hg0).1
      have n2 : N2 5 = N1 5 := ((K2 5 (by decide +kernel) hg0).2 (by decide)).1
      have f2 : F2 20 1 = 0 := by rw [((K2 20 (by decide +kernel) hg0).2 (by decide)).2.2]; exact e1
      have f3 : F2 20 2 = 0 := by rw [((K2 20 (by decide +kernel) hg0).2 (by decide)).2.2]; exact e2
      have hrb : F1 4 1 ≤ (N1 5 : Int) ∧ (N1 5 : Int) ≤ 65536 := by have w := X1.2.2.2.2.2.2.2.1; unfold INV0 at w; have w := w.2.1; omega
      have E12 : EQD [(2, 1), (4, 1), (6, 1), (8, 1), (11, 1), (0, 18), (25, 1)] [3, 5, 7, 9, 12, 10, 29, 30, 32, 26] [] [] D N F A D2 N2 F2 A2 := EQD_tr (EQD_sub (by decide) E1) (KEP_EQ K2 K0.1 hg0 (by decide +kernel))
      have a2 : A2 5 = A 5 := E12.2.1 5 (by decide)
      have f21 : F2 4 1 = F 4 1 := E12.1 (4, 1) (by decide)
      have f11 : F1 4 1 = F 4 1 := (EQD_sub (by decide) E1 : EQD [(4, 1)] [] [] [] D N F A D1 N1 F1 A1).1 (4, 1) (by decide)
      refine T_hb1 (d := d + 0) X2 (gset_m rfl) (by rw [d0]; exact l0) (by rw [d2]; exact l2) l3 (by omega) (by omega) f2 f3 (by rw [a2]; exact e3) (by rw [K0.2, a2]; exact e4) (fun z σ3 D3 N3 F3 A3 c3 s3 X3 S3 E3 zr u0 u1 u2 u3 u4 u5 u6 u7 u8 u9 u10 j0 j1 j2 j3 j4 j5 j6 => ?_)
      rw [a2, e0.2, hln] at j0 j1 j2 j3 j4 j5 j6
      exact k z _ σ3 D3 N3 F3 A3 c3 s3 X3 (STP_trans (STP_tr0 S1 S2) S3) (EQD_tr E12 (EQD_sub (by decide) E3)) zr j0 (fun hz => ⟨j1 hz, .inl ⟨gset_m rfl, ⟨Or.resolve_left u0 (by omega), Or.resolve_left u1 (by omega), Or.resolve_left u2 (by omega), Or.resolve_left u3 (by omega), Or.resolve_left u4 (by omega), Or.resolve_left u5 (by omega), Or.resolve_left u6 (by omega), Or.resolve_left u7 (by omega), Or.resolve_left u8 (by omega), Or.resolve_left u9 (by omega), Or.resolve_left u10 (by omega), j2 hz, j3 hz, j4 hz, j5 hz, j6 hz⟩⟩⟩)
    · rw [hln] at j0 j1
      exact k z g σ1 D1 N1 F1 A1 c1 s1 X1 S1 (EQD_sub (by decide) E1) zr j0 (fun hz => ⟨(j1 hz).1, .inr ⟨h8, v0, v1, v2, v3, (j1 hz).2.1, (j1 hz).2.2 0, (j1 hz).2.2 1, (j1 hz).2.2 2⟩⟩)
theorem T_hear2 {Dc : DcS} {g : Nat → Bool} {σ : rS} {D N : Nat → Nat} {F : hF} {A : hA} {d c s : Nat} {Q : wQ} (X : PHI Dc g σ D N F A) (k : ∀ (z : Int) (gₚ : Nat → Bool) (σₚ : rS) (Dₚ Nₚ : Nat → Nat) (Fₚ : hF) (Aₚ : hA) (cₚ sₚ : Nat), PHI Dc gₚ σₚ Dₚ Nₚ Fₚ Aₚ → STP g σ D N A c s gₚ σₚ Dₚ Nₚ Aₚ cₚ sₚ → EQD [(2, 1), (4, 1), (6, 1), (8, 1), (11, 1), (0, 18), (25, 1)] [3, 5, 7, 9, 12, 10, 29, 30, 32, 26] [] [] D N F A Dₚ Nₚ Fₚ Aₚ → inr z → z = (LNF (ap (sc (A 7) 0 (F 6 1))) ((sc (A 7) 0 (F 6 1)).length : Int)).1 → (0 ≤ z → (DCK (LNF (ap (sc (A 7) 0 (F 6 1))) ((sc (A 7) 0 (F 6 1)).length : Int)).2 (sc ((Aₚ 21)) 0 ((Fₚ 20 1))) ((Fₚ 19 2)) ((Aₚ 24)) ∧ (gₚ 8 = true ∧ OD8 (LNF (ap (sc (A 7) 0 (F 6 1))) ((sc (A 7) 0 (F 6 1)).length : Int)).2 Dₚ Nₚ Fₚ Aₚ ∨ gₚ 8 = false ∧ ON8 (LNF (ap (sc (A 7) 0 (F 6 1))) ((sc (A 7) 0 (F 6 1)).length : Int)).2 Dₚ Nₚ Fₚ Aₚ))) → Q (some (I z)) σₚ cₚ sₚ) : Ew 115 (d + 5) 0 (rargs 0 [.ref (D 19), .ref (D 6)]) [] σ c s Q := by
  have hri : 0 ≤ F 6 1 ∧ F 6 1 ≤ 65536 := by have w := X.2.2.2.2.2.2.2.1; unfold INV0 at w; have w := w.2.2.1; omega
  have hln : LNF (ub8 (A 7)) (F 6 1) = (LNF (ap (sc (A 7) 0 (F 6 1))) ((sc (A 7) 0 (F 6 1)).length : Int)) := LNF_c hri.1
  cases h8 : g 8 with
  | true =>
    refine T_hr2 (d := d + 0) X h8 (fun z σ1 D1 N1 F1 A1 c1 s1 X1 S1 E1 zr u0 u1 u2 u3 u4 u5 u6 u7 u8 u9 u10 j0 j1 j2 j3 j4 j5 j6 => ?_)
    rw [hln] at j0 j1 j2 j3 j4 j5 j6
    exact k z g σ1 D1 N1 F1 A1 c1 s1 X1 (S1) (EQD_sub (by decide) E1) zr j0 (fun hz => ⟨j1 hz, .inl ⟨h8, ⟨Or.resolve_left u0 (by omega), Or.resolve_left u1 (by omega), Or.resolve_left u2 (by omega), Or.resolve_left u3 (by omega), Or.resolve_left u4 (by omega), Or.resolve_left u5 (by omega), Or.resolve_left u6 (by omega), Or.resolve_left u7 (by omega), Or.resolve_left u8 (by omega), Or.resolve_left u9 (by omega), Or.resolve_left u10 (by omega), j2 hz, j3 hz, j4 hz, j5 hz, j6 hz⟩⟩⟩)
  | false =>
    refine T_ha2 (d := d + 1) X (fun x3 ls σ1 D1 N1 F1 A1 c1 s1 X1 S1 E1 l0 l2 l3 e0 e1 e2 e3 e4 => ?_) (fun z σ1 D1 N1 F1 A1 c1 s1 X1 S1 E1 zr v0 v1 v2 v3 j0 j1 => ?_)
    · have hg0 : g 0 = true := X1.2.2.1
      refine w_callk rfl (fun rec => rinvv rfl rfl (X1.1.obj 19 (by decide +kernel) hg0 rfl) rec) rfl (T_mk_par8 (d := d + 1) X1 h8 (fun σ2 D2 N2 F2 A2 c2 s2 X2 S2 K2 K0 => ⟨rfl, ?_⟩))
      have d0 : D2 19 = D1 19 := (K2 19 (by decide +kernel) hg0).1
      have d2 : D2 7 = D1 7 := (K2 7 (by decide +kernel) hg0).1
      have n2 : N2 7 = N1 7 := ((K2 7 (by decide +kernel) hg0).2 (by decide)).1
      have f2 : F2 20 1 = 0 := by rw [((K2 20 (by decide +kernel) hg0).2 (by decide)).2.2]; exact e1
      have f3 : F2 20 2 = 0 := by rw [((K2 20 (by decide +kernel) hg0).2 (by decide)).2.2]; exact e2
      have hrb : F1 6 1 ≤ (N1 7 : Int) ∧ (N1 7 : Int) ≤ 65536 := by have w := X1.2.2.2.2.2.2.2.1; unfold INV0 at w; have w := w.2.2.1; omega
      have E12 : EQD [(2, 1), (4, 1), (6, 1), (8, 1), (11, 1), (0, 18), (25, 1)] [3, 5, 7, 9, 12, 10, 29, 30, 32, 26] [] [] D N F A D2 N2 F2 A2 := EQD_tr (EQD_sub (by decide) E1) (KEP_EQ K2 K0.1 hg0 (by decide +kernel))
      have a2 : A2 7 = A 7 := E12.2.1 7 (by decide)
      have f21 : F2 6 1 = F 6 1 := E12.1 (6, 1) (by decide)
      have f11 : F1 6 1 = F 6 1 := (EQD_sub (by decide) E1 : EQD [(6, 1)] [] [] [] D N F A D1 N1 F1 A1).1 (6, 1) (by decide)
      refine T_hb2 (d := d + 0) X2 (gset_m rfl) (by rw [d0]; exact l0) (by rw [d2]; exact l2) l3 (by omega) (by omega) f2 f3 (by rw [a2]; exact e3) (by rw [K0.2, a2]; exact e4) (fun z σ3 D3 N3 F3 A3 c3 s3 X3 S3 E3 zr u0 u1 u2 u3 u4 u5 u6 u7 u8 u9 u10 j0 j1 j2 j3 j4 j5 j6 => ?_)
      rw [a2, e0.2, hln] at j0 j1 j2 j3 j4 j5 j6
      exact k z _ σ3 D3 N3 F3 A3 c3 s3 X3 (STP_trans (STP_tr0 S1 S2) S3) (EQD_tr E12 (EQD_sub (by decide) E3)) zr j0 (fun hz => ⟨j1 hz, .inl ⟨gset_m rfl, ⟨Or.resolve_left u0 (by omega), Or.resolve_left u1 (by omega), Or.resolve_left u2 (by omega), Or.resolve_left u3 (by omega), Or.resolve_left u4 (by omega), Or.resolve_left u5 (by omega), Or.resolve_left u6 (by omega), Or.resolve_left u7 (by omega), Or.resolve_left u8 (by omega), Or.resolve_left u9 (by omega), Or.resolve_left u10 (by omega), j2 hz, j3 hz, j4 hz, j5 hz, j6 hz⟩⟩⟩)
    · rw [hln] at j0 j1
      exact k z g σ1 D1 N1 F1 A1 c1 s1 X1 S1 (EQD_sub (by decide) E1) zr j0 (fun hz => ⟨(j1 hz).1, .inr ⟨h8, v0, v1, v2, v3, (j1 hz).2.1, (j1 hz).2.2 0, (j1 hz).2.2 1, (j1 hz).2.2 2⟩⟩)
theorem T_hear3 {Dc : DcS} {g : Nat → Bool} {σ : rS} {D N : Nat → Nat} {F : hF} {A : hA} {d c s : Nat} {Q : wQ} (X : PHI Dc g σ D N F A) (k : ∀ (z : Int) (gₚ : Nat → Bool) (σₚ : rS) (Dₚ Nₚ : Nat → Nat) (Fₚ : hF) (Aₚ : hA) (cₚ sₚ : Nat), PHI Dc gₚ σₚ Dₚ Nₚ Fₚ Aₚ → STP g σ D N A c s gₚ σₚ Dₚ Nₚ Aₚ cₚ sₚ → EQD [(2, 1), (4, 1), (6, 1), (8, 1), (11, 1), (0, 18), (25, 1)] [3, 5, 7, 9, 12, 10, 29, 30, 32, 26] [] [] D N F A Dₚ Nₚ Fₚ Aₚ → inr z → z = (LNF (ap (sc (A 9) 0 (F 8 1))) ((sc (A 9) 0 (F 8 1)).length : Int)).1 → (0 ≤ z → (DCK (LNF (ap (sc (A 9) 0 (F 8 1))) ((sc (A 9) 0 (F 8 1)).length : Int)).2 (sc ((Aₚ 21)) 0 ((Fₚ 20 1))) ((Fₚ 19 2)) ((Aₚ 24)) ∧ (gₚ 8 = true ∧ OD8 (LNF (ap (sc (A 9) 0 (F 8 1))) ((sc (A 9) 0 (F 8 1)).length : Int)).2 Dₚ Nₚ Fₚ Aₚ ∨ gₚ 8 = false ∧ ON8 (LNF (ap (sc (A 9) 0 (F 8 1))) ((sc (A 9) 0 (F 8 1)).length : Int)).2 Dₚ Nₚ Fₚ Aₚ))) → Q (some (I z)) σₚ cₚ sₚ) : Ew 115 (d + 5) 0 (rargs 0 [.ref (D 19), .ref (D 8)]) [] σ c s Q := by
  have hri : 0 ≤ F 8 1 ∧ F 8 1 ≤ 65536 := by have w := X.2.2.2.2.2.2.2.1; unfold INV0 at w; have w := w.2.2.2.1; omega
  have hln : LNF (ub8 (A 9)) (F 8 1) = (LNF (ap (sc (A 9) 0 (F 8 1))) ((sc (A 9) 0 (F 8 1)).length : Int)) := LNF_c hri.1
  cases h8 : g 8 with
  | true =>
    refine T_hr3 (d := d + 0) X h8 (fun z σ1 D1 N1 F1 A1 c1 s1 X1 S1 E1 zr u0 u1 u2 u3 u4 u5 u6 u7 u8 u9 u10 j0 j1 j2 j3 j4 j5 j6 => ?_)
    rw [hln] at j0 j1 j2 j3 j4 j5 j6
    exact k z g σ1 D1 N1 F1 A1 c1 s1 X1 (S1) (EQD_sub (by decide) E1) zr j0 (fun hz => ⟨j1 hz, .inl ⟨h8, ⟨Or.resolve_left u0 (by omega), Or.resolve_left u1 (by omega), Or.resolve_left u2 (by omega), Or.resolve_left u3 (by omega), Or.resolve_left u4 (by omega), Or.resolve_left u5 (by omega), Or.resolve_left u6 (by omega), Or.resolve_left u7 (by omega), Or.resolve_left u8 (by omega), Or.resolve_left u9 (by omega), Or.resolve_left u10 (by omega), j2 hz, j3 hz, j4 hz, j5 hz, j6 hz⟩⟩⟩)
  | false =>
    refine T_ha3 (d := d + 1) X (fun x3 ls σ1 D1 N1 F1 A1 c1 s1 X1 S1 E1 l0 l2 l3 e0 e1 e2 e3 e4 => ?_) (fun z σ1 D1 N1 F1 A1 c1 s1 X1 S1 E1 zr v0 v1 v2 v3 j0 j1 => ?_)
    · have hg0 : g 0 = true := X1.2.2.1
      refine w_callk rfl (fun rec => rinvv rfl rfl (X1.1.obj 19 (by decide +kernel) hg0 rfl) rec) rfl (T_mk_par8 (d := d + 1) X1 h8 (fun σ2 D2 N2 F2 A2 c2 s2 X2 S2 K2 K0 => ⟨rfl, ?_⟩))
      have d0 : D2 19 = D1 19 := (K2 19 (by decide +kernel) hg0).1
      have d2 : D2 9 = D1 9 := (K2 9 (by decide +kernel) hg0).1
      have n2 : N2 9 = N1 9 := ((K2 9 (by decide +kernel) hg0).2 (by decide)).1
      have f2 : F2 20 1 = 0 := by rw [((K2 20 (by decide +kernel) hg0).2 (by decide)).2.2]; exact e1
      have f3 : F2 20 2 = 0 := by rw [((K2 20 (by decide +kernel) hg0).2 (by decide)).2.2]; exact e2
      have hrb : F1 8 1 ≤ (N1 9 : Int) ∧ (N1 9 : Int) ≤ 65536 := by have w := X1.2.2.2.2.2.2.2.1; unfold INV0 at w; have w := w.2.2.2.1; omega
      have E12 : EQD [(2, 1), (4, 1), (6, 1), (8, 1), (11, 1), (0, 18), (25, 1)] [3, 5, 7, 9, 12, 10, 29, 30, 32, 26] [] [] D N F A D2 N2 F2 A2 := EQD_tr (EQD_sub (by decide) E1) (KEP_EQ K2 K0.1 hg0 (by decide +kernel))
      have a2 : A2 9 = A 9 := E12.2.1 9 (by decide)
      have f21 : F2 8 1 = F 8 1 := E12.1 (8, 1) (by decide)
      have f11 : F1 8 1 = F 8 1 := (EQD_sub (by decide) E1 : EQD [(8, 1)] [] [] [] D N F A D1 N1 F1 A1).1 (8, 1) (by decide)
      refine T_hb3 (d := d + 0) X2 (gset_m rfl) (by rw [d0]; exact l0) (by rw [d2]; exact l2) l3 (by omega) (by omega) f2 f3 (by rw [a2]; exact e3) (by rw [K0.2, a2]; exact e4) (fun z σ3 D3 N3 F3 A3 c3 s3 X3 S3 E3 zr u0 u1 u2 u3 u4 u5 u6 u7 u8 u9 u10 j0 j1 j2 j3 j4 j5 j6 => ?_)
      rw [a2, e0.2, hln] at j0 j1 j2 j3 j4 j5 j6
      exact k z _ σ3 D3 N3 F3 A3 c3 s3 X3 (STP_trans (STP_tr0 S1 S2) S3) (EQD_tr E12 (EQD_sub (by decide) E3)) zr j0 (fun hz => ⟨j1 hz, .inl ⟨gset_m rfl, ⟨Or.resolve_left u0 (by omega), Or.resolve_left u1 (by omega), Or.resolve_left u2 (by omega), Or.resolve_left u3 (by omega), Or.resolve_left u4 (by omega), Or.resolve_left u5 (by omega), Or.resolve_left u6 (by omega), Or.resolve_left u7 (by omega), Or.resolve_left u8 (by omega), Or.resolve_left u9 (by omega), Or.resolve_left u10 (by omega), j2 hz, j3 hz, j4 hz, j5 hz, j6 hz⟩⟩⟩)
    · rw [hln] at j0 j1
      exact k z g σ1 D1 N1 F1 A1 c1 s1 X1 S1 (EQD_sub (by decide) E1) zr j0 (fun hz => ⟨(j1 hz).1, .inr ⟨h8, v0, v1, v2, v3, (j1 hz).2.1, (j1 hz).2.2 0, (j1 hz).2.2 1, (j1 hz).2.2 2⟩⟩)
def ι_leb : List Nat := [0, 19, 13]
theorem vs_leb : VS VPH V15_vb ι_leb := VS_of (by decide +kernel)
theorem glu_id {α : Type} {ι : List Nat} {f f' : Nat → α} (h : ∀ p, f' p = pul ι f p) : glu ι f f' = f := funext (fun x => by
  cases hf : fnd x ι with
  | none => rw [glu_n hf]
  | some p =>
    rw [glu_s hf, h p]
    show f (ι.getD p 0) = f x
    rw [(fnd_lt hf).2])
theorem KC_sw {g : Nat → Bool} : KC (swg g) = KC g := by
  unfold KC
  show kadd (g 1) 8 + (kadd (g 2) 3 + (kadd (g 3) 3 + (kadd (g 4) 28 + (kadd (g 5) 125 + (kadd (g 6) 59 + (kadd (g 8) 51 + kadd (g 7) 51)))))) = _
  omega
theorem KS_sw {g : Nat → Bool} : KS (swg g) = KS g := by
  unfold KS
  show kadd (g 1) 24 + (kadd (g 2) 18 + (kadd (g 3) 14 + (kadd (g 4) 1112 + (kadd (g 5) 18162 + (kadd (g 6) 8932 + (kadd (g 8) 8890 + kadd (g 7) 8890)))))) = _
  omega
theorem T_leb {Dc : DcS} {Dn : DcS} {g : Nat → Bool} {σ : rS} {D N : Nat → Nat} {F : hF} {A : hA} {d c s : Nat} {Q : wQ} (X : PHI Dc g σ D N F A) {y0 : Int} {ls : rO} (hl0 : rlook ls 0 = some (.ref (D 0))) (h0 : inr y0) (hgood : 0 ≤ y0 → (DCK Dn (sc ((A 21)) 0 ((F 20 1))) ((F 19 2)) ((A 24)) ∧ (g 8 = true ∧ OD8 Dn D N F A ∨ g 8 = false ∧ ON8 Dn D N F A))) (ho : 0 ≤ y0 → DCo Dn ∧ DCl Dn) (k : ∀ (Dc2 : DcS) (gₚ : Nat → Bool) (σₚ : rS) (Dₚ Nₚ : Nat → Nat) (Fₚ : hF) (Aₚ : hA) (cₚ sₚ : Nat), PHI Dc2 gₚ σₚ Dₚ Nₚ Fₚ Aₚ → STP g σ D N A c s gₚ σₚ Dₚ Nₚ Aₚ cₚ sₚ → EQD [(2, 1), (4, 1), (6, 1), (8, 1), (11, 1), (0, 18), (25, 1)] [3, 5, 7, 9, 12, 10, 29, 30, 32, 26] [] [] D N F A Dₚ Nₚ Fₚ Aₚ → (y0 < 0 ∧ Dc2 = Dc ∨ 0 ≤ y0 ∧ Dc2 = Dn) → Q (some (I y0)) σₚ cₚ sₚ) : Ew 15 (d + 0) 23 ls [I y0] σ c s Q := by
  have X0 := X
  obtain ⟨HX, HT, hg0, hPF, hAB, hNZ, hGI, hI0, hI1, hI2, hI3, hI4, hI5, hI6, hI7, hI8, hI9⟩ := X
  have hp : ∀ x, x < (V15_vb).length → SPH g (ι_leb.getD x 0) = true := SPH_of (gs := [0]) (by intro j hj; simp at hj; subst hj; exact hg0) rfl (by decide +kernel)
  refine C15_vb (d := d) (D := pul ι_leb D) (N := pul ι_leb N) (F := pul ι_leb F) (A := pul ι_leb A) (HWs_sub HX vs_leb hp) (show F 0 4 = (D 19 : Int) from hPF (0, 0, 4, 19) (List.mem_of_getElem? (i := 18) rfl) hg0 hg0) (show F 0 3 = (D 13 : Int) from hPF (0, 0, 3, 13) (List.mem_of_getElem? (i := 12) rfl) hg0 hg0) (F 0 3) rfl (F 0 4) rfl hl0 h0 (fun z σₚ Fₚ Aₚ Hₚ O sf sa y3 e3 y4 e4 zr q => ?_)
  subst e3 e4
  obtain ⟨hz, q⟩ := q
  subst hz
  have HW1 := HWs_call HX VPH_3 vs_leb hp Hₚ O
  have eD : glu ι_leb D (pul ι_leb D) = D := glu_id (fun _ => rfl)
  have eN : glu ι_leb N (pul ι_leb N) = N := glu_id (fun _ => rfl)
  have eA : glu ι_leb A Aₚ = A := glu_id (fun p => funext (sa p rfl))
  rw [eD, eN, eA] at HW1
  have HT1 := STC_call HT HX vs_leb hp O
  have hF : ∀ x k, x ≠ 0 → glu ι_leb F Fₚ x k = F x k := fun x k hx => by
    cases hf : fnd x ι_leb with
    | none => rw [glu_n hf]
    | some p =>
      have w := fnd_lt hf
      have hp0 : p ≠ 0 := fun e => by subst e; exact hx w.2.symm
      rw [glu_s hf, sf p k (by
        show (Nat.beq 0 p && Nat.beq 3 k || (Nat.beq 0 p && Nat.beq 4 k || false)) = false
        rw [beqf (fun e => hp0 e.symm)]
        rfl)]
      show F (ι_leb.getD p 0) k = F x k
      rw [w.2]
  have hF0 : ∀ k, k ≠ 3 → k ≠ 4 → glu ι_leb F Fₚ 0 k = F 0 k := fun k k3 k4 => by
    show Fₚ 0 k = F 0 k
    exact sf 0 k (by
      show (Nat.beq 3 k || (Nat.beq 4 k || false)) = false
      rw [beqf (fun e => k3 e.symm), beqf (fun e => k4 e.symm)]
      rfl)
  have hS := STY_call (D := D) (N := N) (Dₚ := pul ι_leb D) vs_leb hp O
  have hR := RM_call (V := VPH) vs_leb O
  rw [eD] at hS
  rw [eN] at hR
  rcases q with ⟨q1, q2, q3⟩ | ⟨q1, q2, q3⟩
  · have eF : glu ι_leb F Fₚ = F := funext (fun x => funext (fun k => by
      by_cases hx : x = 0
      · subst hx
        by_cases k3 : k = 3
        · subst k3; exact q2
        · by_cases k4 : k = 4
          · subst k4; exact q3
          · exact hF0 k k3 k4
      · exact hF x k hx))
    rw [eF] at HW1
    exact k Dc g σₚ D N F A c s ⟨HW1, HT1, X0.2.2⟩ ⟨STP0_call hS rfl hR, rfl⟩ EQD_re (.inl ⟨by omega, rfl⟩)
  · have X1 := PHI_swap (F1 := glu ι_leb F Fₚ) X0 (hgood (by omega)).1 (ho (by omega)).1 (ho (by omega)).2 (hgood (by omega)).2 HW1 HT1 hF hF0 q2 q3
    have hE : EQD [(2, 1), (4, 1), (6, 1), (8, 1), (11, 1), (25, 1)] [3, 5, 7, 9, 12, 10, 29, 30, 32, 26] [] [] D N F A (fun x => D (sw x)) (fun x => N (sw x)) (fun x => glu ι_leb F Fₚ (sw x)) (fun x => A (sw x)) := EQD_sw hF (by decide +kernel)
    have hE : EQD [(2, 1), (4, 1), (6, 1), (8, 1), (11, 1), (0, 18), (25, 1)] [3, 5, 7, 9, 12, 10, 29, 30, 32, 26] [] [] D N F A (fun x => D (sw x)) (fun x => N (sw x)) (fun x => glu ι_leb F Fₚ (sw x)) (fun x => A (sw x)) := EQD_sub (by decide) (EQD_c (q := (0, 18)) (show glu ι_leb F Fₚ 0 18 = F 0 18 from hF0 18 (by decide) (by decide)) hE)
    refine k Dn _ σₚ _ _ _ _ c s X1 ⟨⟨⟨hS.1, hS.2.1, fun x hx hs => .inl ⟨sw x, sw_lt hx, by rw [← sw_S hx]; exact hs, rfl⟩⟩, rfl, ?_, ?_⟩, rfl⟩ hE (.inr ⟨by omega, rfl⟩)
    · unfold PCg
      rw [sw_vs (fun x => pC (N x)), KC_sw]
      omega
    · unfold PSg
      rw [sw_vs (fun x => pS (N x)), KS_sw]
      omega
theorem T_learn {Dc : DcS} {g : Nat → Bool} {σ : rS} {D N : Nat → Nat} {F : hF} {A : hA} {d c s : Nat} {Q : wQ} (X : PHI Dc g σ D N F A) {a1 : Int} (h0 : inr a1) (k : ∀ (z : Int) (Dc2 : DcS) (gₚ : Nat → Bool) (σₚ : rS) (Dₚ Nₚ : Nat → Nat) (Fₚ : hF) (Aₚ : hA) (cₚ sₚ : Nat), PHI Dc2 gₚ σₚ Dₚ Nₚ Fₚ Aₚ → STP g σ D N A c s gₚ σₚ Dₚ Nₚ Aₚ cₚ sₚ → EQD [(2, 1), (4, 1), (6, 1), (8, 1), (11, 1), (0, 18), (25, 1)] [3, 5, 7, 9, 12, 10, 29, 30, 32, 26] [] [] D N F A Dₚ Nₚ Fₚ Aₚ → inr z → LNP (rwC F A) a1 Dc Dc2 z → Q (some (I z)) σₚ cₚ sₚ) : Ew 15 (d + 6) 0 (rargs 0 [.ref (D 0), I a1]) [] σ c s Q := by
  have hw : INV0 Dc D N F A := X.2.2.2.2.2.2.2.1
  unfold INV0 at hw
  have hdl : DCl Dc := hw.2.2.2.2.2.2.2.2.2.2.2.2.2.2.2.2.2.2.2.2.2.2.2.1
  rcases (show a1 = 0 ∨ a1 = 1 ∨ a1 = 2 ∨ a1 = 3 ∨ (a1 < 0 ∨ 4 ≤ a1) by omega) with rfl | rfl | rfl | rfl | ha
  · have hri : 0 ≤ F 2 1 ∧ F 2 1 ≤ 65536 := by have w := hw.1; omega
    refine T_lea0 (d := d + 5) X (fun ls σ1 D1 N1 F1 A1 c1 s1 X1 S1 E1 l0 => ?_) (fun z σ1 D1 N1 F1 A1 c1 s1 X1 S1 E1 q => absurd q (by decide))
    have E1 : EQD [(2, 1), (4, 1), (6, 1), (8, 1), (11, 1), (0, 18), (25, 1)] [3, 5, 7, 9, 12, 10, 29, 30, 32, 26] [] [] D N F A D1 N1 F1 A1 := EQD_sub (by decide) E1
    have hrow : sc (A1 3) 0 (F1 2 1) = rwC F A 0 := by rw [E1.2.1 3 (by decide), E1.1 (2, 1) (by decide)]; first | exact rw4_0.symm | rfl
    refine w_callk rfl (fun rec => rinvv rfl rfl (X1.1.obj 19 (by decide +kernel) (show g 0 = true from X1.2.2.1) rfl) rec) rfl (T_hear0 (d := d + 0) X1 (fun z g2 σ2 D2 N2 F2 A2 c2 s2 X2 S2 E2 zr hz hg => ⟨rfl, ?_⟩))
    rw [hrow] at hz hg
    refine T_leb (d := d + 6) X2 (by rw [S2.1.2.1]; exact l0) zr hg (fun h => ⟨LNF_o (ap_rngL (fun x q => sc_mem q)), LNF_l hdl hri (by rw [hz] at h; exact h)⟩) (fun Dc2 g3 σ3 D3 N3 F3 A3 c3 s3 X3 S3 E3 hd => ?_)
    refine k z Dc2 g3 σ3 D3 N3 F3 A3 c3 s3 X3 (STP_trans (STP_tr0 S1 S2) S3) (EQD_tr E1 (EQD_tr E2 E3)) zr (.inr ⟨⟨by decide, by decide⟩, hz, ?_⟩)
    unfold LND
    rcases hd with ⟨a, b⟩ | ⟨a, b⟩
    · rw [b, if_pos (by omega)]
    · rw [b, if_neg (by omega)]
  · have hri : 0 ≤ F 4 1 ∧ F 4 1 ≤ 65536 := by have w := hw.2.1; omega
    refine T_lea1 (d := d + 5) X (fun ls σ1 D1 N1 F1 A1 c1 s1 X1 S1 E1 l0 => ?_) (fun z σ1 D1 N1 F1 A1 c1 s1 X1 S1 E1 q => absurd q (by decide))
    have E1 : EQD [(2, 1), (4, 1), (6, 1), (8, 1), (11, 1), (0, 18), (25, 1)] [3, 5, 7, 9, 12, 10, 29, 30, 32, 26] [] [] D N F A D1 N1 F1 A1 := EQD_sub (by decide) E1
    have hrow : sc (A1 5) 0 (F1 4 1) = rwC F A 1 := by rw [E1.2.1 5 (by decide), E1.1 (4, 1) (by decide)]; first | exact rw4_1.symm | rfl
    refine w_callk rfl (fun rec => rinvv rfl rfl (X1.1.obj 19 (by decide +kernel) (show g 0 = true from X1.2.2.1) rfl) rec) rfl (T_hear1 (d := d + 0) X1 (fun z g2 σ2 D2 N2 F2 A2 c2 s2 X2 S2 E2 zr hz hg => ⟨rfl, ?_⟩))
    rw [hrow] at hz hg
    refine T_leb (d := d + 6) X2 (by rw [S2.1.2.1]; exact l0) zr hg (fun h => ⟨LNF_o (ap_rngL (fun x q => sc_mem q)), LNF_l hdl hri (by rw [hz] at h; exact h)⟩) (fun Dc2 g3 σ3 D3 N3 F3 A3 c3 s3 X3 S3 E3 hd => ?_)
    refine k z Dc2 g3 σ3 D3 N3 F3 A3 c3 s3 X3 (STP_trans (STP_tr0 S1 S2) S3) (EQD_tr E1 (EQD_tr E2 E3)) zr (.inr ⟨⟨by decide, by decide⟩, hz, ?_⟩)
    unfold LND
    rcases hd with ⟨a, b⟩ | ⟨a, b⟩
    · rw [b, if_pos (by omega)]
    · rw [b, if_neg (by omega)]
  · have hri : 0 ≤ F 6 1 ∧ F 6 1 ≤ 65536 := by have w := hw.2.2.1; omega
    refine T_lea2 (d := d + 5) X (fun ls σ1 D1 N1 F1 A1 c1 s1 X1 S1 E1 l0 => ?_) (fun z σ1 D1 N1 F1 A1 c1 s1 X1 S1 E1 q => absurd q (by decide))
    have E1 : EQD [(2, 1), (4, 1), (6, 1), (8, 1), (11, 1), (0, 18), (25, 1)] [3, 5, 7, 9, 12, 10, 29, 30, 32, 26] [] [] D N F A D1 N1 F1 A1 := EQD_sub (by decide) E1
    have hrow : sc (A1 7) 0 (F1 6 1) = rwC F A 2 := by rw [E1.2.1 7 (by decide), E1.1 (6, 1) (by decide)]; first | exact rw4_2.symm | rfl
    refine w_callk rfl (fun rec => rinvv rfl rfl (X1.1.obj 19 (by decide +kernel) (show g 0 = true from X1.2.2.1) rfl) rec) rfl (T_hear2 (d := d + 0) X1 (fun z g2 σ2 D2 N2 F2 A2 c2 s2 X2 S2 E2 zr hz hg => ⟨rfl, ?_⟩))
    rw [hrow] at hz hg
    refine T_leb (d := d + 6) X2 (by rw [S2.1.2.1]; exact l0) zr hg (fun h => ⟨LNF_o (ap_rngL (fun x q => sc_mem q)), LNF_l hdl hri (by rw [hz] at h; exact h)⟩) (fun Dc2 g3 σ3 D3 N3 F3 A3 c3 s3 X3 S3 E3 hd => ?_)
    refine k z Dc2 g3 σ3 D3 N3 F3 A3 c3 s3 X3 (STP_trans (STP_tr0 S1 S2) S3) (EQD_tr E1 (EQD_tr E2 E3)) zr (.inr ⟨⟨by decide, by decide⟩, hz, ?_⟩)
    unfold LND
    rcases hd with ⟨a, b⟩ | ⟨a, b⟩
    · rw [b, if_pos (by omega)]
    · rw [b, if_neg (by omega)]
  · have hri : 0 ≤ F 8 1 ∧ F 8 1 ≤ 65536 := by have w := hw.2.2.2.1; omega
    refine T_lea3 (d := d + 5) X (fun ls σ1 D1 N1 F1 A1 c1 s1 X1 S1 E1 l0 => ?_) (fun z σ1 D1 N1 F1 A1 c1 s1 X1 S1 E1 q => absurd q (by decide))
    have E1 : EQD [(2, 1), (4, 1), (6, 1), (8, 1), (11, 1), (0, 18), (25, 1)] [3, 5, 7, 9, 12, 10, 29, 30, 32, 26] [] [] D N F A D1 N1 F1 A1 := EQD_sub (by decide) E1
    have hrow : sc (A1 9) 0 (F1 8 1) = rwC F A 3 := by rw [E1.2.1 9 (by decide), E1.1 (8, 1) (by decide)]; first | exact rw4_3.symm | rfl
    refine w_callk rfl (fun rec => rinvv rfl rfl (X1.1.obj 19 (by decide +kernel) (show g 0 = true from X1.2.2.1) rfl) rec) rfl (T_hear3 (d := d + 0) X1 (fun z g2 σ2 D2 N2 F2 A2 c2 s2 X2 S2 E2 zr hz hg => ⟨rfl, ?_⟩))
    rw [hrow] at hz hg
    refine T_leb (d := d + 6) X2 (by rw [S2.1.2.1]; exact l0) zr hg (fun h => ⟨LNF_o (ap_rngL (fun x q => sc_mem q)), LNF_l hdl hri (by rw [hz] at h; exact h)⟩) (fun Dc2 g3 σ3 D3 N3 F3 A3 c3 s3 X3 S3 E3 hd => ?_)
    refine k z Dc2 g3 σ3 D3 N3 F3 A3 c3 s3 X3 (STP_trans (STP_tr0 S1 S2) S3) (EQD_tr E1 (EQD_tr E2 E3)) zr (.inr ⟨⟨by decide, by decide⟩, hz, ?_⟩)
    unfold LND
    rcases hd with ⟨a, b⟩ | ⟨a, b⟩
    · rw [b, if_pos (by omega)]
    · rw [b, if_neg (by omega)]
  · refine T_lex (d := d + 5) X h0 ha (fun z σ1 D1 N1 F1 A1 c1 s1 X1 S1 E1 q => ?_)
    exact k z Dc g σ1 D1 N1 F1 A1 c1 s1 X1 S1 (EQD_sub (by decide) E1) (by omega) (.inl ⟨fun w => by unfold okd at w; omega, q, rfl⟩)


end
section
/-! Y2.law -/
section LAW0
variable {Dc : DcS} {g gₚ : Nat → Bool} {σ σₚ : rS} {D N Dₚ Nₚ D2 N2 : Nat → Nat} {F Fₚ F2 : hF} {A Aₚ A2 : hA} {L : Nat} {xs : Nat → Int}
def SCR (σ : rS) (L : Nat) (xs : Nat → Int) : Prop := ∃ dv ov, rat σ 11 = some (.inr (1, L, dv, ov)) ∧ ∀ j : Nat, rlk ov dv j = I (xs j)
def SEP (g : Nat → Bool) (D D2 : Nat → Nat) : Prop := ∀ x, x < VPH.length → SPH g x = true → ∀ o, D2 o ≠ 0 → D x ≠ D2 o
theorem HS_lt (H : HS σ σ D2 N2 F2 A2) {o : Nat} (h : D2 o ≠ 0) : D2 o < σ.length := by
  cases ha : t_arr o with
  | false => exact rat_lt (H.obj o h ha)
  | true =>
    obtain ⟨dv, ov, q, -⟩ := H.arr o h ha
    exact rat_lt q
theorem HS_lo (H : HS σ σ D2 N2 F2 A2) {o : Nat} (h : D2 o ≠ 0) : 12 ≤ D2 o := by
  unfold HS at H
  exact H.2.2.2.1 o h

theorem CL_ref {c s cₚ sₚ : Nat} (X : RHI Dc σ D2 N2 F2 A2) (hs : SEP g D D2) (S : STP0 g σ D N c s gₚ σₚ Dₚ Nₚ cₚ sₚ) : RHI Dc σₚ D2 N2 F2 A2 ∧ SEP gₚ Dₚ D2 := by
  obtain ⟨⟨a1, a2, a3⟩, -⟩ := S
  refine ⟨RHI_keep X (fun o ho => a1 _ (by have := HS_lo X.1 ho; omega) (HS_lt X.1 ho) (fun x hx hp e => hs x hx hp o ho e)), fun x hx hp o ho e => ?_⟩
  rcases a3 x hx hp with ⟨y, y1, y2, y3⟩ | w
  · exact hs y y1 y2 o ho (y3.symm.trans e)
  · have := HS_lt X.1 ho
    omega
theorem CL_scr {c s cₚ sₚ : Nat} (X : HWs (SPH g) VPH σ D N F A) (h : SCR σ L xs) (S : STP0 g σ D N c s gₚ σₚ Dₚ Nₚ cₚ sₚ) : SCR σₚ L xs := by
  obtain ⟨⟨a1, -, -⟩, -⟩ := S
  obtain ⟨dv, ov, q1, q2⟩ := h
  exact ⟨dv, ov, by rw [a1 11 (by omega) (rat_lt q1) (fun x hx hp e => by have := X.lo x hx hp; omega)]; exact q1, q2⟩

theorem RF_cls (X : PHI Dc g σ D N F A) (H : HS σ σ D2 N2 F2 A2) (hs : SEP g D D2) (S : STO D2 σ σₚ) : PHI Dc g σₚ D N F A := by
  obtain ⟨HX, HT, rest⟩ := X
  have e : ∀ x, x < VPH.length → SPH g x = true → rat σₚ (D x) = rat σ (D x) := fun x hx hp => S.1 _ (fun o ho e => hs x hx hp o ho e.symm)
  refine ⟨⟨fun x hx hp ha => by rw [e x hx hp]; exact HX.1 x hx hp ha, fun x hx hp ha => by rw [e x hx hp]; exact HX.2.1 x hx hp ha, HX.2.2.1, HX.2.2.2.1, HX.2.2.2.2.1, HX.2.2.2.2.2.1, HX.2.2.2.2.2.2⟩, fun b hb => ?_, rest⟩
  obtain ⟨dv, ov, q1, q2⟩ := HT b hb
  exact ⟨dv, ov, by rw [S.1 b (fun o ho e => by have := HS_lo H ho; omega)]; exact q1, q2⟩
theorem RF_scr (H : HS σ σ D2 N2 F2 A2) (h : SCR σ L xs) (S : STO D2 σ σₚ) : SCR σₚ L xs := by
  obtain ⟨dv, ov, q1, q2⟩ := h
  exact ⟨dv, ov, by rw [S.1 11 (fun o ho e => by have := HS_lo H ho; omega)]; exact q1, q2⟩
end LAW0
section LAW1
variable {μ d pc len c s : Nat} {act : rA} {ls : rO} {st : List Value} {σ : rS} {Q : wQ} {L : Nat} {xs : Nat → Int}

theorem w_scr (h : SCR σ L xs) {j : Int} (hf : PP.1 μ pc = some (.iaload, len, act)) (h0 : 0 ≤ j ∧ j < L) (hL : L ≤ 1000000) (k : Ew μ d (pc + 1) ls (I (xs j.toNat) :: st) σ c s Q) : Ew μ d pc ls (I j :: .ref 11 :: st) σ c s Q := by
  obtain ⟨dv, ov, q1, q2⟩ := h
  exact Ew_of (fun _ e => x_iaload hf q1 (x := j.toNat) (ofI_nn h0.1 (by omega)) (ofI_nat h0.1 (by omega)) (by omega) (q2 j.toNat) e) k
theorem w_slen (h : SCR σ L xs) (hf : PP.1 μ pc = some (.arraylength, len, act)) (hL : L ≤ 1000000) (k : Ew μ d (pc + 1) ls (I (L : Int) :: st) σ c s Q) : Ew μ d pc ls (.ref 11 :: st) σ c s Q := by
  obtain ⟨dv, ov, q1, q2⟩ := h
  exact Ew_of (fun _ e => x_alen hf q1 hL (by decide) e) k

noncomputable def zshl (a b : Int) : Int := (rsop 0 (Int64.ofInt a) (Int32.ofInt b)).toInt
noncomputable def zand (a b : Int) : Int := (rlop 3 (Int64.ofInt a) (Int64.ofInt b)).toInt
noncomputable def zor (a b : Int) : Int := (rlop 4 (Int64.ofInt a) (Int64.ofInt b)).toInt
theorem zrng (a b : Int) : inrJ (zor a b) := toJ_inr _
theorem w_lshlZ {a b : Int} (hf : PP.1 μ pc = some (.lshl, len, act)) (h : Ew μ d (pc + 1) ls (J (zshl a b) :: st) σ c s Q) : Ew μ d pc ls (I b :: J a :: st) σ c s Q := Ew_of (fun _ => x_lshl hf (z := zshl a b) (toJ_of _).symm) h
theorem w_landZ {a b : Int} (hf : PP.1 μ pc = some (.land, len, act)) (h : Ew μ d (pc + 1) ls (J (zand a b) :: st) σ c s Q) : Ew μ d pc ls (J b :: J a :: st) σ c s Q := Ew_of (fun _ => x_land hf (z := zand a b) (toJ_of _).symm) h
theorem w_lorZ {a b : Int} (hf : PP.1 μ pc = some (.lor, len, act)) (h : Ew μ d (pc + 1) ls (J (zor a b) :: st) σ c s Q) : Ew μ d pc ls (J b :: J a :: st) σ c s Q := Ew_of (fun _ => x_lor hf (z := zor a b) (toJ_of _).symm) h
end LAW1

def RMG (g : Nat → Bool) (N : Nat → Nat) (c s : Nat) (gₚ : Nat → Bool) (Nₚ : Nat → Nat) (cₚ sₚ : Nat) : Prop := (cₚ : Int) + PCg g N ≤ (c : Int) + PCg gₚ Nₚ ∧ (sₚ : Int) + PSg g N ≤ (s : Int) + PSg gₚ Nₚ
theorem RMG_of {g gₚ : Nat → Bool} {σ σₚ : rS} {D N Dₚ Nₚ : Nat → Nat} {c s cₚ sₚ : Nat} (S : STP0 g σ D N 0 0 gₚ σₚ Dₚ Nₚ cₚ sₚ) : RMG g N c s gₚ Nₚ (c + cₚ + 0) (s + sₚ + 0) := by
  obtain ⟨-, -, a, b⟩ := S
  have a : (cₚ : Int) + PCg g N ≤ ((0 : Nat) : Int) + PCg gₚ Nₚ := a
  have b : (sₚ : Int) + PSg g N ≤ ((0 : Nat) : Int) + PSg gₚ Nₚ := b
  unfold RMG
  omega

theorem mask_or (x : BitVec 32) : (x &&& 0xFFFFFFC2#32) ||| (x &&& 61#32) = x := by
  apply BitVec.eq_of_getLsbD_eq
  intro i hi
  have h : ∀ i : Fin 32, ((0xFFFFFFC2#32).getLsbD i || (61#32).getLsbD i) = true := by decide
  have h := h ⟨i, hi⟩
  have h : ((0xFFFFFFC2#32).getLsbD i || (61#32).getLsbD i) = true := h
  rw [BitVec.getLsbD_or, BitVec.getLsbD_and, BitVec.getLsbD_and]
  revert h
  generalize (0xFFFFFFC2#32).getLsbD i = b1
  generalize (61#32).getLsbD i = b2
  generalize x.getLsbD i = b0
  revert b0 b1 b2
  decide
theorem mask_and (x : BitVec 32) : (x &&& 0xFFFFFFC2#32) &&& (x &&& 61#32) = 0#32 := by
  apply BitVec.eq_of_getLsbD_eq
  intro i hi
  have h : ∀ i : Fin 32, ((0xFFFFFFC2#32).getLsbD i && (61#32).getLsbD i) = false := by decide
  have h := h ⟨i, hi⟩
  have h : ((0xFFFFFFC2#32).getLsbD i && (61#32).getLsbD i) = false := h
  rw [BitVec.getLsbD_and, BitVec.getLsbD_and, BitVec.getLsbD_and, BitVec.getLsbD_zero]
  revert h
  generalize (0xFFFFFFC2#32).getLsbD i = b1
  generalize (61#32).getLsbD i = b2
  generalize x.getLsbD i = b0
  revert b0 b1 b2
  decide
theorem aref_fin : (List.range 64).all (fun k => decide (andI (64 + (k : Int)) (-62) = 64) == decide (andI (64 + (k : Int)) 2 = 0)) = true := by decide +kernel
theorem aref {v : Int} (hv : inr v) : andI v (-62) = 64 ↔ (64 ≤ v ∧ v ≤ 127 ∧ andI v 2 = 0) := by
  have key : 64 ≤ v → v ≤ 127 → (andI v (-62) = 64 ↔ andI v 2 = 0) := fun a b => by
    have w := List.all_eq_true.mp aref_fin (v - 64).toNat (List.mem_range.mpr (by omega))
    rw [show 64 + (((v - 64).toNat : Nat) : Int) = v by omega] at w
    have w := eq_of_beq w
    constructor
    · intro q
      rw [decide_eq_true q] at w
      exact of_decide_eq_true w.symm
    · intro q
      rw [decide_eq_true q] at w
      exact of_decide_eq_true w
  constructor
  · intro h
    have hx : ((Int32.ofInt v).toBitVec &&& 0xFFFFFFC2#32) = 64#32 := by
      apply BitVec.eq_of_toInt_eq
      exact h
    have e := mask_or (Int32.ofInt v).toBitVec
    have e2 := BitVec.add_eq_or_of_and_eq_zero _ _ (mask_and (Int32.ofInt v).toBitVec)
    rw [e, hx] at e2
    have l : ((Int32.ofInt v).toBitVec &&& 61#32).toNat ≤ 61 := by
      rw [BitVec.toNat_and]
      exact Nat.and_le_right
    have n : (Int32.ofInt v).toBitVec.toNat = 64 + ((Int32.ofInt v).toBitVec &&& 61#32).toNat := by
      conv => lhs; rw [← e2]
      rw [BitVec.toNat_add]
      show (64 + _) % 2 ^ 32 = _
      rw [Nat.mod_eq_of_lt (by omega)]
    have t : v = (((Int32.ofInt v).toBitVec.toNat : Nat) : Int) := by
      have u := toI_ofI hv
      have u : (Int32.ofInt v).toBitVec.toInt = v := u
      rw [BitVec.toInt_eq_toNat_of_lt (by omega)] at u
      exact u.symm
    exact ⟨by omega, by omega, (key (by omega) (by omega)).mp h⟩
  · intro h
    exact (key h.1 h.2.1).mpr h.2.2


end
section
/-! Y3.case -/
set_option maxHeartbeats 4000000 in
theorem LC_0 {Dc : DcS} {g : Nat → Bool} {σ : rS} {D N D2 N2 : Nat → Nat} {F F2 : hF} {A A2 : hA} {d c s L : Nat} {xs : Nat → Int} {Q : wQ} (X : PHI Dc g σ D N F A) (Y : RHI Dc σ D2 N2 F2 A2) (hs : SEP g D D2) (hc : SCR σ L xs) (hE : REL F A F2 A2) (hx : ∀ j, inr (xs j)) (hL : L ≤ 1000000) {i : Int} (hi : 0 ≤ i ∧ i + 6 ≤ L) {ls : rO} (l0 : rlook ls 0 = some (.ref 11)) (l1 : rlook ls 1 = some (.ref (D 0))) (l2 : rlook ls 2 = some (.ref (D2 0))) (l3 : rlook ls 3 = some (I i)) (k : ∀ (Dn : DcS) (gₚ : Nat → Bool) (σₚ : rS) (Dₚ Nₚ : Nat → Nat) (Fₚ : hF) (Aₚ : hA) (F2ₚ : hF) (A2ₚ : hA) (cₚ sₚ : Nat), PHI Dn gₚ σₚ Dₚ Nₚ Fₚ Aₚ → RHI Dn σₚ D2 N2 F2ₚ A2ₚ → SEP gₚ Dₚ D2 → SCR σₚ L xs → Dₚ 0 = D 0 → RMG g N c s gₚ Nₚ cₚ sₚ → REL Fₚ Aₚ F2ₚ A2ₚ → Ew 455 (d + 14) 1066 ls [] σₚ cₚ sₚ Q) : Ew 455 (d + 14) 140 ls [] σ c s Q := by
  refine Ew_of (pcₚ := 141) (fun _ => x_aload_n rfl l1) ?_
  refine Ew_of (pcₚ := 142) (fun _ => x_aload_n rfl l0) ?_
  refine Ew_of (pcₚ := 143) (fun _ => x_iload_n rfl l3) ?_
  refine Ew_of (pcₚ := 144) (fun _ => x_iconst rfl) ?_
  refine w_iadd rfl ?_
  refine w_scr hc rfl (by omega) (by omega) ?_
  refine Ew_of (pcₚ := 147) (fun _ => x_aload_n rfl l0) ?_
  refine Ew_of (pcₚ := 148) (fun _ => x_iload_n rfl l3) ?_
  refine Ew_of (pcₚ := 149) (fun _ => x_iconst rfl) ?_
  refine w_iadd rfl ?_
  refine w_scr hc rfl (by omega) (by omega) ?_
  refine Ew_of (pcₚ := 152) (fun _ => x_aload_n rfl l0) ?_
  refine Ew_of (pcₚ := 153) (fun _ => x_iload_n rfl l3) ?_
  refine Ew_of (pcₚ := 154) (fun _ => x_iconst rfl) ?_
  refine w_iadd rfl ?_
  refine w_scr hc rfl (by omega) (by omega) ?_
  refine Ew_of (pcₚ := 157) (fun _ => x_aload_n rfl l0) ?_
  refine Ew_of (pcₚ := 158) (fun _ => x_iload_n rfl l3) ?_
  refine Ew_of (pcₚ := 159) (fun _ => x_iconst rfl) ?_
  refine w_iadd rfl ?_
  refine w_scr hc rfl (by omega) (by omega) ?_
  refine Ew_of (pcₚ := 162) (fun _ => x_aload_n rfl l0) ?_
  refine Ew_of (pcₚ := 163) (fun _ => x_iload_n rfl l3) ?_
  refine Ew_of (pcₚ := 164) (fun _ => x_iconst rfl) ?_
  refine w_iadd rfl ?_
  refine w_scr hc rfl (by omega) (by omega) ?_
  refine w_callk rfl (fun rec => rinvv rfl rfl (X.1.obj 0 (by decide +kernel) (show g 0 = true from X.2.2.1) rfl) rec) rfl (T_feed (d := d + 9) X (hx _) (hx _) (hx _) (hx _) (hx _) (fun z σ1 D1 N1 F1 A1 c1 s1 X1 S1 E1 zr px0 px1 px2 px3 px4 px5 px6 px7 px8 => ⟨(rretB rfl zr), ?_⟩))
  have Y1 := CL_ref Y hs S1.1
  have hc1 := CL_scr X.1 hc S1.1
  refine Ew_of (pcₚ := 170) (fun _ => x_aload_n rfl l2) ?_
  refine Ew_of (pcₚ := 171) (fun _ => x_aload_n rfl l0) ?_
  refine Ew_of (pcₚ := 172) (fun _ => x_iload_n rfl l3) ?_
  refine Ew_of (pcₚ := 173) (fun _ => x_iconst rfl) ?_
  refine w_iadd rfl ?_
  refine w_scr hc1 rfl (by omega) (by omega) ?_
  refine Ew_of (pcₚ := 176) (fun _ => x_aload_n rfl l0) ?_
  refine Ew_of (pcₚ := 177) (fun _ => x_iload_n rfl l3) ?_
  refine Ew_of (pcₚ := 178) (fun _ => x_iconst rfl) ?_
  refine w_iadd rfl ?_
  refine w_scr hc1 rfl (by omega) (by omega) ?_
  refine Ew_of (pcₚ := 181) (fun _ => x_aload_n rfl l0) ?_
  refine Ew_of (pcₚ := 182) (fun _ => x_iload_n rfl l3) ?_
  refine Ew_of (pcₚ := 183) (fun _ => x_iconst rfl) ?_
  refine w_iadd rfl ?_
  refine w_scr hc1 rfl (by omega) (by omega) ?_
  refine Ew_of (pcₚ := 186) (fun _ => x_aload_n rfl l0) ?_
  refine Ew_of (pcₚ := 187) (fun _ => x_iload_n rfl l3) ?_
  refine Ew_of (pcₚ := 188) (fun _ => x_iconst rfl) ?_
  refine w_iadd rfl ?_
  refine w_scr hc1 rfl (by omega) (by omega) ?_
  refine Ew_of (pcₚ := 191) (fun _ => x_aload_n rfl l0) ?_
  refine Ew_of (pcₚ := 192) (fun _ => x_iload_n rfl l3) ?_
  refine Ew_of (pcₚ := 193) (fun _ => x_iconst rfl) ?_
  refine w_iadd rfl ?_
  refine w_scr hc1 rfl (by omega) (by omega) ?_
  refine w_callk rfl (fun rec => rinvv rfl rfl (Y1.1.1.obj 0 (Y1.1.1.perm 0 rfl) rfl) rec) rfl (RS_feed (d := d + 12) Y1.1 (hx _) (hx _) (hx _) (hx _) (hx _) (fun z2 σ2 F3 A3 Y2 T2 e2 zr2 py0 py1 => ⟨(rretB rfl zr2), ?_⟩))
  have X2 := RF_cls X1 Y1.1.1 Y1.2 T2
  have hc2 := RF_scr Y1.1.1 hc1 T2
  have hx_ : CHP (fun L => (L.length : Int) + 16 ≤ 65536) (fun L => L ++ fdL ((xs ((i + 2)).toNat)) ((xs ((i + 3)).toNat)) ((xs ((i + 4)).toNat)) ((xs ((i + 5)).toNat)) 16) (rwC F A) (rwC F1 A1) ((xs ((i + 1)).toNat)) z := CHP_4 px0 px1 px2 px3 px4 px5 px6 px7 px8
  have hy_ : CHP (fun L => (L.length : Int) + 16 ≤ 65536) (fun L => L ++ fdL ((xs ((i + 2)).toNat)) ((xs ((i + 3)).toNat)) ((xs ((i + 4)).toNat)) ((xs ((i + 5)).toNat)) 16) (rwR (A2 10) (A2 11)) (rwR (A3 10) (A3 11)) ((xs ((i + 1)).toNat)) z2 := CHP_R py0 py1
  have hh := EQ_ch hE (EQD_sub (by decide) E1) (EQD_sub (by decide) e2) hx_ hy_
  obtain ⟨he, hE2⟩ := hh
  try subst he
  refine w_icmpeq (t := 1066) rfl rfl (show inr z by omega) (show inr z by omega) (fun _ => ?_) (fun q => absurd rfl q)
  exact k Dc g σ2 D1 N1 F1 A1 F3 A3 _ _ X2 Y2 Y1.2 hc2 S1.1.2.1 (RMG_of S1.1) hE2
set_option maxHeartbeats 4000000 in
theorem LC_1 {Dc : DcS} {g : Nat → Bool} {σ : rS} {D N D2 N2 : Nat → Nat} {F F2 : hF} {A A2 : hA} {d c s L : Nat} {xs : Nat → Int} {Q : wQ} (X : PHI Dc g σ D N F A) (Y : RHI Dc σ D2 N2 F2 A2) (hs : SEP g D D2) (hc : SCR σ L xs) (hE : REL F A F2 A2) (hx : ∀ j, inr (xs j)) (hL : L ≤ 1000000) {i : Int} (hi : 0 ≤ i ∧ i + 6 ≤ L) {ls : rO} (l0 : rlook ls 0 = some (.ref 11)) (l1 : rlook ls 1 = some (.ref (D 0))) (l2 : rlook ls 2 = some (.ref (D2 0))) (l3 : rlook ls 3 = some (I i)) (k : ∀ (Dn : DcS) (gₚ : Nat → Bool) (σₚ : rS) (Dₚ Nₚ : Nat → Nat) (Fₚ : hF) (Aₚ : hA) (F2ₚ : hF) (A2ₚ : hA) (cₚ sₚ : Nat), PHI Dn gₚ σₚ Dₚ Nₚ Fₚ Aₚ → RHI Dn σₚ D2 N2 F2ₚ A2ₚ → SEP gₚ Dₚ D2 → SCR σₚ L xs → Dₚ 0 = D 0 → RMG g N c s gₚ Nₚ cₚ sₚ → REL Fₚ Aₚ F2ₚ A2ₚ → Ew 455 (d + 14) 1066 ls [] σₚ cₚ sₚ Q) : Ew 455 (d + 14) 203 ls [] σ c s Q := by
  refine Ew_of (pcₚ := 204) (fun _ => x_aload_n rfl l1) ?_
  refine Ew_of (pcₚ := 205) (fun _ => x_aload_n rfl l0) ?_
  refine Ew_of (pcₚ := 206) (fun _ => x_iload_n rfl l3) ?_
  refine Ew_of (pcₚ := 207) (fun _ => x_iconst rfl) ?_
  refine w_iadd rfl ?_
  refine w_scr hc rfl (by omega) (by omega) ?_
  refine Ew_of (pcₚ := 210) (fun _ => x_aload_n rfl l0) ?_
  refine Ew_of (pcₚ := 211) (fun _ => x_iload_n rfl l3) ?_
  refine Ew_of (pcₚ := 212) (fun _ => x_iconst rfl) ?_
  refine w_iadd rfl ?_
  refine w_scr hc rfl (by omega) (by omega) ?_
  refine Ew_of (pcₚ := 215) (fun _ => x_aload_n rfl l0) ?_
  refine Ew_of (pcₚ := 216) (fun _ => x_iload_n rfl l3) ?_
  refine Ew_of (pcₚ := 217) (fun _ => x_iconst rfl) ?_
  refine w_iadd rfl ?_
  refine w_scr hc rfl (by omega) (by omega) ?_
  refine w_i2l rfl (hx _) ?_
  refine Ew_of (pcₚ := 222) (fun _ => x_bipush rfl (z := 32) (by decide)) ?_
  refine w_lshlZ rfl ?_
  refine Ew_of (pcₚ := 224) (fun _ => x_aload_n rfl l0) ?_
  refine Ew_of (pcₚ := 225) (fun _ => x_iload_n rfl l3) ?_
  refine Ew_of (pcₚ := 226) (fun _ => x_iconst rfl) ?_
  refine w_iadd rfl ?_
  refine w_scr hc rfl (by omega) (by omega) ?_
  refine w_i2l rfl (hx _) ?_
  refine Ew_of (pcₚ := 232) (fun _ => x_ldc2 rfl (z := 4294967295) (by decide)) ?_
  refine w_landZ rfl ?_
  refine w_lorZ rfl ?_
  refine w_callk rfl (fun rec => rinvv rfl rfl (X.1.obj 0 (by decide +kernel) (show g 0 = true from X.2.2.1) rfl) rec) rfl (T_give (d := d + 9) X (hx _) (hx _) (zrng _ _) (fun z σ1 D1 N1 F1 A1 c1 s1 X1 S1 E1 zr px0 px1 px2 px3 px4 px5 px6 px7 px8 => ⟨(rretB rfl zr), ?_⟩))
  have Y1 := CL_ref Y hs S1.1
  have hc1 := CL_scr X.1 hc S1.1
  refine Ew_of (pcₚ := 238) (fun _ => x_aload_n rfl l2) ?_
  refine Ew_of (pcₚ := 239) (fun _ => x_aload_n rfl l0) ?_
  refine Ew_of (pcₚ := 240) (fun _ => x_iload_n rfl l3) ?_
  refine Ew_of (pcₚ := 241) (fun _ => x_iconst rfl) ?_
  refine w_iadd rfl ?_
  refine w_scr hc1 rfl (by omega) (by omega) ?_
  refine Ew_of (pcₚ := 244) (fun _ => x_aload_n rfl l0) ?_
  refine Ew_of (pcₚ := 245) (fun _ => x_iload_n rfl l3) ?_
  refine Ew_of (pcₚ := 246) (fun _ => x_iconst rfl) ?_
  refine w_iadd rfl ?_
  refine w_scr hc1 rfl (by omega) (by omega) ?_
  refine Ew_of (pcₚ := 249) (fun _ => x_aload_n rfl l0) ?_
  refine Ew_of (pcₚ := 250) (fun _ => x_iload_n rfl l3) ?_
  refine Ew_of (pcₚ := 251) (fun _ => x_iconst rfl) ?_
  refine w_iadd rfl ?_
  refine w_scr hc1 rfl (by omega) (by omega) ?_
  refine w_i2l rfl (hx _) ?_
  refine Ew_of (pcₚ := 256) (fun _ => x_bipush rfl (z := 32) (by decide)) ?_
  refine w_lshlZ rfl ?_
  refine Ew_of (pcₚ := 258) (fun _ => x_aload_n rfl l0) ?_
  refine Ew_of (pcₚ := 259) (fun _ => x_iload_n rfl l3) ?_
  refine Ew_of (pcₚ := 260) (fun _ => x_iconst rfl) ?_
  refine w_iadd rfl ?_
  refine w_scr hc1 rfl (by omega) (by omega) ?_
  refine w_i2l rfl (hx _) ?_
  refine Ew_of (pcₚ := 266) (fun _ => x_ldc2 rfl (z := 4294967295) (by decide)) ?_
  refine w_landZ rfl ?_
  refine w_lorZ rfl ?_
  refine w_callk rfl (fun rec => rinvv rfl rfl (Y1.1.1.obj 0 (Y1.1.1.perm 0 rfl) rfl) rec) rfl (RS_give (d := d + 12) Y1.1 (hx _) (hx _) (zrng _ _) (fun z2 σ2 F3 A3 Y2 T2 e2 zr2 py0 py1 => ⟨(rretB rfl zr2), ?_⟩))
  have X2 := RF_cls X1 Y1.1.1 Y1.2 T2
  have hc2 := RF_scr Y1.1.1 hc1 T2
  have hx_ : CHP (fun L => (1 ≤ (xs ((i + 2)).toNat) ∧ (xs ((i + 2)).toNat) ≤ 8) ∧ (L.length : Int) + (xs ((i + 2)).toNat) ≤ 65536) (fun L => L ++ beB ((zor (zshl (xs ((i + 3)).toNat) 32) (zand (xs ((i + 4)).toNat) 4294967295))) ((xs ((i + 2)).toNat))) (rwC F A) (rwC F1 A1) ((xs ((i + 1)).toNat)) z := CHP_4 px0 px1 px2 px3 px4 px5 px6 px7 px8
  have hy_ : CHP (fun L => (1 ≤ (xs ((i + 2)).toNat) ∧ (xs ((i + 2)).toNat) ≤ 8) ∧ (L.length : Int) + (xs ((i + 2)).toNat) ≤ 65536) (fun L => L ++ beB ((zor (zshl (xs ((i + 3)).toNat) 32) (zand (xs ((i + 4)).toNat) 4294967295))) ((xs ((i + 2)).toNat))) (rwR (A2 10) (A2 11)) (rwR (A3 10) (A3 11)) ((xs ((i + 1)).toNat)) z2 := CHP_R py0 py1
  have hh := EQ_ch hE (EQD_sub (by decide) E1) (EQD_sub (by decide) e2) hx_ hy_
  obtain ⟨he, hE2⟩ := hh
  try subst he
  refine w_icmpeq (t := 1066) rfl rfl (show inr z by omega) (show inr z by omega) (fun _ => ?_) (fun q => absurd rfl q)
  exact k Dc g σ2 D1 N1 F1 A1 F3 A3 _ _ X2 Y2 Y1.2 hc2 S1.1.2.1 (RMG_of S1.1) hE2
set_option maxHeartbeats 4000000 in
theorem LC_2 {Dc : DcS} {g : Nat → Bool} {σ : rS} {D N D2 N2 : Nat → Nat} {F F2 : hF} {A A2 : hA} {d c s L : Nat} {xs : Nat → Int} {Q : wQ} (X : PHI Dc g σ D N F A) (Y : RHI Dc σ D2 N2 F2 A2) (hs : SEP g D D2) (hc : SCR σ L xs) (hE : REL F A F2 A2) (hx : ∀ j, inr (xs j)) (hL : L ≤ 1000000) {i : Int} (hi : 0 ≤ i ∧ i + 6 ≤ L) {ls : rO} (l0 : rlook ls 0 = some (.ref 11)) (l1 : rlook ls 1 = some (.ref (D 0))) (l2 : rlook ls 2 = some (.ref (D2 0))) (l3 : rlook ls 3 = some (I i)) (k : ∀ (Dn : DcS) (gₚ : Nat → Bool) (σₚ : rS) (Dₚ Nₚ : Nat → Nat) (Fₚ : hF) (Aₚ : hA) (F2ₚ : hF) (A2ₚ : hA) (cₚ sₚ : Nat), PHI Dn gₚ σₚ Dₚ Nₚ Fₚ Aₚ → RHI Dn σₚ D2 N2 F2ₚ A2ₚ → SEP gₚ Dₚ D2 → SCR σₚ L xs → Dₚ 0 = D 0 → RMG g N c s gₚ Nₚ cₚ sₚ → REL Fₚ Aₚ F2ₚ A2ₚ → Ew 455 (d + 14) 1066 ls [] σₚ cₚ sₚ Q) : Ew 455 (d + 14) 276 ls [] σ c s Q := by
  refine Ew_of (pcₚ := 277) (fun _ => x_aload_n rfl l1) ?_
  refine Ew_of (pcₚ := 278) (fun _ => x_aload_n rfl l0) ?_
  refine Ew_of (pcₚ := 279) (fun _ => x_iload_n rfl l3) ?_
  refine Ew_of (pcₚ := 280) (fun _ => x_iconst rfl) ?_
  refine w_iadd rfl ?_
  refine w_scr hc rfl (by omega) (by omega) ?_
  refine Ew_of (pcₚ := 283) (fun _ => x_aload_n rfl l0) ?_
  refine Ew_of (pcₚ := 284) (fun _ => x_iload_n rfl l3) ?_
  refine Ew_of (pcₚ := 285) (fun _ => x_iconst rfl) ?_
  refine w_iadd rfl ?_
  refine w_scr hc rfl (by omega) (by omega) ?_
  refine Ew_of (pcₚ := 288) (fun _ => x_aload_n rfl l0) ?_
  refine Ew_of (pcₚ := 289) (fun _ => x_iload_n rfl l3) ?_
  refine Ew_of (pcₚ := 290) (fun _ => x_iconst rfl) ?_
  refine w_iadd rfl ?_
  refine w_scr hc rfl (by omega) (by omega) ?_
  refine w_callk rfl (fun rec => rinvv rfl rfl (X.1.obj 0 (by decide +kernel) (show g 0 = true from X.2.2.1) rfl) rec) rfl (T_again (d := d + 10) X (hx _) (hx _) (hx _) (fun z σ1 D1 N1 F1 A1 c1 s1 X1 S1 E1 zr px0 px1 px2 px3 px4 px5 px6 px7 px8 => ⟨(rretB rfl zr), ?_⟩))
  have Y1 := CL_ref Y hs S1.1
  have hc1 := CL_scr X.1 hc S1.1
  refine Ew_of (pcₚ := 296) (fun _ => x_aload_n rfl l2) ?_
  refine Ew_of (pcₚ := 297) (fun _ => x_aload_n rfl l0) ?_
  refine Ew_of (pcₚ := 298) (fun _ => x_iload_n rfl l3) ?_
  refine Ew_of (pcₚ := 299) (fun _ => x_iconst rfl) ?_
  refine w_iadd rfl ?_
  refine w_scr hc1 rfl (by omega) (by omega) ?_
  refine Ew_of (pcₚ := 302) (fun _ => x_aload_n rfl l0) ?_
  refine Ew_of (pcₚ := 303) (fun _ => x_iload_n rfl l3) ?_
  refine Ew_of (pcₚ := 304) (fun _ => x_iconst rfl) ?_
  refine w_iadd rfl ?_
  refine w_scr hc1 rfl (by omega) (by omega) ?_
  refine Ew_of (pcₚ := 307) (fun _ => x_aload_n rfl l0) ?_
  refine Ew_of (pcₚ := 308) (fun _ => x_iload_n rfl l3) ?_
  refine Ew_of (pcₚ := 309) (fun _ => x_iconst rfl) ?_
  refine w_iadd rfl ?_
  refine w_scr hc1 rfl (by omega) (by omega) ?_
  refine w_callk rfl (fun rec => rinvv rfl rfl (Y1.1.1.obj 0 (Y1.1.1.perm 0 rfl) rfl) rec) rfl (RS_again (d := d + 12) Y1.1 (hx _) (hx _) (hx _) (fun z2 σ2 F3 A3 Y2 T2 e2 zr2 py0 py1 => ⟨(rretB rfl zr2), ?_⟩))
  have X2 := RF_cls X1 Y1.1.1 Y1.2 T2
  have hc2 := RF_scr Y1.1.1 hc1 T2
  have hx_ : CHP (fun L => (1 ≤ (xs ((i + 2)).toNat) ∧ (xs ((i + 2)).toNat) ≤ (L.length : Int)) ∧ 0 ≤ (xs ((i + 3)).toNat) ∧ (xs ((i + 2)).toNat) * (xs ((i + 3)).toNat) ≤ 65536 - (L.length : Int)) (fun L => cpb L ((xs ((i + 2)).toNat)) ((xs ((i + 2)).toNat) * (xs ((i + 3)).toNat) : Int).toNat) (rwC F A) (rwC F1 A1) ((xs ((i + 1)).toNat)) z := CHP_4 px0 px1 px2 px3 px4 px5 px6 px7 px8
  have hy_ : CHP (fun L => (1 ≤ (xs ((i + 2)).toNat) ∧ (xs ((i + 2)).toNat) ≤ (L.length : Int)) ∧ 0 ≤ (xs ((i + 3)).toNat) ∧ (xs ((i + 2)).toNat) * (xs ((i + 3)).toNat) ≤ 65536 - (L.length : Int)) (fun L => cpb L ((xs ((i + 2)).toNat)) ((xs ((i + 2)).toNat) * (xs ((i + 3)).toNat) : Int).toNat) (rwR (A2 10) (A2 11)) (rwR (A3 10) (A3 11)) ((xs ((i + 1)).toNat)) z2 := CHP_R py0 py1
  have hh := EQ_ch hE (EQD_sub (by decide) E1) (EQD_sub (by decide) e2) hx_ hy_
  obtain ⟨he, hE2⟩ := hh
  try subst he
  refine w_icmpeq (t := 1066) rfl rfl (show inr z by omega) (show inr z by omega) (fun _ => ?_) (fun q => absurd rfl q)
  exact k Dc g σ2 D1 N1 F1 A1 F3 A3 _ _ X2 Y2 Y1.2 hc2 S1.1.2.1 (RMG_of S1.1) hE2
set_option maxHeartbeats 4000000 in
theorem LC_3 {Dc : DcS} {g : Nat → Bool} {σ : rS} {D N D2 N2 : Nat → Nat} {F F2 : hF} {A A2 : hA} {d c s L : Nat} {xs : Nat → Int} {Q : wQ} (X : PHI Dc g σ D N F A) (Y : RHI Dc σ D2 N2 F2 A2) (hs : SEP g D D2) (hc : SCR σ L xs) (hE : REL F A F2 A2) (hx : ∀ j, inr (xs j)) (hL : L ≤ 1000000) {i : Int} (hi : 0 ≤ i ∧ i + 6 ≤ L) {ls : rO} (l0 : rlook ls 0 = some (.ref 11)) (l1 : rlook ls 1 = some (.ref (D 0))) (l2 : rlook ls 2 = some (.ref (D2 0))) (l3 : rlook ls 3 = some (I i)) (k : ∀ (Dn : DcS) (gₚ : Nat → Bool) (σₚ : rS) (Dₚ Nₚ : Nat → Nat) (Fₚ : hF) (Aₚ : hA) (F2ₚ : hF) (A2ₚ : hA) (cₚ sₚ : Nat), PHI Dn gₚ σₚ Dₚ Nₚ Fₚ Aₚ → RHI Dn σₚ D2 N2 F2ₚ A2ₚ → SEP gₚ Dₚ D2 → SCR σₚ L xs → Dₚ 0 = D 0 → RMG g N c s gₚ Nₚ cₚ sₚ → REL Fₚ Aₚ F2ₚ A2ₚ → Ew 455 (d + 14) 1066 ls [] σₚ cₚ sₚ Q) : Ew 455 (d + 14) 319 ls [] σ c s Q := by
  refine Ew_of (pcₚ := 320) (fun _ => x_aload_n rfl l1) ?_
  refine Ew_of (pcₚ := 321) (fun _ => x_aload_n rfl l0) ?_
  refine Ew_of (pcₚ := 322) (fun _ => x_iload_n rfl l3) ?_
  refine Ew_of (pcₚ := 323) (fun _ => x_iconst rfl) ?_
  refine w_iadd rfl ?_
  refine w_scr hc rfl (by omega) (by omega) ?_
  refine Ew_of (pcₚ := 326) (fun _ => x_aload_n rfl l0) ?_
  refine Ew_of (pcₚ := 327) (fun _ => x_iload_n rfl l3) ?_
  refine Ew_of (pcₚ := 328) (fun _ => x_iconst rfl) ?_
  refine w_iadd rfl ?_
  refine w_scr hc rfl (by omega) (by omega) ?_
  refine w_callk rfl (fun rec => rinvv rfl rfl (X.1.obj 0 (by decide +kernel) (show g 0 = true from X.2.2.1) rfl) rec) rfl (T_cut (d := d + 12) X (hx _) (hx _) (fun z σ1 D1 N1 F1 A1 c1 s1 X1 S1 E1 zr px0 px1 px2 px3 px4 px5 px6 px7 px8 => ⟨(rretB rfl zr), ?_⟩))
  have Y1 := CL_ref Y hs S1.1
  have hc1 := CL_scr X.1 hc S1.1
  refine Ew_of (pcₚ := 334) (fun _ => x_aload_n rfl l2) ?_
  refine Ew_of (pcₚ := 335) (fun _ => x_aload_n rfl l0) ?_
  refine Ew_of (pcₚ := 336) (fun _ => x_iload_n rfl l3) ?_
  refine Ew_of (pcₚ := 337) (fun _ => x_iconst rfl) ?_
  refine w_iadd rfl ?_
  refine w_scr hc1 rfl (by omega) (by omega) ?_
  refine Ew_of (pcₚ := 340) (fun _ => x_aload_n rfl l0) ?_
  refine Ew_of (pcₚ := 341) (fun _ => x_iload_n rfl l3) ?_
  refine Ew_of (pcₚ := 342) (fun _ => x_iconst rfl) ?_
  refine w_iadd rfl ?_
  refine w_scr hc1 rfl (by omega) (by omega) ?_
  refine w_callk rfl (fun rec => rinvv rfl rfl (Y1.1.1.obj 0 (Y1.1.1.perm 0 rfl) rfl) rec) rfl (RS_cut (d := d + 12) Y1.1 (hx _) (hx _) (fun z2 σ2 F3 A3 Y2 T2 e2 zr2 py0 py1 => ⟨(rretB rfl zr2), ?_⟩))
  have X2 := RF_cls X1 Y1.1.1 Y1.2 T2
  have hc2 := RF_scr Y1.1.1 hc1 T2
  have hx_ : CHP (fun L => 0 ≤ (xs ((i + 2)).toNat) ∧ (xs ((i + 2)).toNat) ≤ (L.length : Int)) (fun L => L.take ((xs ((i + 2)).toNat) : Int).toNat) (rwC F A) (rwC F1 A1) ((xs ((i + 1)).toNat)) z := CHP_4 px0 px1 px2 px3 px4 px5 px6 px7 px8
  have hy_ : CHP (fun L => 0 ≤ (xs ((i + 2)).toNat) ∧ (xs ((i + 2)).toNat) ≤ (L.length : Int)) (fun L => L.take ((xs ((i + 2)).toNat) : Int).toNat) (rwR (A2 10) (A2 11)) (rwR (A3 10) (A3 11)) ((xs ((i + 1)).toNat)) z2 := CHP_R py0 py1
  have hh := EQ_ch hE (EQD_sub (by decide) E1) (EQD_sub (by decide) e2) hx_ hy_
  obtain ⟨he, hE2⟩ := hh
  try subst he
  refine w_icmpeq (t := 1066) rfl rfl (show inr z by omega) (show inr z by omega) (fun _ => ?_) (fun q => absurd rfl q)
  exact k Dc g σ2 D1 N1 F1 A1 F3 A3 _ _ X2 Y2 Y1.2 hc2 S1.1.2.1 (RMG_of S1.1) hE2
set_option maxHeartbeats 4000000 in
theorem LC_4 {Dc : DcS} {g : Nat → Bool} {σ : rS} {D N D2 N2 : Nat → Nat} {F F2 : hF} {A A2 : hA} {d c s L : Nat} {xs : Nat → Int} {Q : wQ} (X : PHI Dc g σ D N F A) (Y : RHI Dc σ D2 N2 F2 A2) (hs : SEP g D D2) (hc : SCR σ L xs) (hE : REL F A F2 A2) (hx : ∀ j, inr (xs j)) (hL : L ≤ 1000000) {i : Int} (hi : 0 ≤ i ∧ i + 6 ≤ L) {ls : rO} (l0 : rlook ls 0 = some (.ref 11)) (l1 : rlook ls 1 = some (.ref (D 0))) (l2 : rlook ls 2 = some (.ref (D2 0))) (l3 : rlook ls 3 = some (I i)) (k : ∀ (Dn : DcS) (gₚ : Nat → Bool) (σₚ : rS) (Dₚ Nₚ : Nat → Nat) (Fₚ : hF) (Aₚ : hA) (F2ₚ : hF) (A2ₚ : hA) (cₚ sₚ : Nat), PHI Dn gₚ σₚ Dₚ Nₚ Fₚ Aₚ → RHI Dn σₚ D2 N2 F2ₚ A2ₚ → SEP gₚ Dₚ D2 → SCR σₚ L xs → Dₚ 0 = D 0 → RMG g N c s gₚ Nₚ cₚ sₚ → REL Fₚ Aₚ F2ₚ A2ₚ → Ew 455 (d + 14) 1066 ls [] σₚ cₚ sₚ Q) : Ew 455 (d + 14) 352 ls [] σ c s Q := by
  refine Ew_of (pcₚ := 353) (fun _ => x_aload_n rfl l1) ?_
  refine Ew_of (pcₚ := 354) (fun _ => x_aload_n rfl l0) ?_
  refine Ew_of (pcₚ := 355) (fun _ => x_iload_n rfl l3) ?_
  refine Ew_of (pcₚ := 356) (fun _ => x_iconst rfl) ?_
  refine w_iadd rfl ?_
  refine w_scr hc rfl (by omega) (by omega) ?_
  refine Ew_of (pcₚ := 359) (fun _ => x_aload_n rfl l0) ?_
  refine Ew_of (pcₚ := 360) (fun _ => x_iload_n rfl l3) ?_
  refine Ew_of (pcₚ := 361) (fun _ => x_iconst rfl) ?_
  refine w_iadd rfl ?_
  refine w_scr hc rfl (by omega) (by omega) ?_
  refine Ew_of (pcₚ := 364) (fun _ => x_aload_n rfl l0) ?_
  refine Ew_of (pcₚ := 365) (fun _ => x_iload_n rfl l3) ?_
  refine Ew_of (pcₚ := 366) (fun _ => x_iconst rfl) ?_
  refine w_iadd rfl ?_
  refine w_scr hc rfl (by omega) (by omega) ?_
  refine Ew_of (pcₚ := 369) (fun _ => x_aload_n rfl l0) ?_
  refine Ew_of (pcₚ := 370) (fun _ => x_iload_n rfl l3) ?_
  refine Ew_of (pcₚ := 371) (fun _ => x_iconst rfl) ?_
  refine w_iadd rfl ?_
  refine w_scr hc rfl (by omega) (by omega) ?_
  refine w_callk rfl (fun rec => rinvv rfl rfl (X.1.obj 0 (by decide +kernel) (show g 0 = true from X.2.2.1) rfl) rec) rfl (T_join (d := d + 11) X (hx _) (hx _) (hx _) (hx _) (fun z σ1 D1 N1 F1 A1 c1 s1 X1 S1 E1 zr px0 => ⟨(rretB rfl zr), ?_⟩))
  have Y1 := CL_ref Y hs S1.1
  have hc1 := CL_scr X.1 hc S1.1
  refine Ew_of (pcₚ := 377) (fun _ => x_aload_n rfl l2) ?_
  refine Ew_of (pcₚ := 378) (fun _ => x_aload_n rfl l0) ?_
  refine Ew_of (pcₚ := 379) (fun _ => x_iload_n rfl l3) ?_
  refine Ew_of (pcₚ := 380) (fun _ => x_iconst rfl) ?_
  refine w_iadd rfl ?_
  refine w_scr hc1 rfl (by omega) (by omega) ?_
  refine Ew_of (pcₚ := 383) (fun _ => x_aload_n rfl l0) ?_
  refine Ew_of (pcₚ := 384) (fun _ => x_iload_n rfl l3) ?_
  refine Ew_of (pcₚ := 385) (fun _ => x_iconst rfl) ?_
  refine w_iadd rfl ?_
  refine w_scr hc1 rfl (by omega) (by omega) ?_
  refine Ew_of (pcₚ := 388) (fun _ => x_aload_n rfl l0) ?_
  refine Ew_of (pcₚ := 389) (fun _ => x_iload_n rfl l3) ?_
  refine Ew_of (pcₚ := 390) (fun _ => x_iconst rfl) ?_
  refine w_iadd rfl ?_
  refine w_scr hc1 rfl (by omega) (by omega) ?_
  refine Ew_of (pcₚ := 393) (fun _ => x_aload_n rfl l0) ?_
  refine Ew_of (pcₚ := 394) (fun _ => x_iload_n rfl l3) ?_
  refine Ew_of (pcₚ := 395) (fun _ => x_iconst rfl) ?_
  refine w_iadd rfl ?_
  refine w_scr hc1 rfl (by omega) (by omega) ?_
  refine w_callk rfl (fun rec => rinvv rfl rfl (Y1.1.1.obj 0 (Y1.1.1.perm 0 rfl) rfl) rec) rfl (RS_join (d := d + 12) Y1.1 (hx _) (hx _) (hx _) (hx _) (fun z2 σ2 F3 A3 Y2 T2 e2 zr2 py0 py1 => ⟨(rretB rfl zr2), ?_⟩))
  have X2 := RF_cls X1 Y1.1.1 Y1.2 T2
  have hc2 := RF_scr Y1.1.1 hc1 T2
  have hh := EQ_jn hE (EQD_sub (by decide) E1) (EQD_sub (by decide) e2) px0 (JNP_R py0 py1)
  obtain ⟨he, hE2⟩ := hh
  try subst he
  refine w_icmpeq (t := 1066) rfl rfl (show inr z by omega) (show inr z by omega) (fun _ => ?_) (fun q => absurd rfl q)
  exact k Dc g σ2 D1 N1 F1 A1 F3 A3 _ _ X2 Y2 Y1.2 hc2 S1.1.2.1 (RMG_of S1.1) hE2
set_option maxHeartbeats 4000000 in
theorem LC_5 {Dc : DcS} {g : Nat → Bool} {σ : rS} {D N D2 N2 : Nat → Nat} {F F2 : hF} {A A2 : hA} {d c s L : Nat} {xs : Nat → Int} {Q : wQ} (X : PHI Dc g σ D N F A) (Y : RHI Dc σ D2 N2 F2 A2) (hs : SEP g D D2) (hc : SCR σ L xs) (hE : REL F A F2 A2) (hx : ∀ j, inr (xs j)) (hL : L ≤ 1000000) {i : Int} (hi : 0 ≤ i ∧ i + 6 ≤ L) {ls : rO} (l0 : rlook ls 0 = some (.ref 11)) (l1 : rlook ls 1 = some (.ref (D 0))) (l2 : rlook ls 2 = some (.ref (D2 0))) (l3 : rlook ls 3 = some (I i)) (k : ∀ (Dn : DcS) (gₚ : Nat → Bool) (σₚ : rS) (Dₚ Nₚ : Nat → Nat) (Fₚ : hF) (Aₚ : hA) (F2ₚ : hF) (A2ₚ : hA) (cₚ sₚ : Nat), PHI Dn gₚ σₚ Dₚ Nₚ Fₚ Aₚ → RHI Dn σₚ D2 N2 F2ₚ A2ₚ → SEP gₚ Dₚ D2 → SCR σₚ L xs → Dₚ 0 = D 0 → RMG g N c s gₚ Nₚ cₚ sₚ → REL Fₚ Aₚ F2ₚ A2ₚ → Ew 455 (d + 14) 1066 ls [] σₚ cₚ sₚ Q) : Ew 455 (d + 14) 405 ls [] σ c s Q := by
  refine Ew_of (pcₚ := 406) (fun _ => x_aload_n rfl l1) ?_
  refine Ew_of (pcₚ := 407) (fun _ => x_aload_n rfl l0) ?_
  refine Ew_of (pcₚ := 408) (fun _ => x_iload_n rfl l3) ?_
  refine Ew_of (pcₚ := 409) (fun _ => x_iconst rfl) ?_
  refine w_iadd rfl ?_
  refine w_scr hc rfl (by omega) (by omega) ?_
  refine w_callk rfl (fun rec => rinvv rfl rfl (X.1.obj 0 (by decide +kernel) (show g 0 = true from X.2.2.1) rfl) rec) rfl (T_size (d := d + 12) X (hx _) (fun z σ1 D1 N1 F1 A1 c1 s1 X1 S1 E1 zr px0 px1 px2 px3 px4 => ⟨rfl, ?_⟩))
  have Y1 := CL_ref Y hs S1.1
  have hc1 := CL_scr X.1 hc S1.1
  refine Ew_of (pcₚ := 415) (fun _ => x_aload_n rfl l2) ?_
  refine Ew_of (pcₚ := 416) (fun _ => x_aload_n rfl l0) ?_
  refine Ew_of (pcₚ := 417) (fun _ => x_iload_n rfl l3) ?_
  refine Ew_of (pcₚ := 418) (fun _ => x_iconst rfl) ?_
  refine w_iadd rfl ?_
  refine w_scr hc1 rfl (by omega) (by omega) ?_
  refine w_callk rfl (fun rec => rinvv rfl rfl (Y1.1.1.obj 0 (Y1.1.1.perm 0 rfl) rfl) rec) rfl (RS_size (d := d + 12) Y1.1 (hx _) (fun z2 σ2 F3 A3 Y2 T2 e2 zr2 py0 => ⟨rfl, ?_⟩))
  have X2 := RF_cls X1 Y1.1.1 Y1.2 T2
  have hc2 := RF_scr Y1.1.1 hc1 T2
  have he : z = z2 := Q_fun (f := fun L : List Int => (L.length : Int)) hE.1 px0 (C4_of (P := fun L => z = (fun L : List Int => (L.length : Int)) L) px1 px2 px3 px4) (by rcases py0 with ⟨u, v, w⟩ | w; exact .inl ⟨⟨u, v⟩, w⟩; exact .inr w)
  have hE2 : REL F1 A1 F3 A3 := REL_s hE (EQD_sub (by decide) E1) (EQD_sub (by decide) e2)
  try subst he
  refine w_icmpeq (t := 1066) rfl rfl (show inr z by omega) (show inr z by omega) (fun _ => ?_) (fun q => absurd rfl q)
  exact k Dc g σ2 D1 N1 F1 A1 F3 A3 _ _ X2 Y2 Y1.2 hc2 S1.1.2.1 (RMG_of S1.1) hE2
set_option maxHeartbeats 4000000 in
theorem LC_6 {Dc : DcS} {g : Nat → Bool} {σ : rS} {D N D2 N2 : Nat → Nat} {F F2 : hF} {A A2 : hA} {d c s L : Nat} {xs : Nat → Int} {Q : wQ} (X : PHI Dc g σ D N F A) (Y : RHI Dc σ D2 N2 F2 A2) (hs : SEP g D D2) (hc : SCR σ L xs) (hE : REL F A F2 A2) (hx : ∀ j, inr (xs j)) (hL : L ≤ 1000000) {i : Int} (hi : 0 ≤ i ∧ i + 6 ≤ L) {ls : rO} (l0 : rlook ls 0 = some (.ref 11)) (l1 : rlook ls 1 = some (.ref (D 0))) (l2 : rlook ls 2 = some (.ref (D2 0))) (l3 : rlook ls 3 = some (I i)) (k : ∀ (Dn : DcS) (gₚ : Nat → Bool) (σₚ : rS) (Dₚ Nₚ : Nat → Nat) (Fₚ : hF) (Aₚ : hA) (F2ₚ : hF) (A2ₚ : hA) (cₚ sₚ : Nat), PHI Dn gₚ σₚ Dₚ Nₚ Fₚ Aₚ → RHI Dn σₚ D2 N2 F2ₚ A2ₚ → SEP gₚ Dₚ D2 → SCR σₚ L xs → Dₚ 0 = D 0 → RMG g N c s gₚ Nₚ cₚ sₚ → REL Fₚ Aₚ F2ₚ A2ₚ → Ew 455 (d + 14) 1066 ls [] σₚ cₚ sₚ Q) : Ew 455 (d + 14) 428 ls [] σ c s Q := by
  refine Ew_of (pcₚ := 429) (fun _ => x_aload_n rfl l1) ?_
  refine Ew_of (pcₚ := 430) (fun _ => x_aload_n rfl l0) ?_
  refine Ew_of (pcₚ := 431) (fun _ => x_iload_n rfl l3) ?_
  refine Ew_of (pcₚ := 432) (fun _ => x_iconst rfl) ?_
  refine w_iadd rfl ?_
  refine w_scr hc rfl (by omega) (by omega) ?_
  refine Ew_of (pcₚ := 435) (fun _ => x_aload_n rfl l0) ?_
  refine Ew_of (pcₚ := 436) (fun _ => x_iload_n rfl l3) ?_
  refine Ew_of (pcₚ := 437) (fun _ => x_iconst rfl) ?_
  refine w_iadd rfl ?_
  refine w_scr hc rfl (by omega) (by omega) ?_
  refine w_callk rfl (fun rec => rinvv rfl rfl (X.1.obj 0 (by decide +kernel) (show g 0 = true from X.2.2.1) rfl) rec) rfl (T_byteAt (d := d + 12) X (hx _) (hx _) (fun z σ1 D1 N1 F1 A1 c1 s1 X1 S1 E1 zr px0 px1 px2 px3 px4 => ⟨rfl, ?_⟩))
  have Y1 := CL_ref Y hs S1.1
  have hc1 := CL_scr X.1 hc S1.1
  refine Ew_of (pcₚ := 443) (fun _ => x_aload_n rfl l2) ?_
  refine Ew_of (pcₚ := 444) (fun _ => x_aload_n rfl l0) ?_
  refine Ew_of (pcₚ := 445) (fun _ => x_iload_n rfl l3) ?_
  refine Ew_of (pcₚ := 446) (fun _ => x_iconst rfl) ?_
  refine w_iadd rfl ?_
  refine w_scr hc1 rfl (by omega) (by omega) ?_
  refine Ew_of (pcₚ := 449) (fun _ => x_aload_n rfl l0) ?_
  refine Ew_of (pcₚ := 450) (fun _ => x_iload_n rfl l3) ?_
  refine Ew_of (pcₚ := 451) (fun _ => x_iconst rfl) ?_
  refine w_iadd rfl ?_
  refine w_scr hc1 rfl (by omega) (by omega) ?_
  refine w_callk rfl (fun rec => rinvv rfl rfl (Y1.1.1.obj 0 (Y1.1.1.perm 0 rfl) rfl) rec) rfl (RS_byteAt (d := d + 12) Y1.1 (hx _) (hx _) (fun z2 σ2 F3 A3 Y2 T2 e2 zr2 py0 => ⟨rfl, ?_⟩))
  have X2 := RF_cls X1 Y1.1.1 Y1.2 T2
  have hc2 := RF_scr Y1.1.1 hc1 T2
  have he : z = z2 := Q_rel (P := fun (L : List Int) (u : Int) => (0 ≤ (xs ((i + 2)).toNat) ∧ (xs ((i + 2)).toNat) < (L.length : Int)) ∧ u = ap L ((xs ((i + 2)).toNat)) ∨ ¬ (0 ≤ (xs ((i + 2)).toNat) ∧ (xs ((i + 2)).toNat) < (L.length : Int)) ∧ u = -1) (fun L u v p q => by rcases p with ⟨p1, p2⟩ | ⟨p1, p2⟩ <;> rcases q with ⟨q1, q2⟩ | ⟨q1, q2⟩; exact p2.trans q2.symm; exact absurd p1 q1; exact absurd q1 p1; exact p2.trans q2.symm) hE.1 px0 (C4_of (P := fun L => (fun (L : List Int) (u : Int) => (0 ≤ (xs ((i + 2)).toNat) ∧ (xs ((i + 2)).toNat) < (L.length : Int)) ∧ u = ap L ((xs ((i + 2)).toNat)) ∨ ¬ (0 ≤ (xs ((i + 2)).toNat) ∧ (xs ((i + 2)).toNat) < (L.length : Int)) ∧ u = -1) L z) px1 px2 px3 px4) (by rcases py0 with ⟨u, v, w⟩ | ⟨u, w⟩; exact .inl ⟨u, .inl ⟨v, w⟩⟩; by_cases c : 0 ≤ (xs ((i + 1)).toNat) ∧ (xs ((i + 1)).toNat) ≤ 3; exact .inl ⟨c, .inr ⟨fun q => u ⟨c, q⟩, w⟩⟩; exact .inr ⟨c, w⟩)
  have hE2 : REL F1 A1 F3 A3 := REL_s hE (EQD_sub (by decide) E1) (EQD_sub (by decide) e2)
  try subst he
  refine w_icmpeq (t := 1066) rfl rfl (show inr z by omega) (show inr z by omega) (fun _ => ?_) (fun q => absurd rfl q)
  exact k Dc g σ2 D1 N1 F1 A1 F3 A3 _ _ X2 Y2 Y1.2 hc2 S1.1.2.1 (RMG_of S1.1) hE2
set_option maxHeartbeats 4000000 in
theorem LC_7 {Dc : DcS} {g : Nat → Bool} {σ : rS} {D N D2 N2 : Nat → Nat} {F F2 : hF} {A A2 : hA} {d c s L : Nat} {xs : Nat → Int} {Q : wQ} (X : PHI Dc g σ D N F A) (Y : RHI Dc σ D2 N2 F2 A2) (hs : SEP g D D2) (hc : SCR σ L xs) (hE : REL F A F2 A2) (hx : ∀ j, inr (xs j)) (hL : L ≤ 1000000) {i : Int} (hi : 0 ≤ i ∧ i + 6 ≤ L) {ls : rO} (l0 : rlook ls 0 = some (.ref 11)) (l1 : rlook ls 1 = some (.ref (D 0))) (l2 : rlook ls 2 = some (.ref (D2 0))) (l3 : rlook ls 3 = some (I i)) (k : ∀ (Dn : DcS) (gₚ : Nat → Bool) (σₚ : rS) (Dₚ Nₚ : Nat → Nat) (Fₚ : hF) (Aₚ : hA) (F2ₚ : hF) (A2ₚ : hA) (cₚ sₚ : Nat), PHI Dn gₚ σₚ Dₚ Nₚ Fₚ Aₚ → RHI Dn σₚ D2 N2 F2ₚ A2ₚ → SEP gₚ Dₚ D2 → SCR σₚ L xs → Dₚ 0 = D 0 → RMG g N c s gₚ Nₚ cₚ sₚ → REL Fₚ Aₚ F2ₚ A2ₚ → Ew 455 (d + 14) 1066 ls [] σₚ cₚ sₚ Q) : Ew 455 (d + 14) 461 ls [] σ c s Q := by
  refine Ew_of (pcₚ := 462) (fun _ => x_aload_n rfl l1) ?_
  refine Ew_of (pcₚ := 463) (fun _ => x_aload_n rfl l0) ?_
  refine Ew_of (pcₚ := 464) (fun _ => x_iload_n rfl l3) ?_
  refine Ew_of (pcₚ := 465) (fun _ => x_iconst rfl) ?_
  refine w_iadd rfl ?_
  refine w_scr hc rfl (by omega) (by omega) ?_
  refine Ew_of (pcₚ := 468) (fun _ => x_aload_n rfl l0) ?_
  refine Ew_of (pcₚ := 469) (fun _ => x_iload_n rfl l3) ?_
  refine Ew_of (pcₚ := 470) (fun _ => x_iconst rfl) ?_
  refine w_iadd rfl ?_
  refine w_scr hc rfl (by omega) (by omega) ?_
  refine w_callk rfl (fun rec => rinvv rfl rfl (X.1.obj 0 (by decide +kernel) (show g 0 = true from X.2.2.1) rfl) rec) rfl (T_differ (d := d + 12) X (hx _) (hx _) (fun z σ1 D1 N1 F1 A1 c1 s1 X1 S1 E1 zr px0 => ⟨rfl, ?_⟩))
  have Y1 := CL_ref Y hs S1.1
  have hc1 := CL_scr X.1 hc S1.1
  refine Ew_of (pcₚ := 476) (fun _ => x_aload_n rfl l2) ?_
  refine Ew_of (pcₚ := 477) (fun _ => x_aload_n rfl l0) ?_
  refine Ew_of (pcₚ := 478) (fun _ => x_iload_n rfl l3) ?_
  refine Ew_of (pcₚ := 479) (fun _ => x_iconst rfl) ?_
  refine w_iadd rfl ?_
  refine w_scr hc1 rfl (by omega) (by omega) ?_
  refine Ew_of (pcₚ := 482) (fun _ => x_aload_n rfl l0) ?_
  refine Ew_of (pcₚ := 483) (fun _ => x_iload_n rfl l3) ?_
  refine Ew_of (pcₚ := 484) (fun _ => x_iconst rfl) ?_
  refine w_iadd rfl ?_
  refine w_scr hc1 rfl (by omega) (by omega) ?_
  refine w_callk rfl (fun rec => rinvv rfl rfl (Y1.1.1.obj 0 (Y1.1.1.perm 0 rfl) rfl) rec) rfl (RS_differ (d := d + 12) Y1.1 (hx _) (hx _) (fun z2 σ2 F3 A3 Y2 T2 e2 zr2 py0 => ⟨rfl, ?_⟩))
  have X2 := RF_cls X1 Y1.1.1 Y1.2 T2
  have hc2 := RF_scr Y1.1.1 hc1 T2
  have he : z = z2 := DFP_det2 hE.1 px0 py0
  have hE2 : REL F1 A1 F3 A3 := REL_s hE (EQD_sub (by decide) E1) (EQD_sub (by decide) e2)
  try subst he
  refine w_icmpeq (t := 1066) rfl rfl (show inr z by omega) (show inr z by omega) (fun _ => ?_) (fun q => absurd rfl q)
  exact k Dc g σ2 D1 N1 F1 A1 F3 A3 _ _ X2 Y2 Y1.2 hc2 S1.1.2.1 (RMG_of S1.1) hE2
set_option maxHeartbeats 4000000 in
theorem LC_8 {Dc : DcS} {g : Nat → Bool} {σ : rS} {D N D2 N2 : Nat → Nat} {F F2 : hF} {A A2 : hA} {d c s L : Nat} {xs : Nat → Int} {Q : wQ} (X : PHI Dc g σ D N F A) (Y : RHI Dc σ D2 N2 F2 A2) (hs : SEP g D D2) (hc : SCR σ L xs) (hE : REL F A F2 A2) (hx : ∀ j, inr (xs j)) (hL : L ≤ 1000000) {i : Int} (hi : 0 ≤ i ∧ i + 6 ≤ L) {ls : rO} (l0 : rlook ls 0 = some (.ref 11)) (l1 : rlook ls 1 = some (.ref (D 0))) (l2 : rlook ls 2 = some (.ref (D2 0))) (l3 : rlook ls 3 = some (I i)) (k : ∀ (Dn : DcS) (gₚ : Nat → Bool) (σₚ : rS) (Dₚ Nₚ : Nat → Nat) (Fₚ : hF) (Aₚ : hA) (F2ₚ : hF) (A2ₚ : hA) (cₚ sₚ : Nat), PHI Dn gₚ σₚ Dₚ Nₚ Fₚ Aₚ → RHI Dn σₚ D2 N2 F2ₚ A2ₚ → SEP gₚ Dₚ D2 → SCR σₚ L xs → Dₚ 0 = D 0 → RMG g N c s gₚ Nₚ cₚ sₚ → REL Fₚ Aₚ F2ₚ A2ₚ → Ew 455 (d + 14) 1066 ls [] σₚ cₚ sₚ Q) : Ew 455 (d + 14) 494 ls [] σ c s Q := by
  refine Ew_of (pcₚ := 495) (fun _ => x_aload_n rfl l1) ?_
  refine Ew_of (pcₚ := 496) (fun _ => x_aload_n rfl l0) ?_
  refine Ew_of (pcₚ := 497) (fun _ => x_iload_n rfl l3) ?_
  refine Ew_of (pcₚ := 498) (fun _ => x_iconst rfl) ?_
  refine w_iadd rfl ?_
  refine w_scr hc rfl (by omega) (by omega) ?_
  refine Ew_of (pcₚ := 501) (fun _ => x_aload_n rfl l0) ?_
  refine Ew_of (pcₚ := 502) (fun _ => x_iload_n rfl l3) ?_
  refine Ew_of (pcₚ := 503) (fun _ => x_iconst rfl) ?_
  refine w_iadd rfl ?_
  refine w_scr hc rfl (by omega) (by omega) ?_
  refine w_callk rfl (fun rec => rinvv rfl rfl (X.1.obj 0 (by decide +kernel) (show g 0 = true from X.2.2.1) rfl) rec) rfl (T_set (d := d + 11) X (hx _) (hx _) (fun z σ1 D1 N1 F1 A1 c1 s1 X1 S1 E1 zr px0 px1 => ⟨(rretB rfl zr), ?_⟩))
  have Y1 := CL_ref Y hs S1
  have hc1 := CL_scr X.1 hc S1
  refine Ew_of (pcₚ := 509) (fun _ => x_aload_n rfl l2) ?_
  refine Ew_of (pcₚ := 510) (fun _ => x_aload_n rfl l0) ?_
  refine Ew_of (pcₚ := 511) (fun _ => x_iload_n rfl l3) ?_
  refine Ew_of (pcₚ := 512) (fun _ => x_iconst rfl) ?_
  refine w_iadd rfl ?_
  refine w_scr hc1 rfl (by omega) (by omega) ?_
  refine Ew_of (pcₚ := 515) (fun _ => x_aload_n rfl l0) ?_
  refine Ew_of (pcₚ := 516) (fun _ => x_iload_n rfl l3) ?_
  refine Ew_of (pcₚ := 517) (fun _ => x_iconst rfl) ?_
  refine w_iadd rfl ?_
  refine w_scr hc1 rfl (by omega) (by omega) ?_
  refine w_callk rfl (fun rec => rinvv rfl rfl (Y1.1.1.obj 0 (Y1.1.1.perm 0 rfl) rfl) rec) rfl (RS_set (d := d + 11) Y1.1 (hx _) (hx _) (fun z2 σ2 F3 A3 Y2 T2 e2 zr2 py0 py1 => ⟨(rretB rfl zr2), ?_⟩))
  have X2 := RF_cls X1 Y1.1.1 Y1.2 T2
  have hc2 := RF_scr Y1.1.1 hc1 T2
  have he : z = z2 := by have := aref (v := (xs ((i + 2)).toNat)) (hx _); omega
  subst he
  have hE2 : REL F1 A1 F3 A3 := EQ_se hE (EQD_sub (by decide) E1) (EQD_sub (by decide) e2) (EQS_upd hE.2.2.2.2.2.2.2 px1 py1)
  have he : z = z := rfl
  try subst he
  refine w_icmpeq (t := 1066) rfl rfl (show inr z by omega) (show inr z by omega) (fun _ => ?_) (fun q => absurd rfl q)
  exact k Dc g σ2 D1 N1 F1 A1 F3 A3 _ _ X2 Y2 Y1.2 hc2 S1.2.1 (RMG_of S1) hE2
set_option maxHeartbeats 4000000 in
theorem LC_9 {Dc : DcS} {g : Nat → Bool} {σ : rS} {D N D2 N2 : Nat → Nat} {F F2 : hF} {A A2 : hA} {d c s L : Nat} {xs : Nat → Int} {Q : wQ} (X : PHI Dc g σ D N F A) (Y : RHI Dc σ D2 N2 F2 A2) (hs : SEP g D D2) (hc : SCR σ L xs) (hE : REL F A F2 A2) (hx : ∀ j, inr (xs j)) (hL : L ≤ 1000000) {i : Int} (hi : 0 ≤ i ∧ i + 6 ≤ L) {ls : rO} (l0 : rlook ls 0 = some (.ref 11)) (l1 : rlook ls 1 = some (.ref (D 0))) (l2 : rlook ls 2 = some (.ref (D2 0))) (l3 : rlook ls 3 = some (I i)) (k : ∀ (Dn : DcS) (gₚ : Nat → Bool) (σₚ : rS) (Dₚ Nₚ : Nat → Nat) (Fₚ : hF) (Aₚ : hA) (F2ₚ : hF) (A2ₚ : hA) (cₚ sₚ : Nat), PHI Dn gₚ σₚ Dₚ Nₚ Fₚ Aₚ → RHI Dn σₚ D2 N2 F2ₚ A2ₚ → SEP gₚ Dₚ D2 → SCR σₚ L xs → Dₚ 0 = D 0 → RMG g N c s gₚ Nₚ cₚ sₚ → REL Fₚ Aₚ F2ₚ A2ₚ → Ew 455 (d + 14) 1066 ls [] σₚ cₚ sₚ Q) : Ew 455 (d + 14) 527 ls [] σ c s Q := by
  refine Ew_of (pcₚ := 528) (fun _ => x_aload_n rfl l1) ?_
  refine Ew_of (pcₚ := 529) (fun _ => x_aload_n rfl l0) ?_
  refine Ew_of (pcₚ := 530) (fun _ => x_iload_n rfl l3) ?_
  refine Ew_of (pcₚ := 531) (fun _ => x_iconst rfl) ?_
  refine w_iadd rfl ?_
  refine w_scr hc rfl (by omega) (by omega) ?_
  refine w_callk rfl (fun rec => rinvv rfl rfl (X.1.obj 0 (by decide +kernel) (show g 0 = true from X.2.2.1) rfl) rec) rfl (T_get (d := d + 12) X (hx _) (fun z σ1 D1 N1 F1 A1 c1 s1 X1 S1 E1 zr px0 => ⟨rfl, ?_⟩))
  have Y1 := CL_ref Y hs S1.1
  have hc1 := CL_scr X.1 hc S1.1
  refine Ew_of (pcₚ := 537) (fun _ => x_aload_n rfl l2) ?_
  refine Ew_of (pcₚ := 538) (fun _ => x_aload_n rfl l0) ?_
  refine Ew_of (pcₚ := 539) (fun _ => x_iload_n rfl l3) ?_
  refine Ew_of (pcₚ := 540) (fun _ => x_iconst rfl) ?_
  refine w_iadd rfl ?_
  refine w_scr hc1 rfl (by omega) (by omega) ?_
  refine w_callk rfl (fun rec => rinvv rfl rfl (Y1.1.1.obj 0 (Y1.1.1.perm 0 rfl) rfl) rec) rfl (RS_get (d := d + 12) Y1.1 (hx _) (fun z2 σ2 F3 A3 Y2 T2 e2 zr2 py0 => ⟨rfl, ?_⟩))
  have X2 := RF_cls X1 Y1.1.1 Y1.2 T2
  have hc2 := RF_scr Y1.1.1 hc1 T2
  have he : z = z2 := by rcases px0 with ⟨g0, g1, g2⟩ | ⟨g0, g2⟩ <;> rcases py0 with ⟨q0, q1, q2⟩ | ⟨q0, q2⟩ <;> first | omega | (rw [g2, q2]; exact hE.2.2.2.2.2.2.2 _ g0 (by omega))
  have hE2 : REL F1 A1 F3 A3 := REL_s hE (EQD_sub (by decide) E1) (EQD_sub (by decide) e2)
  try subst he
  refine w_icmpeq (t := 1066) rfl rfl (show inr z by omega) (show inr z by omega) (fun _ => ?_) (fun q => absurd rfl q)
  exact k Dc g σ2 D1 N1 F1 A1 F3 A3 _ _ X2 Y2 Y1.2 hc2 S1.1.2.1 (RMG_of S1.1) hE2
set_option maxHeartbeats 4000000 in
theorem LC_10 {Dc : DcS} {g : Nat → Bool} {σ : rS} {D N D2 N2 : Nat → Nat} {F F2 : hF} {A A2 : hA} {d c s L : Nat} {xs : Nat → Int} {Q : wQ} (X : PHI Dc g σ D N F A) (Y : RHI Dc σ D2 N2 F2 A2) (hs : SEP g D D2) (hc : SCR σ L xs) (hE : REL F A F2 A2) (hx : ∀ j, inr (xs j)) (hL : L ≤ 1000000) {i : Int} (hi : 0 ≤ i ∧ i + 6 ≤ L) {ls : rO} (l0 : rlook ls 0 = some (.ref 11)) (l1 : rlook ls 1 = some (.ref (D 0))) (l2 : rlook ls 2 = some (.ref (D2 0))) (l3 : rlook ls 3 = some (I i)) (k : ∀ (Dn : DcS) (gₚ : Nat → Bool) (σₚ : rS) (Dₚ Nₚ : Nat → Nat) (Fₚ : hF) (Aₚ : hA) (F2ₚ : hF) (A2ₚ : hA) (cₚ sₚ : Nat), PHI Dn gₚ σₚ Dₚ Nₚ Fₚ Aₚ → RHI Dn σₚ D2 N2 F2ₚ A2ₚ → SEP gₚ Dₚ D2 → SCR σₚ L xs → Dₚ 0 = D 0 → RMG g N c s gₚ Nₚ cₚ sₚ → REL Fₚ Aₚ F2ₚ A2ₚ → Ew 455 (d + 14) 1066 ls [] σₚ cₚ sₚ Q) : Ew 455 (d + 14) 550 ls [] σ c s Q := by
  refine Ew_of (pcₚ := 551) (fun _ => x_aload_n rfl l1) ?_
  refine Ew_of (pcₚ := 552) (fun _ => x_aload_n rfl l0) ?_
  refine Ew_of (pcₚ := 553) (fun _ => x_iload_n rfl l3) ?_
  refine Ew_of (pcₚ := 554) (fun _ => x_iconst rfl) ?_
  refine w_iadd rfl ?_
  refine w_scr hc rfl (by omega) (by omega) ?_
  refine Ew_of (pcₚ := 557) (fun _ => x_aload_n rfl l0) ?_
  refine Ew_of (pcₚ := 558) (fun _ => x_iload_n rfl l3) ?_
  refine Ew_of (pcₚ := 559) (fun _ => x_iconst rfl) ?_
  refine w_iadd rfl ?_
  refine w_scr hc rfl (by omega) (by omega) ?_
  refine Ew_of (pcₚ := 562) (fun _ => x_aload_n rfl l0) ?_
  refine Ew_of (pcₚ := 563) (fun _ => x_iload_n rfl l3) ?_
  refine Ew_of (pcₚ := 564) (fun _ => x_iconst rfl) ?_
  refine w_iadd rfl ?_
  refine w_scr hc rfl (by omega) (by omega) ?_
  refine Ew_of (pcₚ := 567) (fun _ => x_aload_n rfl l0) ?_
  refine Ew_of (pcₚ := 568) (fun _ => x_iload_n rfl l3) ?_
  refine Ew_of (pcₚ := 569) (fun _ => x_iconst rfl) ?_
  refine w_iadd rfl ?_
  refine w_scr hc rfl (by omega) (by omega) ?_
  refine w_callk rfl (fun rec => rinvv rfl rfl (X.1.obj 0 (by decide +kernel) (show g 0 = true from X.2.2.1) rfl) rec) rfl (T_narrow (d := d + 10) X (hx _) (hx _) (hx _) (hx _) (fun z σ1 D1 N1 F1 A1 c1 s1 X1 S1 E1 zr px0 px1 px2 px3 px4 => ⟨rfl, ?_⟩))
  have Y1 := CL_ref Y hs S1.1
  have hc1 := CL_scr X.1 hc S1.1
  refine Ew_of (pcₚ := 575) (fun _ => x_aload_n rfl l2) ?_
  refine Ew_of (pcₚ := 576) (fun _ => x_aload_n rfl l0) ?_
  refine Ew_of (pcₚ := 577) (fun _ => x_iload_n rfl l3) ?_
  refine Ew_of (pcₚ := 578) (fun _ => x_iconst rfl) ?_
  refine w_iadd rfl ?_
  refine w_scr hc1 rfl (by omega) (by omega) ?_
  refine Ew_of (pcₚ := 581) (fun _ => x_aload_n rfl l0) ?_
  refine Ew_of (pcₚ := 582) (fun _ => x_iload_n rfl l3) ?_
  refine Ew_of (pcₚ := 583) (fun _ => x_iconst rfl) ?_
  refine w_iadd rfl ?_
  refine w_scr hc1 rfl (by omega) (by omega) ?_
  refine Ew_of (pcₚ := 586) (fun _ => x_aload_n rfl l0) ?_
  refine Ew_of (pcₚ := 587) (fun _ => x_iload_n rfl l3) ?_
  refine Ew_of (pcₚ := 588) (fun _ => x_iconst rfl) ?_
  refine w_iadd rfl ?_
  refine w_scr hc1 rfl (by omega) (by omega) ?_
  refine Ew_of (pcₚ := 591) (fun _ => x_aload_n rfl l0) ?_
  refine Ew_of (pcₚ := 592) (fun _ => x_iload_n rfl l3) ?_
  refine Ew_of (pcₚ := 593) (fun _ => x_iconst rfl) ?_
  refine w_iadd rfl ?_
  refine w_scr hc1 rfl (by omega) (by omega) ?_
  refine w_callk rfl (fun rec => rinvv rfl rfl (Y1.1.1.obj 0 (Y1.1.1.perm 0 rfl) rfl) rec) rfl (RS_narrow (d := d + 9) Y1.1 (hx _) (hx _) (hx _) (hx _) (fun z2 σ2 F3 A3 Y2 T2 e2 zr2 py0 => ⟨rfl, ?_⟩))
  have X2 := RF_cls X1 Y1.1.1 Y1.2 T2
  have hc2 := RF_scr Y1.1.1 hc1 T2
  have he : z = z2 := Q_fun (f := fun L : List Int => NSL (prL L ((xs ((i + 2)).toNat)) ((xs ((i + 3)).toNat))) ((xs ((i + 4)).toNat))) hE.1 px0 (C4_of (P := fun L => z = (fun L : List Int => NSL (prL L ((xs ((i + 2)).toNat)) ((xs ((i + 3)).toNat))) ((xs ((i + 4)).toNat))) L) px1 px2 px3 px4) py0
  have hE2 : REL F1 A1 F3 A3 := REL_s hE (EQD_sub (by decide) E1) (EQD_sub (by decide) e2)
  try subst he
  refine w_icmpeq (t := 1066) rfl rfl (show inr z by omega) (show inr z by omega) (fun _ => ?_) (fun q => absurd rfl q)
  exact k Dc g σ2 D1 N1 F1 A1 F3 A3 _ _ X2 Y2 Y1.2 hc2 S1.1.2.1 (RMG_of S1.1) hE2
set_option maxHeartbeats 4000000 in
theorem LC_11 {Dc : DcS} {g : Nat → Bool} {σ : rS} {D N D2 N2 : Nat → Nat} {F F2 : hF} {A A2 : hA} {d c s L : Nat} {xs : Nat → Int} {Q : wQ} (X : PHI Dc g σ D N F A) (Y : RHI Dc σ D2 N2 F2 A2) (hs : SEP g D D2) (hc : SCR σ L xs) (hE : REL F A F2 A2) (hx : ∀ j, inr (xs j)) (hL : L ≤ 1000000) {i : Int} (hi : 0 ≤ i ∧ i + 6 ≤ L) {ls : rO} (l0 : rlook ls 0 = some (.ref 11)) (l1 : rlook ls 1 = some (.ref (D 0))) (l2 : rlook ls 2 = some (.ref (D2 0))) (l3 : rlook ls 3 = some (I i)) (k : ∀ (Dn : DcS) (gₚ : Nat → Bool) (σₚ : rS) (Dₚ Nₚ : Nat → Nat) (Fₚ : hF) (Aₚ : hA) (F2ₚ : hF) (A2ₚ : hA) (cₚ sₚ : Nat), PHI Dn gₚ σₚ Dₚ Nₚ Fₚ Aₚ → RHI Dn σₚ D2 N2 F2ₚ A2ₚ → SEP gₚ Dₚ D2 → SCR σₚ L xs → Dₚ 0 = D 0 → RMG g N c s gₚ Nₚ cₚ sₚ → REL Fₚ Aₚ F2ₚ A2ₚ → Ew 455 (d + 14) 1066 ls [] σₚ cₚ sₚ Q) : Ew 455 (d + 14) 603 ls [] σ c s Q := by
  refine Ew_of (pcₚ := 604) (fun _ => x_aload_n rfl l1) ?_
  refine Ew_of (pcₚ := 605) (fun _ => x_aload_n rfl l0) ?_
  refine Ew_of (pcₚ := 606) (fun _ => x_iload_n rfl l3) ?_
  refine Ew_of (pcₚ := 607) (fun _ => x_iconst rfl) ?_
  refine w_iadd rfl ?_
  refine w_scr hc rfl (by omega) (by omega) ?_
  refine Ew_of (pcₚ := 610) (fun _ => x_aload_n rfl l0) ?_
  refine Ew_of (pcₚ := 611) (fun _ => x_iload_n rfl l3) ?_
  refine Ew_of (pcₚ := 612) (fun _ => x_iconst rfl) ?_
  refine w_iadd rfl ?_
  refine w_scr hc rfl (by omega) (by omega) ?_
  refine Ew_of (pcₚ := 615) (fun _ => x_aload_n rfl l0) ?_
  refine Ew_of (pcₚ := 616) (fun _ => x_iload_n rfl l3) ?_
  refine Ew_of (pcₚ := 617) (fun _ => x_iconst rfl) ?_
  refine w_iadd rfl ?_
  refine w_scr hc rfl (by omega) (by omega) ?_
  refine Ew_of (pcₚ := 620) (fun _ => x_aload_n rfl l0) ?_
  refine Ew_of (pcₚ := 621) (fun _ => x_iload_n rfl l3) ?_
  refine Ew_of (pcₚ := 622) (fun _ => x_iconst rfl) ?_
  refine w_iadd rfl ?_
  refine w_scr hc rfl (by omega) (by omega) ?_
  refine w_i2l rfl (hx _) ?_
  refine Ew_of (pcₚ := 627) (fun _ => x_bipush rfl (z := 32) (by decide)) ?_
  refine w_lshlZ rfl ?_
  refine Ew_of (pcₚ := 629) (fun _ => x_aload_n rfl l0) ?_
  refine Ew_of (pcₚ := 630) (fun _ => x_iload_n rfl l3) ?_
  refine Ew_of (pcₚ := 631) (fun _ => x_iconst rfl) ?_
  refine w_iadd rfl ?_
  refine w_scr hc rfl (by omega) (by omega) ?_
  refine w_i2l rfl (hx _) ?_
  refine Ew_of (pcₚ := 637) (fun _ => x_ldc2 rfl (z := 4294967295) (by decide)) ?_
  refine w_landZ rfl ?_
  refine w_lorZ rfl ?_
  refine w_callk rfl (fun rec => rinvv rfl rfl (X.1.obj 0 (by decide +kernel) (show g 0 = true from X.2.2.1) rfl) rec) rfl (T_wide (d := d + 9) X (hx _) (hx _) (hx _) (zrng _ _) (fun z σ1 D1 N1 F1 A1 c1 s1 X1 S1 E1 zr px0 px1 px2 px3 px4 => ⟨rfl, ?_⟩))
  have Y1 := CL_ref Y hs S1.1
  have hc1 := CL_scr X.1 hc S1.1
  refine Ew_of (pcₚ := 643) (fun _ => x_aload_n rfl l2) ?_
  refine Ew_of (pcₚ := 644) (fun _ => x_aload_n rfl l0) ?_
  refine Ew_of (pcₚ := 645) (fun _ => x_iload_n rfl l3) ?_
  refine Ew_of (pcₚ := 646) (fun _ => x_iconst rfl) ?_
  refine w_iadd rfl ?_
  refine w_scr hc1 rfl (by omega) (by omega) ?_
  refine Ew_of (pcₚ := 649) (fun _ => x_aload_n rfl l0) ?_
  refine Ew_of (pcₚ := 650) (fun _ => x_iload_n rfl l3) ?_
  refine Ew_of (pcₚ := 651) (fun _ => x_iconst rfl) ?_
  refine w_iadd rfl ?_
  refine w_scr hc1 rfl (by omega) (by omega) ?_
  refine Ew_of (pcₚ := 654) (fun _ => x_aload_n rfl l0) ?_
  refine Ew_of (pcₚ := 655) (fun _ => x_iload_n rfl l3) ?_
  refine Ew_of (pcₚ := 656) (fun _ => x_iconst rfl) ?_
  refine w_iadd rfl ?_
  refine w_scr hc1 rfl (by omega) (by omega) ?_
  refine Ew_of (pcₚ := 659) (fun _ => x_aload_n rfl l0) ?_
  refine Ew_of (pcₚ := 660) (fun _ => x_iload_n rfl l3) ?_
  refine Ew_of (pcₚ := 661) (fun _ => x_iconst rfl) ?_
  refine w_iadd rfl ?_
  refine w_scr hc1 rfl (by omega) (by omega) ?_
  refine w_i2l rfl (hx _) ?_
  refine Ew_of (pcₚ := 666) (fun _ => x_bipush rfl (z := 32) (by decide)) ?_
  refine w_lshlZ rfl ?_
  refine Ew_of (pcₚ := 668) (fun _ => x_aload_n rfl l0) ?_
  refine Ew_of (pcₚ := 669) (fun _ => x_iload_n rfl l3) ?_
  refine Ew_of (pcₚ := 670) (fun _ => x_iconst rfl) ?_
  refine w_iadd rfl ?_
  refine w_scr hc1 rfl (by omega) (by omega) ?_
  refine w_i2l rfl (hx _) ?_
  refine Ew_of (pcₚ := 676) (fun _ => x_ldc2 rfl (z := 4294967295) (by decide)) ?_
  refine w_landZ rfl ?_
  refine w_lorZ rfl ?_
  refine w_callk rfl (fun rec => rinvv rfl rfl (Y1.1.1.obj 0 (Y1.1.1.perm 0 rfl) rfl) rec) rfl (RS_wide (d := d + 8) Y1.1 (hx _) (hx _) (hx _) (zrng _ _) (fun z2 σ2 F3 A3 Y2 T2 e2 zr2 py0 => ⟨rfl, ?_⟩))
  have X2 := RF_cls X1 Y1.1.1 Y1.2 T2
  have hc2 := RF_scr Y1.1.1 hc1 T2
  have he : z = z2 := Q_fun (f := fun L : List Int => WDX (prL L ((xs ((i + 2)).toNat)) ((xs ((i + 3)).toNat))) ((zor (zshl (xs ((i + 4)).toNat) 32) (zand (xs ((i + 5)).toNat) 4294967295)))) hE.1 px0 (C4_of (P := fun L => z = (fun L : List Int => WDX (prL L ((xs ((i + 2)).toNat)) ((xs ((i + 3)).toNat))) ((zor (zshl (xs ((i + 4)).toNat) 32) (zand (xs ((i + 5)).toNat) 4294967295)))) L) px1 px2 px3 px4) py0
  have hE2 : REL F1 A1 F3 A3 := REL_s hE (EQD_sub (by decide) E1) (EQD_sub (by decide) e2)
  subst he
  refine w_lcmp rfl zr zr (fun q hq _ he => ?_)
  have hq0 : q = 0 := he.mpr rfl
  subst hq0
  refine w_ifeq (t := 1066) rfl rfl (show inr 0 by omega) (fun _ => ?_) (fun q => absurd rfl q)
  exact k Dc g σ2 D1 N1 F1 A1 F3 A3 _ _ X2 Y2 Y1.2 hc2 S1.1.2.1 (RMG_of S1.1) hE2
set_option maxHeartbeats 4000000 in
theorem LC_12 {Dc : DcS} {g : Nat → Bool} {σ : rS} {D N D2 N2 : Nat → Nat} {F F2 : hF} {A A2 : hA} {d c s L : Nat} {xs : Nat → Int} {Q : wQ} (X : PHI Dc g σ D N F A) (Y : RHI Dc σ D2 N2 F2 A2) (hs : SEP g D D2) (hc : SCR σ L xs) (hE : REL F A F2 A2) (hx : ∀ j, inr (xs j)) (hL : L ≤ 1000000) {i : Int} (hi : 0 ≤ i ∧ i + 6 ≤ L) {ls : rO} (l0 : rlook ls 0 = some (.ref 11)) (l1 : rlook ls 1 = some (.ref (D 0))) (l2 : rlook ls 2 = some (.ref (D2 0))) (l3 : rlook ls 3 = some (I i)) (k : ∀ (Dn : DcS) (gₚ : Nat → Bool) (σₚ : rS) (Dₚ Nₚ : Nat → Nat) (Fₚ : hF) (Aₚ : hA) (F2ₚ : hF) (A2ₚ : hA) (cₚ sₚ : Nat), PHI Dn gₚ σₚ Dₚ Nₚ Fₚ Aₚ → RHI Dn σₚ D2 N2 F2ₚ A2ₚ → SEP gₚ Dₚ D2 → SCR σₚ L xs → Dₚ 0 = D 0 → RMG g N c s gₚ Nₚ cₚ sₚ → REL Fₚ Aₚ F2ₚ A2ₚ → Ew 455 (d + 14) 1066 ls [] σₚ cₚ sₚ Q) : Ew 455 (d + 14) 687 ls [] σ c s Q := by
  refine Ew_of (pcₚ := 688) (fun _ => x_aload_n rfl l1) ?_
  refine Ew_of (pcₚ := 689) (fun _ => x_aload_n rfl l0) ?_
  refine Ew_of (pcₚ := 690) (fun _ => x_iload_n rfl l3) ?_
  refine Ew_of (pcₚ := 691) (fun _ => x_iconst rfl) ?_
  refine w_iadd rfl ?_
  refine w_scr hc rfl (by omega) (by omega) ?_
  refine Ew_of (pcₚ := 694) (fun _ => x_aload_n rfl l0) ?_
  refine Ew_of (pcₚ := 695) (fun _ => x_iload_n rfl l3) ?_
  refine Ew_of (pcₚ := 696) (fun _ => x_iconst rfl) ?_
  refine w_iadd rfl ?_
  refine w_scr hc rfl (by omega) (by omega) ?_
  refine Ew_of (pcₚ := 699) (fun _ => x_aload_n rfl l0) ?_
  refine Ew_of (pcₚ := 700) (fun _ => x_iload_n rfl l3) ?_
  refine Ew_of (pcₚ := 701) (fun _ => x_iconst rfl) ?_
  refine w_iadd rfl ?_
  refine w_scr hc rfl (by omega) (by omega) ?_
  refine Ew_of (pcₚ := 704) (fun _ => x_aload_n rfl l0) ?_
  refine Ew_of (pcₚ := 705) (fun _ => x_iload_n rfl l3) ?_
  refine Ew_of (pcₚ := 706) (fun _ => x_iconst rfl) ?_
  refine w_iadd rfl ?_
  refine w_scr hc rfl (by omega) (by omega) ?_
  refine w_ifeq (t := 715) rfl rfl (hx _) (fun b1 => ?_) (fun b1 => ?_)
  · skip
    refine Ew_of (pcₚ := 716) (fun _ => x_iconst rfl) ?_
    refine w_callk rfl (fun rec => rinvv rfl rfl (X.1.obj 0 (by decide +kernel) (show g 0 = true from X.2.2.1) rfl) rec) rfl (T_poly (d := d + 11) X (hx _) (hx _) (hx _) (by omega) (by omega) (fun z σ1 D1 N1 F1 A1 c1 s1 X1 S1 E1 zr px0 px1 px2 px3 px4 => ⟨rfl, ?_⟩))
    have Y1 := CL_ref Y hs S1.1
    have hc1 := CL_scr X.1 hc S1.1
    refine Ew_of (pcₚ := 720) (fun _ => x_aload_n rfl l2) ?_
    refine Ew_of (pcₚ := 721) (fun _ => x_aload_n rfl l0) ?_
    refine Ew_of (pcₚ := 722) (fun _ => x_iload_n rfl l3) ?_
    refine Ew_of (pcₚ := 723) (fun _ => x_iconst rfl) ?_
    refine w_iadd rfl ?_
    refine w_scr hc1 rfl (by omega) (by omega) ?_
    refine Ew_of (pcₚ := 726) (fun _ => x_aload_n rfl l0) ?_
    refine Ew_of (pcₚ := 727) (fun _ => x_iload_n rfl l3) ?_
    refine Ew_of (pcₚ := 728) (fun _ => x_iconst rfl) ?_
    refine w_iadd rfl ?_
    refine w_scr hc1 rfl (by omega) (by omega) ?_
    refine Ew_of (pcₚ := 731) (fun _ => x_aload_n rfl l0) ?_
    refine Ew_of (pcₚ := 732) (fun _ => x_iload_n rfl l3) ?_
    refine Ew_of (pcₚ := 733) (fun _ => x_iconst rfl) ?_
    refine w_iadd rfl ?_
    refine w_scr hc1 rfl (by omega) (by omega) ?_
    refine Ew_of (pcₚ := 736) (fun _ => x_aload_n rfl l0) ?_
    refine Ew_of (pcₚ := 737) (fun _ => x_iload_n rfl l3) ?_
    refine Ew_of (pcₚ := 738) (fun _ => x_iconst rfl) ?_
    refine w_iadd rfl ?_
    refine w_scr hc1 rfl (by omega) (by omega) ?_
    refine w_ifeq (t := 747) rfl rfl (hx _) (fun b3 => ?_) (fun b3 => ?_)
    · skip
      refine Ew_of (pcₚ := 748) (fun _ => x_iconst rfl) ?_
      refine w_callk rfl (fun rec => rinvv rfl rfl (Y1.1.1.obj 0 (Y1.1.1.perm 0 rfl) rfl) rec) rfl (RS_poly (d := d + 9) Y1.1 (hx _) (hx _) (hx _) (by omega) (by omega) (fun z2 σ2 F3 A3 Y2 T2 e2 zr2 py0 => ⟨rfl, ?_⟩))
      have X2 := RF_cls X1 Y1.1.1 Y1.2 T2
      have hc2 := RF_scr Y1.1.1 hc1 T2
      have he : z = z2 := Q_fun (f := fun L : List Int => plY (prL L ((xs ((i + 2)).toNat)) ((xs ((i + 3)).toNat))) (0)) hE.1 px0 (C4_of (P := fun L => z = (fun L : List Int => plY (prL L ((xs ((i + 2)).toNat)) ((xs ((i + 3)).toNat))) (0)) L) px1 px2 px3 px4) py0
      have hE2 : REL F1 A1 F3 A3 := REL_s hE (EQD_sub (by decide) E1) (EQD_sub (by decide) e2)
      try subst he
      refine w_icmpeq (t := 1066) rfl rfl (show inr z by omega) (show inr z by omega) (fun _ => ?_) (fun q => absurd rfl q)
      exact k Dc g σ2 D1 N1 F1 A1 F3 A3 _ _ X2 Y2 Y1.2 hc2 S1.1.2.1 (RMG_of S1.1) hE2
    · skip
      exfalso
      omega
  · skip
    refine Ew_of (pcₚ := 712) (fun _ => x_iconst rfl) ?_
    refine Ew_of (pcₚ := 716) (fun _ => x_goto rfl rfl) ?_
    refine w_callk rfl (fun rec => rinvv rfl rfl (X.1.obj 0 (by decide +kernel) (show g 0 = true from X.2.2.1) rfl) rec) rfl (T_poly (d := d + 11) X (hx _) (hx _) (hx _) (by omega) (by omega) (fun z σ1 D1 N1 F1 A1 c1 s1 X1 S1 E1 zr px0 px1 px2 px3 px4 => ⟨rfl, ?_⟩))
    have Y1 := CL_ref Y hs S1.1
    have hc1 := CL_scr X.1 hc S1.1
    refine Ew_of (pcₚ := 720) (fun _ => x_aload_n rfl l2) ?_
    refine Ew_of (pcₚ := 721) (fun _ => x_aload_n rfl l0) ?_
    refine Ew_of (pcₚ := 722) (fun _ => x_iload_n rfl l3) ?_
    refine Ew_of (pcₚ := 723) (fun _ => x_iconst rfl) ?_
    refine w_iadd rfl ?_
    refine w_scr hc1 rfl (by omega) (by omega) ?_
    refine Ew_of (pcₚ := 726) (fun _ => x_aload_n rfl l0) ?_
    refine Ew_of (pcₚ := 727) (fun _ => x_iload_n rfl l3) ?_
    refine Ew_of (pcₚ := 728) (fun _ => x_iconst rfl) ?_
    refine w_iadd rfl ?_
    refine w_scr hc1 rfl (by omega) (by omega) ?_
    refine Ew_of (pcₚ := 731) (fun _ => x_aload_n rfl l0) ?_
    refine Ew_of (pcₚ := 732) (fun _ => x_iload_n rfl l3) ?_
    refine Ew_of (pcₚ := 733) (fun _ => x_iconst rfl) ?_
    refine w_iadd rfl ?_
    refine w_scr hc1 rfl (by omega) (by omega) ?_
    refine Ew_of (pcₚ := 736) (fun _ => x_aload_n rfl l0) ?_
    refine Ew_of (pcₚ := 737) (fun _ => x_iload_n rfl l3) ?_
    refine Ew_of (pcₚ := 738) (fun _ => x_iconst rfl) ?_
    refine w_iadd rfl ?_
    refine w_scr hc1 rfl (by omega) (by omega) ?_
    refine w_ifeq (t := 747) rfl rfl (hx _) (fun b5 => ?_) (fun b5 => ?_)
    · skip
      exfalso
      omega
    · skip
      refine Ew_of (pcₚ := 744) (fun _ => x_iconst rfl) ?_
      refine Ew_of (pcₚ := 748) (fun _ => x_goto rfl rfl) ?_
      refine w_callk rfl (fun rec => rinvv rfl rfl (Y1.1.1.obj 0 (Y1.1.1.perm 0 rfl) rfl) rec) rfl (RS_poly (d := d + 9) Y1.1 (hx _) (hx _) (hx _) (by omega) (by omega) (fun z2 σ2 F3 A3 Y2 T2 e2 zr2 py0 => ⟨rfl, ?_⟩))
      have X2 := RF_cls X1 Y1.1.1 Y1.2 T2
      have hc2 := RF_scr Y1.1.1 hc1 T2
      have he : z = z2 := Q_fun (f := fun L : List Int => plY (prL L ((xs ((i + 2)).toNat)) ((xs ((i + 3)).toNat))) (1)) hE.1 px0 (C4_of (P := fun L => z = (fun L : List Int => plY (prL L ((xs ((i + 2)).toNat)) ((xs ((i + 3)).toNat))) (1)) L) px1 px2 px3 px4) py0
      have hE2 : REL F1 A1 F3 A3 := REL_s hE (EQD_sub (by decide) E1) (EQD_sub (by decide) e2)
      try subst he
      refine w_icmpeq (t := 1066) rfl rfl (show inr z by omega) (show inr z by omega) (fun _ => ?_) (fun q => absurd rfl q)
      exact k Dc g σ2 D1 N1 F1 A1 F3 A3 _ _ X2 Y2 Y1.2 hc2 S1.1.2.1 (RMG_of S1.1) hE2
set_option maxHeartbeats 4000000 in
theorem LC_13 {Dc : DcS} {g : Nat → Bool} {σ : rS} {D N D2 N2 : Nat → Nat} {F F2 : hF} {A A2 : hA} {d c s L : Nat} {xs : Nat → Int} {Q : wQ} (X : PHI Dc g σ D N F A) (Y : RHI Dc σ D2 N2 F2 A2) (hs : SEP g D D2) (hc : SCR σ L xs) (hE : REL F A F2 A2) (hx : ∀ j, inr (xs j)) (hL : L ≤ 1000000) {i : Int} (hi : 0 ≤ i ∧ i + 6 ≤ L) {ls : rO} (l0 : rlook ls 0 = some (.ref 11)) (l1 : rlook ls 1 = some (.ref (D 0))) (l2 : rlook ls 2 = some (.ref (D2 0))) (l3 : rlook ls 3 = some (I i)) (k : ∀ (Dn : DcS) (gₚ : Nat → Bool) (σₚ : rS) (Dₚ Nₚ : Nat → Nat) (Fₚ : hF) (Aₚ : hA) (F2ₚ : hF) (A2ₚ : hA) (cₚ sₚ : Nat), PHI Dn gₚ σₚ Dₚ Nₚ Fₚ Aₚ → RHI Dn σₚ D2 N2 F2ₚ A2ₚ → SEP gₚ Dₚ D2 → SCR σₚ L xs → Dₚ 0 = D 0 → RMG g N c s gₚ Nₚ cₚ sₚ → REL Fₚ Aₚ F2ₚ A2ₚ → Ew 455 (d + 14) 1066 ls [] σₚ cₚ sₚ Q) : Ew 455 (d + 14) 756 ls [] σ c s Q := by
  refine Ew_of (pcₚ := 757) (fun _ => x_aload_n rfl l1) ?_
  refine Ew_of (pcₚ := 758) (fun _ => x_aload_n rfl l0) ?_
  refine Ew_of (pcₚ := 759) (fun _ => x_iload_n rfl l3) ?_
  refine Ew_of (pcₚ := 760) (fun _ => x_iconst rfl) ?_
  refine w_iadd rfl ?_
  refine w_scr hc rfl (by omega) (by omega) ?_
  refine w_callk rfl (fun rec => rinvv rfl rfl (X.1.obj 0 (by decide +kernel) (show g 0 = true from X.2.2.1) rfl) rec) rfl (T_history (d := d + 9) X (hx _) (fun z σ1 D1 N1 F1 A1 c1 s1 X1 S1 E1 zr px0 px1 px2 px3 px4 px5 => ⟨(rretB rfl zr), ?_⟩))
  have Y1 := CL_ref Y hs S1.1
  have hc1 := CL_scr X.1 hc S1.1
  refine Ew_of (pcₚ := 766) (fun _ => x_aload_n rfl l2) ?_
  refine Ew_of (pcₚ := 767) (fun _ => x_aload_n rfl l0) ?_
  refine Ew_of (pcₚ := 768) (fun _ => x_iload_n rfl l3) ?_
  refine Ew_of (pcₚ := 769) (fun _ => x_iconst rfl) ?_
  refine w_iadd rfl ?_
  refine w_scr hc1 rfl (by omega) (by omega) ?_
  refine w_callk rfl (fun rec => rinvv rfl rfl (Y1.1.1.obj 0 (Y1.1.1.perm 0 rfl) rfl) rec) rfl (RS_history (d := d + 12) Y1.1 (hx _) (fun z2 σ2 F3 A3 Y2 T2 e2 zr2 py0 => ⟨(rretB rfl zr2), ?_⟩))
  have X2 := RF_cls X1 Y1.1.1 Y1.2 T2
  have hc2 := RF_scr Y1.1.1 hc1 T2
  have hh := EQ_hi hE (EQD_sub (by decide) E1) (EQD_sub (by decide) e2) px0 (C4_of (P := fun L => paC F1 A1 = L) px1 px2 px3 px4) px5 py0
  obtain ⟨he, hE2⟩ := hh
  try subst he
  refine w_icmpeq (t := 1066) rfl rfl (show inr z by omega) (show inr z by omega) (fun _ => ?_) (fun q => absurd rfl q)
  exact k Dc g σ2 D1 N1 F1 A1 F3 A3 _ _ X2 Y2 Y1.2 hc2 S1.1.2.1 (RMG_of S1.1) hE2
set_option maxHeartbeats 4000000 in
theorem LC_14 {Dc : DcS} {g : Nat → Bool} {σ : rS} {D N D2 N2 : Nat → Nat} {F F2 : hF} {A A2 : hA} {d c s L : Nat} {xs : Nat → Int} {Q : wQ} (X : PHI Dc g σ D N F A) (Y : RHI Dc σ D2 N2 F2 A2) (hs : SEP g D D2) (hc : SCR σ L xs) (hE : REL F A F2 A2) (hx : ∀ j, inr (xs j)) (hL : L ≤ 1000000) {i : Int} (hi : 0 ≤ i ∧ i + 6 ≤ L) {ls : rO} (l0 : rlook ls 0 = some (.ref 11)) (l1 : rlook ls 1 = some (.ref (D 0))) (l2 : rlook ls 2 = some (.ref (D2 0))) (l3 : rlook ls 3 = some (I i)) (k : ∀ (Dn : DcS) (gₚ : Nat → Bool) (σₚ : rS) (Dₚ Nₚ : Nat → Nat) (Fₚ : hF) (Aₚ : hA) (F2ₚ : hF) (A2ₚ : hA) (cₚ sₚ : Nat), PHI Dn gₚ σₚ Dₚ Nₚ Fₚ Aₚ → RHI Dn σₚ D2 N2 F2ₚ A2ₚ → SEP gₚ Dₚ D2 → SCR σₚ L xs → Dₚ 0 = D 0 → RMG g N c s gₚ Nₚ cₚ sₚ → REL Fₚ Aₚ F2ₚ A2ₚ → Ew 455 (d + 14) 1066 ls [] σₚ cₚ sₚ Q) : Ew 455 (d + 14) 779 ls [] σ c s Q := by
  refine Ew_of (pcₚ := 780) (fun _ => x_aload_n rfl l1) ?_
  refine Ew_of (pcₚ := 781) (fun _ => x_aload_n rfl l0) ?_
  refine Ew_of (pcₚ := 782) (fun _ => x_iload_n rfl l3) ?_
  refine Ew_of (pcₚ := 783) (fun _ => x_iconst rfl) ?_
  refine w_iadd rfl ?_
  refine w_scr hc rfl (by omega) (by omega) ?_
  refine w_callk rfl (fun rec => rinvv rfl rfl (X.1.obj 0 (by decide +kernel) (show g 0 = true from X.2.2.1) rfl) rec) rfl (T_learn (d := d + 7) X (hx _) (fun z Dd g1 σ1 D1 N1 F1 A1 c1 s1 X1 S1 E1 zr px0 => ⟨rfl, ?_⟩))
  have Y1 := CL_ref Y hs S1.1
  have hc1 := CL_scr X.1 hc S1.1
  refine Ew_of (pcₚ := 789) (fun _ => x_aload_n rfl l2) ?_
  refine Ew_of (pcₚ := 790) (fun _ => x_aload_n rfl l0) ?_
  refine Ew_of (pcₚ := 791) (fun _ => x_iload_n rfl l3) ?_
  refine Ew_of (pcₚ := 792) (fun _ => x_iconst rfl) ?_
  refine w_iadd rfl ?_
  refine w_scr hc1 rfl (by omega) (by omega) ?_
  refine w_callk rfl (fun rec => rinvv rfl rfl (Y1.1.1.obj 0 (Y1.1.1.perm 0 rfl) rfl) rec) rfl (RS_learn (d := d + 8) Y1.1 (hx _) (fun z2 σ2 F3 A3 De Y2 T2 e2 zr2 py0 => ⟨rfl, ?_⟩))
  have X2 := RF_cls X1 Y1.1.1 Y1.2 T2
  have hc2 := RF_scr Y1.1.1 hc1 T2
  have hl := LNP_det hE.1 py0 px0
  have he : z = z2 := hl.1.symm
  have hdd : De = Dd := hl.2
  subst hdd
  have hE2 : REL F1 A1 F3 A3 := REL_s hE (EQD_sub (by decide) E1) (EQD_sub (by decide) e2)
  try subst he
  refine w_icmpeq (t := 1066) rfl rfl (show inr z by omega) (show inr z by omega) (fun _ => ?_) (fun q => absurd rfl q)
  exact k De g1 σ2 D1 N1 F1 A1 F3 A3 _ _ X2 Y2 Y1.2 hc2 S1.1.2.1 (RMG_of S1.1) hE2
set_option maxHeartbeats 4000000 in
theorem LC_15 {Dc : DcS} {g : Nat → Bool} {σ : rS} {D N D2 N2 : Nat → Nat} {F F2 : hF} {A A2 : hA} {d c s L : Nat} {xs : Nat → Int} {Q : wQ} (X : PHI Dc g σ D N F A) (Y : RHI Dc σ D2 N2 F2 A2) (hs : SEP g D D2) (hc : SCR σ L xs) (hE : REL F A F2 A2) (hx : ∀ j, inr (xs j)) (hL : L ≤ 1000000) {i : Int} (hi : 0 ≤ i ∧ i + 6 ≤ L) {ls : rO} (l0 : rlook ls 0 = some (.ref 11)) (l1 : rlook ls 1 = some (.ref (D 0))) (l2 : rlook ls 2 = some (.ref (D2 0))) (l3 : rlook ls 3 = some (I i)) (k : ∀ (Dn : DcS) (gₚ : Nat → Bool) (σₚ : rS) (Dₚ Nₚ : Nat → Nat) (Fₚ : hF) (Aₚ : hA) (F2ₚ : hF) (A2ₚ : hA) (cₚ sₚ : Nat), PHI Dn gₚ σₚ Dₚ Nₚ Fₚ Aₚ → RHI Dn σₚ D2 N2 F2ₚ A2ₚ → SEP gₚ Dₚ D2 → SCR σₚ L xs → Dₚ 0 = D 0 → RMG g N c s gₚ Nₚ cₚ sₚ → REL Fₚ Aₚ F2ₚ A2ₚ → Ew 455 (d + 14) 1066 ls [] σₚ cₚ sₚ Q) : Ew 455 (d + 14) 802 ls [] σ c s Q := by
  refine Ew_of (pcₚ := 803) (fun _ => x_aload_n rfl l1) ?_
  refine Ew_of (pcₚ := 804) (fun _ => x_aload_n rfl l0) ?_
  refine Ew_of (pcₚ := 805) (fun _ => x_iload_n rfl l3) ?_
  refine Ew_of (pcₚ := 806) (fun _ => x_iconst rfl) ?_
  refine w_iadd rfl ?_
  refine w_scr hc rfl (by omega) (by omega) ?_
  refine w_callk rfl (fun rec => rinvv rfl rfl (X.1.obj 0 (by decide +kernel) (show g 0 = true from X.2.2.1) rfl) rec) rfl (T_forget (d := d + 11) X (hx _) (fun z σ1 D1 N1 F1 A1 c1 s1 X1 S1 E1 zr px0 px1 => ⟨(rretB rfl zr), ?_⟩))
  have Y1 := CL_ref Y hs S1.1
  have hc1 := CL_scr X.1 hc S1.1
  refine Ew_of (pcₚ := 812) (fun _ => x_aload_n rfl l2) ?_
  refine Ew_of (pcₚ := 813) (fun _ => x_aload_n rfl l0) ?_
  refine Ew_of (pcₚ := 814) (fun _ => x_iload_n rfl l3) ?_
  refine Ew_of (pcₚ := 815) (fun _ => x_iconst rfl) ?_
  refine w_iadd rfl ?_
  refine w_scr hc1 rfl (by omega) (by omega) ?_
  refine w_callk rfl (fun rec => rinvv rfl rfl (Y1.1.1.obj 0 (Y1.1.1.perm 0 rfl) rfl) rec) rfl (RS_forget (d := d + 12) Y1.1 (hx _) (fun z2 σ2 F3 A3 Y2 T2 e2 zr2 py0 py1 => ⟨(rretB rfl zr2), ?_⟩))
  have X2 := RF_cls X1 Y1.1.1 Y1.2 T2
  have hc2 := RF_scr Y1.1.1 hc1 T2
  have hh := EQ_fo hE (EQD_sub (by decide) E1) (EQD_sub (by decide) e2) px0 px1 py0 py1
  obtain ⟨he, hE2⟩ := hh
  try subst he
  refine w_icmpeq (t := 1066) rfl rfl (show inr z by omega) (show inr z by omega) (fun _ => ?_) (fun q => absurd rfl q)
  exact k (fgD (xs ((i + 1)).toNat) Dc) g σ2 D1 N1 F1 A1 F3 A3 _ _ X2 Y2 Y1.2 hc2 S1.1.2.1 (RMG_of S1.1) hE2
set_option maxHeartbeats 4000000 in
theorem LC_16 {Dc : DcS} {g : Nat → Bool} {σ : rS} {D N D2 N2 : Nat → Nat} {F F2 : hF} {A A2 : hA} {d c s L : Nat} {xs : Nat → Int} {Q : wQ} (X : PHI Dc g σ D N F A) (Y : RHI Dc σ D2 N2 F2 A2) (hs : SEP g D D2) (hc : SCR σ L xs) (hE : REL F A F2 A2) (hx : ∀ j, inr (xs j)) (hL : L ≤ 1000000) {i : Int} (hi : 0 ≤ i ∧ i + 6 ≤ L) {ls : rO} (l0 : rlook ls 0 = some (.ref 11)) (l1 : rlook ls 1 = some (.ref (D 0))) (l2 : rlook ls 2 = some (.ref (D2 0))) (l3 : rlook ls 3 = some (I i)) (k : ∀ (Dn : DcS) (gₚ : Nat → Bool) (σₚ : rS) (Dₚ Nₚ : Nat → Nat) (Fₚ : hF) (Aₚ : hA) (F2ₚ : hF) (A2ₚ : hA) (cₚ sₚ : Nat), PHI Dn gₚ σₚ Dₚ Nₚ Fₚ Aₚ → RHI Dn σₚ D2 N2 F2ₚ A2ₚ → SEP gₚ Dₚ D2 → SCR σₚ L xs → Dₚ 0 = D 0 → RMG g N c s gₚ Nₚ cₚ sₚ → REL Fₚ Aₚ F2ₚ A2ₚ → Ew 455 (d + 14) 1066 ls [] σₚ cₚ sₚ Q) : Ew 455 (d + 14) 825 ls [] σ c s Q := by
  refine Ew_of (pcₚ := 826) (fun _ => x_aload_n rfl l1) ?_
  refine Ew_of (pcₚ := 827) (fun _ => x_aload_n rfl l0) ?_
  refine Ew_of (pcₚ := 828) (fun _ => x_iload_n rfl l3) ?_
  refine Ew_of (pcₚ := 829) (fun _ => x_iconst rfl) ?_
  refine w_iadd rfl ?_
  refine w_scr hc rfl (by omega) (by omega) ?_
  refine Ew_of (pcₚ := 832) (fun _ => x_aload_n rfl l0) ?_
  refine Ew_of (pcₚ := 833) (fun _ => x_iload_n rfl l3) ?_
  refine Ew_of (pcₚ := 834) (fun _ => x_iconst rfl) ?_
  refine w_iadd rfl ?_
  refine w_scr hc rfl (by omega) (by omega) ?_
  refine Ew_of (pcₚ := 837) (fun _ => x_aload_n rfl l0) ?_
  refine Ew_of (pcₚ := 838) (fun _ => x_iload_n rfl l3) ?_
  refine Ew_of (pcₚ := 839) (fun _ => x_iconst rfl) ?_
  refine w_iadd rfl ?_
  refine w_scr hc rfl (by omega) (by omega) ?_
  refine w_callk rfl (fun rec => rinvv rfl rfl (X.1.obj 0 (by decide +kernel) (show g 0 = true from X.2.2.1) rfl) rec) rfl (T_write (d := d + 5) (st0 := bgS (F2 6 6) (A2 49) (A2 50) (A2 51) (A2 52) (fun _ => 0)) (WSD_R Y.2.2.2.2.2.2.2.2.2.2.2.2.1 Y.2.2.2.2.2.2.2.2.2.1 Y.2.2.2.2.2.2.2.2.2.2.2.1) X (hx _) (hx _) (hx _) (fun z g1 σ1 D1 N1 F1 A1 c1 s1 X1 S1 E1 zr px0 px1 => ⟨rfl, ?_⟩))
  have Y1 := CL_ref Y hs S1.1
  have hc1 := CL_scr X.1 hc S1.1
  refine Ew_of (pcₚ := 845) (fun _ => x_aload_n rfl l2) ?_
  refine Ew_of (pcₚ := 846) (fun _ => x_aload_n rfl l0) ?_
  refine Ew_of (pcₚ := 847) (fun _ => x_iload_n rfl l3) ?_
  refine Ew_of (pcₚ := 848) (fun _ => x_iconst rfl) ?_
  refine w_iadd rfl ?_
  refine w_scr hc1 rfl (by omega) (by omega) ?_
  refine Ew_of (pcₚ := 851) (fun _ => x_aload_n rfl l0) ?_
  refine Ew_of (pcₚ := 852) (fun _ => x_iload_n rfl l3) ?_
  refine Ew_of (pcₚ := 853) (fun _ => x_iconst rfl) ?_
  refine w_iadd rfl ?_
  refine w_scr hc1 rfl (by omega) (by omega) ?_
  refine Ew_of (pcₚ := 856) (fun _ => x_aload_n rfl l0) ?_
  refine Ew_of (pcₚ := 857) (fun _ => x_iload_n rfl l3) ?_
  refine Ew_of (pcₚ := 858) (fun _ => x_iconst rfl) ?_
  refine w_iadd rfl ?_
  refine w_scr hc1 rfl (by omega) (by omega) ?_
  refine w_callk rfl (fun rec => rinvv rfl rfl (Y1.1.1.obj 0 (Y1.1.1.perm 0 rfl) rfl) rec) rfl (RS_write (d := d + 0) Y1.1 (hx _) (hx _) (hx _) (fun z2 σ2 F3 A3 Y2 T2 e2 zr2 py0 py1 => ⟨rfl, ?_⟩))
  have X2 := RF_cls X1 Y1.1.1 Y1.2 T2
  have hc2 := RF_scr Y1.1.1 hc1 T2
  have hh := EQ_wr hE (EQD_sub (by decide) E1) (EQD_sub (by decide) e2) px0 px1 py0 py1
  obtain ⟨he, hE2⟩ := hh
  try subst he
  refine w_icmpeq (t := 1066) rfl rfl (show inr z by omega) (show inr z by omega) (fun _ => ?_) (fun q => absurd rfl q)
  exact k Dc g1 σ2 D1 N1 F1 A1 F3 A3 _ _ X2 Y2 Y1.2 hc2 S1.1.2.1 (RMG_of S1.1) hE2
set_option maxHeartbeats 4000000 in
theorem LC_17 {Dc : DcS} {g : Nat → Bool} {σ : rS} {D N D2 N2 : Nat → Nat} {F F2 : hF} {A A2 : hA} {d c s L : Nat} {xs : Nat → Int} {Q : wQ} (X : PHI Dc g σ D N F A) (Y : RHI Dc σ D2 N2 F2 A2) (hs : SEP g D D2) (hc : SCR σ L xs) (hE : REL F A F2 A2) (hx : ∀ j, inr (xs j)) (hL : L ≤ 1000000) {i : Int} (hi : 0 ≤ i ∧ i + 6 ≤ L) {ls : rO} (l0 : rlook ls 0 = some (.ref 11)) (l1 : rlook ls 1 = some (.ref (D 0))) (l2 : rlook ls 2 = some (.ref (D2 0))) (l3 : rlook ls 3 = some (I i)) (k : ∀ (Dn : DcS) (gₚ : Nat → Bool) (σₚ : rS) (Dₚ Nₚ : Nat → Nat) (Fₚ : hF) (Aₚ : hA) (F2ₚ : hF) (A2ₚ : hA) (cₚ sₚ : Nat), PHI Dn gₚ σₚ Dₚ Nₚ Fₚ Aₚ → RHI Dn σₚ D2 N2 F2ₚ A2ₚ → SEP gₚ Dₚ D2 → SCR σₚ L xs → Dₚ 0 = D 0 → RMG g N c s gₚ Nₚ cₚ sₚ → REL Fₚ Aₚ F2ₚ A2ₚ → Ew 455 (d + 14) 1066 ls [] σₚ cₚ sₚ Q) : Ew 455 (d + 14) 868 ls [] σ c s Q := by
  refine Ew_of (pcₚ := 869) (fun _ => x_aload_n rfl l1) ?_
  refine Ew_of (pcₚ := 870) (fun _ => x_aload_n rfl l0) ?_
  refine Ew_of (pcₚ := 871) (fun _ => x_iload_n rfl l3) ?_
  refine Ew_of (pcₚ := 872) (fun _ => x_iconst rfl) ?_
  refine w_iadd rfl ?_
  refine w_scr hc rfl (by omega) (by omega) ?_
  refine Ew_of (pcₚ := 875) (fun _ => x_aload_n rfl l0) ?_
  refine Ew_of (pcₚ := 876) (fun _ => x_iload_n rfl l3) ?_
  refine Ew_of (pcₚ := 877) (fun _ => x_iconst rfl) ?_
  refine w_iadd rfl ?_
  refine w_scr hc rfl (by omega) (by omega) ?_
  refine Ew_of (pcₚ := 880) (fun _ => x_aload_n rfl l0) ?_
  refine Ew_of (pcₚ := 881) (fun _ => x_iload_n rfl l3) ?_
  refine Ew_of (pcₚ := 882) (fun _ => x_iconst rfl) ?_
  refine w_iadd rfl ?_
  refine w_scr hc rfl (by omega) (by omega) ?_
  refine Ew_of (pcₚ := 885) (fun _ => x_aload_n rfl l0) ?_
  refine Ew_of (pcₚ := 886) (fun _ => x_iload_n rfl l3) ?_
  refine Ew_of (pcₚ := 887) (fun _ => x_iconst rfl) ?_
  refine w_iadd rfl ?_
  refine w_scr hc rfl (by omega) (by omega) ?_
  refine w_callk rfl (fun rec => rinvv rfl rfl (X.1.obj 0 (by decide +kernel) (show g 0 = true from X.2.2.1) rfl) rec) rfl (T_read (d := d + 5) X (hx _) (hx _) (hx _) (hx _) (fun z g1 σ1 D1 N1 F1 A1 c1 s1 X1 S1 E1 zr px0 px1 => ⟨rfl, ?_⟩))
  have Y1 := CL_ref Y hs S1.1
  have hc1 := CL_scr X.1 hc S1.1
  refine Ew_of (pcₚ := 893) (fun _ => x_aload_n rfl l2) ?_
  refine Ew_of (pcₚ := 894) (fun _ => x_aload_n rfl l0) ?_
  refine Ew_of (pcₚ := 895) (fun _ => x_iload_n rfl l3) ?_
  refine Ew_of (pcₚ := 896) (fun _ => x_iconst rfl) ?_
  refine w_iadd rfl ?_
  refine w_scr hc1 rfl (by omega) (by omega) ?_
  refine Ew_of (pcₚ := 899) (fun _ => x_aload_n rfl l0) ?_
  refine Ew_of (pcₚ := 900) (fun _ => x_iload_n rfl l3) ?_
  refine Ew_of (pcₚ := 901) (fun _ => x_iconst rfl) ?_
  refine w_iadd rfl ?_
  refine w_scr hc1 rfl (by omega) (by omega) ?_
  refine Ew_of (pcₚ := 904) (fun _ => x_aload_n rfl l0) ?_
  refine Ew_of (pcₚ := 905) (fun _ => x_iload_n rfl l3) ?_
  refine Ew_of (pcₚ := 906) (fun _ => x_iconst rfl) ?_
  refine w_iadd rfl ?_
  refine w_scr hc1 rfl (by omega) (by omega) ?_
  refine Ew_of (pcₚ := 909) (fun _ => x_aload_n rfl l0) ?_
  refine Ew_of (pcₚ := 910) (fun _ => x_iload_n rfl l3) ?_
  refine Ew_of (pcₚ := 911) (fun _ => x_iconst rfl) ?_
  refine w_iadd rfl ?_
  refine w_scr hc1 rfl (by omega) (by omega) ?_
  refine w_callk rfl (fun rec => rinvv rfl rfl (Y1.1.1.obj 0 (Y1.1.1.perm 0 rfl) rfl) rec) rfl (RS_read (d := d + 1) Y1.1 (hx _) (hx _) (hx _) (hx _) (fun z2 σ2 F3 A3 Y2 T2 e2 zr2 py0 => ⟨rfl, ?_⟩))
  have X2 := RF_cls X1 Y1.1.1 Y1.2 T2
  have hc2 := RF_scr Y1.1.1 hc1 T2
  have hh := EQ_rd hE (EQD_sub (by decide) E1) (EQD_sub (by decide) e2) px0 px1 py0
  obtain ⟨he, hE2⟩ := hh
  try subst he
  refine w_icmpeq (t := 1066) rfl rfl (show inr z by omega) (show inr z by omega) (fun _ => ?_) (fun q => absurd rfl q)
  exact k Dc g1 σ2 D1 N1 F1 A1 F3 A3 _ _ X2 Y2 Y1.2 hc2 S1.1.2.1 (RMG_of S1.1) hE2
set_option maxHeartbeats 4000000 in
theorem LC_18 {Dc : DcS} {g : Nat → Bool} {σ : rS} {D N D2 N2 : Nat → Nat} {F F2 : hF} {A A2 : hA} {d c s L : Nat} {xs : Nat → Int} {Q : wQ} (X : PHI Dc g σ D N F A) (Y : RHI Dc σ D2 N2 F2 A2) (hs : SEP g D D2) (hc : SCR σ L xs) (hE : REL F A F2 A2) (hx : ∀ j, inr (xs j)) (hL : L ≤ 1000000) {i : Int} (hi : 0 ≤ i ∧ i + 6 ≤ L) {ls : rO} (l0 : rlook ls 0 = some (.ref 11)) (l1 : rlook ls 1 = some (.ref (D 0))) (l2 : rlook ls 2 = some (.ref (D2 0))) (l3 : rlook ls 3 = some (I i)) (k : ∀ (Dn : DcS) (gₚ : Nat → Bool) (σₚ : rS) (Dₚ Nₚ : Nat → Nat) (Fₚ : hF) (Aₚ : hA) (F2ₚ : hF) (A2ₚ : hA) (cₚ sₚ : Nat), PHI Dn gₚ σₚ Dₚ Nₚ Fₚ Aₚ → RHI Dn σₚ D2 N2 F2ₚ A2ₚ → SEP gₚ Dₚ D2 → SCR σₚ L xs → Dₚ 0 = D 0 → RMG g N c s gₚ Nₚ cₚ sₚ → REL Fₚ Aₚ F2ₚ A2ₚ → Ew 455 (d + 14) 1066 ls [] σₚ cₚ sₚ Q) : Ew 455 (d + 14) 921 ls [] σ c s Q := by
  refine Ew_of (pcₚ := 922) (fun _ => x_aload_n rfl l1) ?_
  refine Ew_of (pcₚ := 923) (fun _ => x_aload_n rfl l0) ?_
  refine Ew_of (pcₚ := 924) (fun _ => x_iload_n rfl l3) ?_
  refine Ew_of (pcₚ := 925) (fun _ => x_iconst rfl) ?_
  refine w_iadd rfl ?_
  refine w_scr hc rfl (by omega) (by omega) ?_
  refine w_callk rfl (fun rec => rinvv rfl rfl (X.1.obj 0 (by decide +kernel) (show g 0 = true from X.2.2.1) rfl) rec) rfl (T_kind (d := d + 10) X (hx _) (fun z σ1 D1 N1 F1 A1 c1 s1 X1 S1 E1 zr px0 px1 px2 px3 px4 => ⟨rfl, ?_⟩))
  have Y1 := CL_ref Y hs S1.1
  have hc1 := CL_scr X.1 hc S1.1
  refine Ew_of (pcₚ := 931) (fun _ => x_aload_n rfl l2) ?_
  refine Ew_of (pcₚ := 932) (fun _ => x_aload_n rfl l0) ?_
  refine Ew_of (pcₚ := 933) (fun _ => x_iload_n rfl l3) ?_
  refine Ew_of (pcₚ := 934) (fun _ => x_iconst rfl) ?_
  refine w_iadd rfl ?_
  refine w_scr hc1 rfl (by omega) (by omega) ?_
  refine w_callk rfl (fun rec => rinvv rfl rfl (Y1.1.1.obj 0 (Y1.1.1.perm 0 rfl) rfl) rec) rfl (RS_kind (d := d + 12) Y1.1 (hx _) (fun z2 σ2 F3 A3 Y2 T2 e2 zr2 py0 py1 => ⟨rfl, ?_⟩))
  have X2 := RF_cls X1 Y1.1.1 Y1.2 T2
  have hc2 := RF_scr Y1.1.1 hc1 T2
  have he : z = z2 := Q_fun (f := knF) hE.1 px0 (C4_of (P := fun L => z = (knF) L) px1 px2 px3 px4) py1
  have hE2 : REL F1 A1 F3 A3 := REL_s hE (EQD_sub (by decide) E1) (EQD_sub (by decide) e2)
  try subst he
  refine w_icmpeq (t := 1066) rfl rfl (show inr z by omega) (show inr z by omega) (fun _ => ?_) (fun q => absurd rfl q)
  exact k Dc g σ2 D1 N1 F1 A1 F3 A3 _ _ X2 Y2 Y1.2 hc2 S1.1.2.1 (RMG_of S1.1) hE2
set_option maxHeartbeats 4000000 in
theorem LC_19 {Dc : DcS} {g : Nat → Bool} {σ : rS} {D N D2 N2 : Nat → Nat} {F F2 : hF} {A A2 : hA} {d c s L : Nat} {xs : Nat → Int} {Q : wQ} (X : PHI Dc g σ D N F A) (Y : RHI Dc σ D2 N2 F2 A2) (hs : SEP g D D2) (hc : SCR σ L xs) (hE : REL F A F2 A2) (hx : ∀ j, inr (xs j)) (hL : L ≤ 1000000) {i : Int} (hi : 0 ≤ i ∧ i + 6 ≤ L) {ls : rO} (l0 : rlook ls 0 = some (.ref 11)) (l1 : rlook ls 1 = some (.ref (D 0))) (l2 : rlook ls 2 = some (.ref (D2 0))) (l3 : rlook ls 3 = some (I i)) (k : ∀ (Dn : DcS) (gₚ : Nat → Bool) (σₚ : rS) (Dₚ Nₚ : Nat → Nat) (Fₚ : hF) (Aₚ : hA) (F2ₚ : hF) (A2ₚ : hA) (cₚ sₚ : Nat), PHI Dn gₚ σₚ Dₚ Nₚ Fₚ Aₚ → RHI Dn σₚ D2 N2 F2ₚ A2ₚ → SEP gₚ Dₚ D2 → SCR σₚ L xs → Dₚ 0 = D 0 → RMG g N c s gₚ Nₚ cₚ sₚ → REL Fₚ Aₚ F2ₚ A2ₚ → Ew 455 (d + 14) 1066 ls [] σₚ cₚ sₚ Q) : Ew 455 (d + 14) 944 ls [] σ c s Q := by
  refine Ew_of (pcₚ := 945) (fun _ => x_aload_n rfl l1) ?_
  refine Ew_of (pcₚ := 946) (fun _ => x_aload_n rfl l0) ?_
  refine Ew_of (pcₚ := 947) (fun _ => x_iload_n rfl l3) ?_
  refine Ew_of (pcₚ := 948) (fun _ => x_iconst rfl) ?_
  refine w_iadd rfl ?_
  refine w_scr hc rfl (by omega) (by omega) ?_
  refine Ew_of (pcₚ := 951) (fun _ => x_aload_n rfl l0) ?_
  refine Ew_of (pcₚ := 952) (fun _ => x_iload_n rfl l3) ?_
  refine Ew_of (pcₚ := 953) (fun _ => x_iconst rfl) ?_
  refine w_iadd rfl ?_
  refine w_scr hc rfl (by omega) (by omega) ?_
  refine Ew_of (pcₚ := 956) (fun _ => x_aload_n rfl l0) ?_
  refine Ew_of (pcₚ := 957) (fun _ => x_iload_n rfl l3) ?_
  refine Ew_of (pcₚ := 958) (fun _ => x_iconst rfl) ?_
  refine w_iadd rfl ?_
  refine w_scr hc rfl (by omega) (by omega) ?_
  refine w_callk rfl (fun rec => rinvv rfl rfl (X.1.obj 0 (by decide +kernel) (show g 0 = true from X.2.2.1) rfl) rec) rfl (T_open (d := d + 5) X (hx _) (hx _) (hx _) (fun z g1 σ1 D1 N1 F1 A1 c1 s1 X1 S1 E1 zr px0 px1 => ⟨rfl, ?_⟩))
  have Y1 := CL_ref Y hs S1.1
  have hc1 := CL_scr X.1 hc S1.1
  refine Ew_of (pcₚ := 964) (fun _ => x_aload_n rfl l2) ?_
  refine Ew_of (pcₚ := 965) (fun _ => x_aload_n rfl l0) ?_
  refine Ew_of (pcₚ := 966) (fun _ => x_iload_n rfl l3) ?_
  refine Ew_of (pcₚ := 967) (fun _ => x_iconst rfl) ?_
  refine w_iadd rfl ?_
  refine w_scr hc1 rfl (by omega) (by omega) ?_
  refine Ew_of (pcₚ := 970) (fun _ => x_aload_n rfl l0) ?_
  refine Ew_of (pcₚ := 971) (fun _ => x_iload_n rfl l3) ?_
  refine Ew_of (pcₚ := 972) (fun _ => x_iconst rfl) ?_
  refine w_iadd rfl ?_
  refine w_scr hc1 rfl (by omega) (by omega) ?_
  refine Ew_of (pcₚ := 975) (fun _ => x_aload_n rfl l0) ?_
  refine Ew_of (pcₚ := 976) (fun _ => x_iload_n rfl l3) ?_
  refine Ew_of (pcₚ := 977) (fun _ => x_iconst rfl) ?_
  refine w_iadd rfl ?_
  refine w_scr hc1 rfl (by omega) (by omega) ?_
  refine w_callk rfl (fun rec => rinvv rfl rfl (Y1.1.1.obj 0 (Y1.1.1.perm 0 rfl) rfl) rec) rfl (RS_open (d := d + 0) Y1.1 (hx _) (hx _) (hx _) (fun z2 σ2 F3 A3 Y2 T2 e2 zr2 py0 => ⟨rfl, ?_⟩))
  have X2 := RF_cls X1 Y1.1.1 Y1.2 T2
  have hc2 := RF_scr Y1.1.1 hc1 T2
  have hh := EQ_op hE (EQD_sub (by decide) E1) (EQD_sub (by decide) e2) px0 px1 py0
  obtain ⟨he, hE2⟩ := hh
  try subst he
  refine w_icmpeq (t := 1066) rfl rfl (show inr z by omega) (show inr z by omega) (fun _ => ?_) (fun q => absurd rfl q)
  exact k Dc g1 σ2 D1 N1 F1 A1 F3 A3 _ _ X2 Y2 Y1.2 hc2 S1.1.2.1 (RMG_of S1.1) hE2
set_option maxHeartbeats 4000000 in
theorem LC_20 {Dc : DcS} {g : Nat → Bool} {σ : rS} {D N D2 N2 : Nat → Nat} {F F2 : hF} {A A2 : hA} {d c s L : Nat} {xs : Nat → Int} {Q : wQ} (X : PHI Dc g σ D N F A) (Y : RHI Dc σ D2 N2 F2 A2) (hs : SEP g D D2) (hc : SCR σ L xs) (hE : REL F A F2 A2) (hx : ∀ j, inr (xs j)) (hL : L ≤ 1000000) {i : Int} (hi : 0 ≤ i ∧ i + 6 ≤ L) {ls : rO} (l0 : rlook ls 0 = some (.ref 11)) (l1 : rlook ls 1 = some (.ref (D 0))) (l2 : rlook ls 2 = some (.ref (D2 0))) (l3 : rlook ls 3 = some (I i)) (k : ∀ (Dn : DcS) (gₚ : Nat → Bool) (σₚ : rS) (Dₚ Nₚ : Nat → Nat) (Fₚ : hF) (Aₚ : hA) (F2ₚ : hF) (A2ₚ : hA) (cₚ sₚ : Nat), PHI Dn gₚ σₚ Dₚ Nₚ Fₚ Aₚ → RHI Dn σₚ D2 N2 F2ₚ A2ₚ → SEP gₚ Dₚ D2 → SCR σₚ L xs → Dₚ 0 = D 0 → RMG g N c s gₚ Nₚ cₚ sₚ → REL Fₚ Aₚ F2ₚ A2ₚ → Ew 455 (d + 14) 1066 ls [] σₚ cₚ sₚ Q) : Ew 455 (d + 14) 987 ls [] σ c s Q := by
  refine Ew_of (pcₚ := 988) (fun _ => x_aload_n rfl l1) ?_
  refine Ew_of (pcₚ := 989) (fun _ => x_aload_n rfl l0) ?_
  refine Ew_of (pcₚ := 990) (fun _ => x_iload_n rfl l3) ?_
  refine Ew_of (pcₚ := 991) (fun _ => x_iconst rfl) ?_
  refine w_iadd rfl ?_
  refine w_scr hc rfl (by omega) (by omega) ?_
  refine Ew_of (pcₚ := 994) (fun _ => x_aload_n rfl l0) ?_
  refine Ew_of (pcₚ := 995) (fun _ => x_iload_n rfl l3) ?_
  refine Ew_of (pcₚ := 996) (fun _ => x_iconst rfl) ?_
  refine w_iadd rfl ?_
  refine w_scr hc rfl (by omega) (by omega) ?_
  refine w_callk rfl (fun rec => rinvv rfl rfl (X.1.obj 0 (by decide +kernel) (show g 0 = true from X.2.2.1) rfl) rec) rfl (T_bound (d := d + 10) X (hx _) (hx _) (fun z σ1 D1 N1 F1 A1 c1 s1 X1 S1 E1 zr px0 => ⟨rfl, ?_⟩))
  have Y1 := CL_ref Y hs S1.1
  have hc1 := CL_scr X.1 hc S1.1
  refine Ew_of (pcₚ := 1002) (fun _ => x_aload_n rfl l2) ?_
  refine Ew_of (pcₚ := 1003) (fun _ => x_aload_n rfl l0) ?_
  refine Ew_of (pcₚ := 1004) (fun _ => x_iload_n rfl l3) ?_
  refine Ew_of (pcₚ := 1005) (fun _ => x_iconst rfl) ?_
  refine w_iadd rfl ?_
  refine w_scr hc1 rfl (by omega) (by omega) ?_
  refine Ew_of (pcₚ := 1008) (fun _ => x_aload_n rfl l0) ?_
  refine Ew_of (pcₚ := 1009) (fun _ => x_iload_n rfl l3) ?_
  refine Ew_of (pcₚ := 1010) (fun _ => x_iconst rfl) ?_
  refine w_iadd rfl ?_
  refine w_scr hc1 rfl (by omega) (by omega) ?_
  refine w_callk rfl (fun rec => rinvv rfl rfl (Y1.1.1.obj 0 (Y1.1.1.perm 0 rfl) rfl) rec) rfl (RS_bound (d := d + 12) Y1.1 (hx _) (hx _) (fun z2 σ2 F3 A3 Y2 T2 e2 zr2 py0 => ⟨rfl, ?_⟩))
  have X2 := RF_cls X1 Y1.1.1 Y1.2 T2
  have hc2 := RF_scr Y1.1.1 hc1 T2
  have he : z = z2 := by rw [px0, py0]; exact BND_eq hE.2.2.2.2.2.2.2 _ _
  have hE2 : REL F1 A1 F3 A3 := REL_s hE (EQD_sub (by decide) E1) (EQD_sub (by decide) e2)
  try subst he
  refine w_icmpeq (t := 1066) rfl rfl (show inr z by omega) (show inr z by omega) (fun _ => ?_) (fun q => absurd rfl q)
  exact k Dc g σ2 D1 N1 F1 A1 F3 A3 _ _ X2 Y2 Y1.2 hc2 S1.1.2.1 (RMG_of S1.1) hE2
set_option maxHeartbeats 4000000 in
theorem LC_21 {Dc : DcS} {g : Nat → Bool} {σ : rS} {D N D2 N2 : Nat → Nat} {F F2 : hF} {A A2 : hA} {d c s L : Nat} {xs : Nat → Int} {Q : wQ} (X : PHI Dc g σ D N F A) (Y : RHI Dc σ D2 N2 F2 A2) (hs : SEP g D D2) (hc : SCR σ L xs) (hE : REL F A F2 A2) (hx : ∀ j, inr (xs j)) (hL : L ≤ 1000000) {i : Int} (hi : 0 ≤ i ∧ i + 6 ≤ L) {ls : rO} (l0 : rlook ls 0 = some (.ref 11)) (l1 : rlook ls 1 = some (.ref (D 0))) (l2 : rlook ls 2 = some (.ref (D2 0))) (l3 : rlook ls 3 = some (I i)) (k : ∀ (Dn : DcS) (gₚ : Nat → Bool) (σₚ : rS) (Dₚ Nₚ : Nat → Nat) (Fₚ : hF) (Aₚ : hA) (F2ₚ : hF) (A2ₚ : hA) (cₚ sₚ : Nat), PHI Dn gₚ σₚ Dₚ Nₚ Fₚ Aₚ → RHI Dn σₚ D2 N2 F2ₚ A2ₚ → SEP gₚ Dₚ D2 → SCR σₚ L xs → Dₚ 0 = D 0 → RMG g N c s gₚ Nₚ cₚ sₚ → REL Fₚ Aₚ F2ₚ A2ₚ → Ew 455 (d + 14) 1066 ls [] σₚ cₚ sₚ Q) : Ew 455 (d + 14) 1020 ls [] σ c s Q := by
  refine Ew_of (pcₚ := 1021) (fun _ => x_aload_n rfl l1) ?_
  refine Ew_of (pcₚ := 1022) (fun _ => x_aload_n rfl l0) ?_
  refine Ew_of (pcₚ := 1023) (fun _ => x_iload_n rfl l3) ?_
  refine Ew_of (pcₚ := 1024) (fun _ => x_iconst rfl) ?_
  refine w_iadd rfl ?_
  refine w_scr hc rfl (by omega) (by omega) ?_
  refine w_callk rfl (fun rec => rinvv rfl rfl (X.1.obj 0 (by decide +kernel) (show g 0 = true from X.2.2.1) rfl) rec) rfl (T_about (d := d + 13) X (hx _) (fun z σ1 D1 N1 F1 A1 c1 s1 X1 S1 E1 zr px0 => ⟨rfl, ?_⟩))
  have Y1 := CL_ref Y hs S1.1
  have hc1 := CL_scr X.1 hc S1.1
  refine Ew_of (pcₚ := 1030) (fun _ => x_aload_n rfl l2) ?_
  refine Ew_of (pcₚ := 1031) (fun _ => x_aload_n rfl l0) ?_
  refine Ew_of (pcₚ := 1032) (fun _ => x_iload_n rfl l3) ?_
  refine Ew_of (pcₚ := 1033) (fun _ => x_iconst rfl) ?_
  refine w_iadd rfl ?_
  refine w_scr hc1 rfl (by omega) (by omega) ?_
  refine w_callk rfl (fun rec => rinvv rfl rfl (Y1.1.1.obj 0 (Y1.1.1.perm 0 rfl) rfl) rec) rfl (RS_about (d := d + 12) Y1.1 (hx _) (fun z2 σ2 F3 A3 Y2 T2 e2 zr2 py0 => ⟨rfl, ?_⟩))
  have X2 := RF_cls X1 Y1.1.1 Y1.2 T2
  have hc2 := RF_scr Y1.1.1 hc1 T2
  have hk0 : DCK Dc (sc (A 15) 0 (F 14 1)) (F 13 2) (A 18) := by have w := X.2.2.2.2.2.2.2.1; unfold INV0 at w; exact w.2.2.2.2.2.2.2.2.2.2.2.2.2.2.2.2.2.2.2.2.2.1
  have he : z = z2 := EQ_ab hE hk0 Y.2.2.2.2.2.2.2.2.2.1 (by have w := X.2.2.2.2.2.2.2.1; unfold INV0 at w; have w := w.2.2.2.2.1; omega) (Y.1.frng 3 2).1 (by have w := X.2.2.2.2.2.2.2.1; unfold INV0 at w; have w := w.2.2.2.2.2.2.2.1; omega) (Y.1.frng 5 2).1 (X.1.krg 13 2 (by decide +kernel) (show g 0 = true from X.2.2.1)) (Y.1.frng 5 3) px0 py0
  have hE2 : REL F1 A1 F3 A3 := REL_s hE (EQD_sub (by decide) E1) (EQD_sub (by decide) e2)
  try subst he
  refine w_icmpeq (t := 1066) rfl rfl (show inr z by omega) (show inr z by omega) (fun _ => ?_) (fun q => absurd rfl q)
  exact k Dc g σ2 D1 N1 F1 A1 F3 A3 _ _ X2 Y2 Y1.2 hc2 S1.1.2.1 (RMG_of S1.1) hE2
set_option maxHeartbeats 4000000 in
theorem LC_22 {Dc : DcS} {g : Nat → Bool} {σ : rS} {D N D2 N2 : Nat → Nat} {F F2 : hF} {A A2 : hA} {d c s L : Nat} {xs : Nat → Int} {Q : wQ} (X : PHI Dc g σ D N F A) (Y : RHI Dc σ D2 N2 F2 A2) (hs : SEP g D D2) (hc : SCR σ L xs) (hE : REL F A F2 A2) (hx : ∀ j, inr (xs j)) (hL : L ≤ 1000000) {i : Int} (hi : 0 ≤ i ∧ i + 6 ≤ L) {ls : rO} (l0 : rlook ls 0 = some (.ref 11)) (l1 : rlook ls 1 = some (.ref (D 0))) (l2 : rlook ls 2 = some (.ref (D2 0))) (l3 : rlook ls 3 = some (I i)) (k : ∀ (Dn : DcS) (gₚ : Nat → Bool) (σₚ : rS) (Dₚ Nₚ : Nat → Nat) (Fₚ : hF) (Aₚ : hA) (F2ₚ : hF) (A2ₚ : hA) (cₚ sₚ : Nat), PHI Dn gₚ σₚ Dₚ Nₚ Fₚ Aₚ → RHI Dn σₚ D2 N2 F2ₚ A2ₚ → SEP gₚ Dₚ D2 → SCR σₚ L xs → Dₚ 0 = D 0 → RMG g N c s gₚ Nₚ cₚ sₚ → REL Fₚ Aₚ F2ₚ A2ₚ → Ew 455 (d + 14) 1066 ls [] σₚ cₚ sₚ Q) : Ew 455 (d + 14) 1043 ls [] σ c s Q := by
  refine Ew_of (pcₚ := 1044) (fun _ => x_aload_n rfl l1) ?_
  refine Ew_of (pcₚ := 1045) (fun _ => x_aload_n rfl l0) ?_
  refine Ew_of (pcₚ := 1046) (fun _ => x_iload_n rfl l3) ?_
  refine Ew_of (pcₚ := 1047) (fun _ => x_iconst rfl) ?_
  refine w_iadd rfl ?_
  refine w_scr hc rfl (by omega) (by omega) ?_
  refine w_callk rfl (fun rec => rinvv rfl rfl (X.1.obj 0 (by decide +kernel) (show g 0 = true from X.2.2.1) rfl) rec) rfl (T_strayed (d := d + 13) X (hx _) (fun z σ1 D1 N1 F1 A1 c1 s1 X1 S1 E1 zr px0 => ⟨rfl, ?_⟩))
  have Y1 := CL_ref Y hs S1.1
  have hc1 := CL_scr X.1 hc S1.1
  refine Ew_of (pcₚ := 1053) (fun _ => x_aload_n rfl l2) ?_
  refine Ew_of (pcₚ := 1054) (fun _ => x_aload_n rfl l0) ?_
  refine Ew_of (pcₚ := 1055) (fun _ => x_iload_n rfl l3) ?_
  refine Ew_of (pcₚ := 1056) (fun _ => x_iconst rfl) ?_
  refine w_iadd rfl ?_
  refine w_scr hc1 rfl (by omega) (by omega) ?_
  refine w_callk rfl (fun rec => rinvv rfl rfl (Y1.1.1.obj 0 (Y1.1.1.perm 0 rfl) rfl) rec) rfl (RS_strayed (d := d + 13) Y1.1 (hx _) (fun z2 σ2 F3 A3 Y2 T2 e2 zr2 py0 => ⟨rfl, ?_⟩))
  have X2 := RF_cls X1 Y1.1.1 Y1.2 T2
  have hc2 := RF_scr Y1.1.1 hc1 T2
  have r6 := hE.2.2.2.2.2.1
  have r7 := hE.2.2.2.2.2.2.1
  have he : z = z2 := by omega
  have hE2 : REL F1 A1 F3 A3 := REL_s hE (EQD_sub (by decide) E1) (EQD_sub (by decide) e2)
  try subst he
  refine w_icmpeq (t := 1066) rfl rfl (show inr z by omega) (show inr z by omega) (fun _ => ?_) (fun q => absurd rfl q)
  exact k Dc g σ2 D1 N1 F1 A1 F3 A3 _ _ X2 Y2 Y1.2 hc2 S1.1.2.1 (RMG_of S1.1) hE2


end
section
/-! Y4.loop -/
theorem law_loop {d L CB SB : Nat} {xs : Nat → Int} {Q : wQ} {D2 N2 : Nat → Nat} (hx : ∀ j, inr (xs j)) (hL : L ≤ 3072) (hQ : ∀ (Dc : DcS) (g : Nat → Bool) (σ : rS) (D N : Nat → Nat) (F : hF) (A : hA) (c s : Nat), PHI Dc g σ D N F A → (c : Int) ≤ CB + PCg g N → (s : Int) ≤ SB + PSg g N → Q (some (I 1)) σ c s) : ∀ (n : Nat) {Dc : DcS} {g : Nat → Bool} {σ : rS} {D N : Nat → Nat} {F F2 : hF} {A A2 : hA} {c s : Nat} (X : PHI Dc g σ D N F A) (Y : RHI Dc σ D2 N2 F2 A2) (hs : SEP g D D2) (hc : SCR σ L xs) (hE : REL F A F2 A2) {i : Int} (hi : 0 ≤ i ∧ i ≤ 4000) (hn : (L : Int) - i < n) {ls : rO} (l0 : rlook ls 0 = some (.ref 11)) (l1 : rlook ls 1 = some (.ref (D 0))) (l2 : rlook ls 2 = some (.ref (D2 0))) (l3 : rlook ls 3 = some (I i)) (r1 : (c : Int) ≤ CB + PCg g N) (r2 : (s : Int) ≤ SB + PSg g N), Ew 455 (d + 14) 18 ls [] σ c s Q := by
  intro n
  induction n with
  | zero =>
    intro Dc g σ D N F F2 A A2 c s X Y hs hc hE i hi hn ls l0 l1 l2 l3 r1 r2
    refine Ew_of (pcₚ := 19) (fun _ => x_iload_n rfl l3) ?_
    refine Ew_of (pcₚ := 20) (fun _ => x_aload_n rfl l0) ?_
    refine w_slen hc rfl (by omega) ?_
    refine Ew_of (pcₚ := 23) (fun _ => x_bipush rfl (z := 6) (by decide)) ?_
    refine w_isub rfl ?_
    refine w_icmpgt (t := 1072) rfl rfl (show inr i by omega) (show inr ((L : Int) - 6) by omega) (fun b => ?_) (fun b => ?_)
    · refine Ew_of (pcₚ := 1073) (fun _ => x_iconst rfl) ?_
      exact w_ireturn rfl (hQ Dc g σ D N F A c s X r1 r2)
    · exfalso
      omega
  | succ n ih =>
    intro Dc g σ D N F F2 A A2 c s X Y hs hc hE i hi hn ls l0 l1 l2 l3 r1 r2
    refine Ew_of (pcₚ := 19) (fun _ => x_iload_n rfl l3) ?_
    refine Ew_of (pcₚ := 20) (fun _ => x_aload_n rfl l0) ?_
    refine w_slen hc rfl (by omega) ?_
    refine Ew_of (pcₚ := 23) (fun _ => x_bipush rfl (z := 6) (by decide)) ?_
    refine w_isub rfl ?_
    refine w_icmpgt (t := 1072) rfl rfl (show inr i by omega) (show inr ((L : Int) - 6) by omega) (fun b => ?_) (fun b => ?_)
    · refine Ew_of (pcₚ := 1073) (fun _ => x_iconst rfl) ?_
      exact w_ireturn rfl (hQ Dc g σ D N F A c s X r1 r2)
    · have go : ∀ (Dn : DcS) (gₚ : Nat → Bool) (σₚ : rS) (Dₚ Nₚ : Nat → Nat) (Fₚ : hF) (Aₚ : hA) (F2ₚ : hF) (A2ₚ : hA) (cₚ sₚ : Nat), PHI Dn gₚ σₚ Dₚ Nₚ Fₚ Aₚ → RHI Dn σₚ D2 N2 F2ₚ A2ₚ → SEP gₚ Dₚ D2 → SCR σₚ L xs → Dₚ 0 = D 0 → RMG g N c s gₚ Nₚ cₚ sₚ → REL Fₚ Aₚ F2ₚ A2ₚ → Ew 455 (d + 14) 1066 ls [] σₚ cₚ sₚ Q := by
        intro Dn gₚ σₚ Dₚ Nₚ Fₚ Aₚ F2ₚ A2ₚ cₚ sₚ X' Y' hs' hc' d0 rm hE'
        obtain ⟨m1, m2⟩ := rm
        refine Ew_of (pcₚ := 1069) (fun _ => x_iinc (m := 6) (len := 3) rfl l3) ?_
        refine Ew_of (pcₚ := 18) (fun _ => x_goto rfl rfl) ?_
        exact ih X' Y' hs' hc' hE' (by omega) (by omega) (rk_o l0 rfl rfl) (by rw [d0]; exact rk_o l1 rfl rfl) (rk_o l2 rfl rfl) rk_s (by omega) (by omega)
      refine Ew_of (pcₚ := 28) (fun _ => x_aload_n rfl l0) ?_
      refine Ew_of (pcₚ := 29) (fun _ => x_iload_n rfl l3) ?_
      refine w_scr hc rfl (by omega) (by omega) ?_
      refine Ew_of (pcₚ := 32) (fun _ => x_bipush rfl (z := 31) (by decide)) ?_
      refine w_iand rfl (hx _) (show inr 31 by omega) (fun z hz _ hb => ?_)
      rcases (show z = 0 ∨ z = 1 ∨ z = 2 ∨ z = 3 ∨ z = 4 ∨ z = 5 ∨ z = 6 ∨ z = 7 ∨ z = 8 ∨ z = 9 ∨ z = 10 ∨ z = 11 ∨ z = 12 ∨ z = 13 ∨ z = 14 ∨ z = 15 ∨ z = 16 ∨ z = 17 ∨ z = 18 ∨ z = 19 ∨ z = 20 ∨ z = 21 ∨ z = 22 ∨ 22 < z by have := hb (by omega); omega) with rfl | rfl | rfl | rfl | rfl | rfl | rfl | rfl | rfl | rfl | rfl | rfl | rfl | rfl | rfl | rfl | rfl | rfl | rfl | rfl | rfl | rfl | rfl | hd
      · refine w_tsk 0 140 rfl hz (by omega) (by decide) rfl rfl ?_
        exact LC_0 (d := d) X Y hs hc hE hx (by omega) ⟨by omega, by omega⟩ l0 l1 l2 l3 go
      · refine w_tsk 1 203 rfl hz (by omega) (by decide) rfl rfl ?_
        exact LC_1 (d := d) X Y hs hc hE hx (by omega) ⟨by omega, by omega⟩ l0 l1 l2 l3 go
      · refine w_tsk 2 276 rfl hz (by omega) (by decide) rfl rfl ?_
        exact LC_2 (d := d) X Y hs hc hE hx (by omega) ⟨by omega, by omega⟩ l0 l1 l2 l3 go
      · refine w_tsk 3 319 rfl hz (by omega) (by decide) rfl rfl ?_
        exact LC_3 (d := d) X Y hs hc hE hx (by omega) ⟨by omega, by omega⟩ l0 l1 l2 l3 go
      · refine w_tsk 4 352 rfl hz (by omega) (by decide) rfl rfl ?_
        exact LC_4 (d := d) X Y hs hc hE hx (by omega) ⟨by omega, by omega⟩ l0 l1 l2 l3 go
      · refine w_tsk 5 405 rfl hz (by omega) (by decide) rfl rfl ?_
        exact LC_5 (d := d) X Y hs hc hE hx (by omega) ⟨by omega, by omega⟩ l0 l1 l2 l3 go
      · refine w_tsk 6 428 rfl hz (by omega) (by decide) rfl rfl ?_
        exact LC_6 (d := d) X Y hs hc hE hx (by omega) ⟨by omega, by omega⟩ l0 l1 l2 l3 go
      · refine w_tsk 7 461 rfl hz (by omega) (by decide) rfl rfl ?_
        exact LC_7 (d := d) X Y hs hc hE hx (by omega) ⟨by omega, by omega⟩ l0 l1 l2 l3 go
      · refine w_tsk 8 494 rfl hz (by omega) (by decide) rfl rfl ?_
        exact LC_8 (d := d) X Y hs hc hE hx (by omega) ⟨by omega, by omega⟩ l0 l1 l2 l3 go
      · refine w_tsk 9 527 rfl hz (by omega) (by decide) rfl rfl ?_
        exact LC_9 (d := d) X Y hs hc hE hx (by omega) ⟨by omega, by omega⟩ l0 l1 l2 l3 go
      · refine w_tsk 10 550 rfl hz (by omega) (by decide) rfl rfl ?_
        exact LC_10 (d := d) X Y hs hc hE hx (by omega) ⟨by omega, by omega⟩ l0 l1 l2 l3 go
      · refine w_tsk 11 603 rfl hz (by omega) (by decide) rfl rfl ?_
        exact LC_11 (d := d) X Y hs hc hE hx (by omega) ⟨by omega, by omega⟩ l0 l1 l2 l3 go
      · refine w_tsk 12 687 rfl hz (by omega) (by decide) rfl rfl ?_
        exact LC_12 (d := d) X Y hs hc hE hx (by omega) ⟨by omega, by omega⟩ l0 l1 l2 l3 go
      · refine w_tsk 13 756 rfl hz (by omega) (by decide) rfl rfl ?_
        exact LC_13 (d := d) X Y hs hc hE hx (by omega) ⟨by omega, by omega⟩ l0 l1 l2 l3 go
      · refine w_tsk 14 779 rfl hz (by omega) (by decide) rfl rfl ?_
        exact LC_14 (d := d) X Y hs hc hE hx (by omega) ⟨by omega, by omega⟩ l0 l1 l2 l3 go
      · refine w_tsk 15 802 rfl hz (by omega) (by decide) rfl rfl ?_
        exact LC_15 (d := d) X Y hs hc hE hx (by omega) ⟨by omega, by omega⟩ l0 l1 l2 l3 go
      · refine w_tsk 16 825 rfl hz (by omega) (by decide) rfl rfl ?_
        exact LC_16 (d := d) X Y hs hc hE hx (by omega) ⟨by omega, by omega⟩ l0 l1 l2 l3 go
      · refine w_tsk 17 868 rfl hz (by omega) (by decide) rfl rfl ?_
        exact LC_17 (d := d) X Y hs hc hE hx (by omega) ⟨by omega, by omega⟩ l0 l1 l2 l3 go
      · refine w_tsk 18 921 rfl hz (by omega) (by decide) rfl rfl ?_
        exact LC_18 (d := d) X Y hs hc hE hx (by omega) ⟨by omega, by omega⟩ l0 l1 l2 l3 go
      · refine w_tsk 19 944 rfl hz (by omega) (by decide) rfl rfl ?_
        exact LC_19 (d := d) X Y hs hc hE hx (by omega) ⟨by omega, by omega⟩ l0 l1 l2 l3 go
      · refine w_tsk 20 987 rfl hz (by omega) (by decide) rfl rfl ?_
        exact LC_20 (d := d) X Y hs hc hE hx (by omega) ⟨by omega, by omega⟩ l0 l1 l2 l3 go
      · refine w_tsk 21 1020 rfl hz (by omega) (by decide) rfl rfl ?_
        exact LC_21 (d := d) X Y hs hc hE hx (by omega) ⟨by omega, by omega⟩ l0 l1 l2 l3 go
      · refine w_tsk 22 1043 rfl hz (by omega) (by decide) rfl rfl ?_
        exact LC_22 (d := d) X Y hs hc hE hx (by omega) ⟨by omega, by omega⟩ l0 l1 l2 l3 go
      · refine w_tsd 1066 rfl hz (by omega) rfl ?_
        exact go Dc g σ D N F A F2 A2 c s X Y hs hc rfl ⟨Int.le_refl _, Int.le_refl _⟩ hE


end
