/-! learn over the state: two dictionaries that change places -/
def swl : List Nat := [0, 1, 2, 3, 4, 5, 6, 7, 8, 9, 10, 11, 12, 19, 20, 21, 22, 23, 24, 13, 14, 15, 16, 17, 18, 25, 26, 27, 28, 29, 30, 31, 32, 33, 34, 35, 36, 37, 38, 39, 40, 41, 42, 43, 44, 45, 46, 47, 48, 49, 50, 51, 52, 53, 54, 55, 56, 57, 58, 59, 60, 61, 62, 63, 64, 65, 66, 67, 68, 69, 70, 71, 72, 73, 74, 75, 76, 77, 78, 79, 80, 81, 82, 83, 84, 85, 86, 87, 88, 89, 90, 91, 92, 93, 94, 95, 96, 97, 98, 99, 100, 101, 102, 103, 104, 105, 106, 107, 108, 109, 110, 111, 112, 113, 114, 115, 116, 117, 118, 119, 120, 121, 122, 123, 124, 125, 126, 127, 128, 129, 130, 131, 132, 133, 134, 135, 136, 137, 138, 139, 140, 141, 142, 143, 144, 145, 146, 147, 148, 149, 150, 151, 152, 153, 154, 155, 156, 157, 158, 159, 160, 161, 162, 163, 164, 165, 166, 167, 168, 169, 170, 171, 172, 173, 174, 175, 176, 177, 178, 179, 180, 181, 182, 183, 184, 185, 186, 187, 188, 189, 190, 191, 192, 193, 194, 195, 196, 197, 198, 199, 200, 201, 202, 203, 204, 205, 206, 207, 208, 209, 210, 211, 212, 213, 214, 215, 216, 217, 218, 219, 220, 221, 222, 223, 224, 225, 226, 227, 228, 229, 230, 231, 232, 233, 234, 235, 236, 237, 238, 239, 240, 241, 242, 243, 244, 245, 246, 247, 248, 249, 250, 251, 252, 253, 254, 255, 256, 257, 258, 310, 311, 312, 313, 314, 315, 316, 317, 318, 319, 320, 321, 322, 323, 324, 325, 326, 327, 328, 329, 330, 331, 332, 333, 334, 335, 336, 337, 338, 339, 340, 341, 342, 343, 344, 345, 346, 347, 348, 349, 350, 351, 352, 353, 354, 355, 356, 357, 358, 359, 360, 259, 260, 261, 262, 263, 264, 265, 266, 267, 268, 269, 270, 271, 272, 273, 274, 275, 276, 277, 278, 279, 280, 281, 282, 283, 284, 285, 286, 287, 288, 289, 290, 291, 292, 293, 294, 295, 296, 297, 298, 299, 300, 301, 302, 303, 304, 305, 306, 307, 308, 309]
def sw (x : Nat) : Nat := swl.getD x x
def swj (j : Nat) : Nat := bif Nat.beq j 7 then 8 else bif Nat.beq j 8 then 7 else j
def swg (g : Nat → Bool) : Nat → Bool := fun j => g (swj j)
def swa : List Nat := [13, 14, 15, 16, 17, 18, 259, 260, 261, 262, 263, 264, 265, 266, 267, 268, 269, 270, 271, 272, 273, 274, 275, 276, 277, 278, 279, 280, 281, 282, 283, 284, 285, 286, 287, 288, 289, 290, 291, 292, 293, 294, 295, 296, 297, 298, 299, 300, 301, 302, 303, 304, 305, 306, 307, 308, 309]
def swb : List Nat := [19, 20, 21, 22, 23, 24, 310, 311, 312, 313, 314, 315, 316, 317, 318, 319, 320, 321, 322, 323, 324, 325, 326, 327, 328, 329, 330, 331, 332, 333, 334, 335, 336, 337, 338, 339, 340, 341, 342, 343, 344, 345, 346, 347, 348, 349, 350, 351, 352, 353, 354, 355, 356, 357, 358, 359, 360]
theorem sw_all {p : Nat → Bool} (h : (List.range VPH.length).all p = true) {x : Nat} (hx : x < VPH.length) : p x = true := List.all_eq_true.mp h x (List.mem_range.mpr hx)
theorem sw_lt {x : Nat} (hx : x < VPH.length) : sw x < VPH.length := blt_of (sw_all (p := fun x => Nat.blt (sw x) VPH.length) (by decide +kernel) hx)
theorem sw_sw {x : Nat} (hx : x < VPH.length) : sw (sw x) = x := Nat.eq_of_beq_eq_true (sw_all (p := fun x => Nat.beq (sw (sw x)) x) (by decide +kernel) hx)
theorem sw_g {x : Nat} (hx : x < VPH.length) : GPH.getD (sw x) 0 = swj (GPH.getD x 0) := Nat.eq_of_beq_eq_true (sw_all (p := fun x => Nat.beq (GPH.getD (sw x) 0) (swj (GPH.getD x 0))) (by decide +kernel) hx)
theorem sw_v {x : Nat} (hx : x < VPH.length) : vent VPH (sw x) = vent VPH x := of_decide_eq_true (sw_all (p := fun x => decide (vent VPH (sw x) = vent VPH x)) (by decide +kernel) hx)
theorem sw_S {g : Nat → Bool} {x : Nat} (hx : x < VPH.length) : SPH (swg g) x = SPH g (sw x) := by
  unfold SPH swg
  rw [sw_g hx]
theorem sw_h {σ : rS} {g : Nat → Bool} {D N : Nat → Nat} {F : hF} {A : hA} (H : HWs (SPH g) VPH σ D N F A) : HWs (SPH (swg g)) VPH σ (fun x => D (sw x)) (fun x => N (sw x)) (fun x => F (sw x)) (fun x => A (sw x)) := by
  have va_ : ∀ {x : Nat}, x < VPH.length → varr VPH (sw x) = varr VPH x := fun hx => by unfold varr vtc; rw [sw_v hx]
  have vk_ : ∀ {x : Nat}, x < VPH.length → vak VPH (sw x) = vak VPH x := fun hx => by unfold vak vtc; rw [sw_v hx]
  refine ⟨fun x hx hp ha => ?_, fun x hx hp ha => ?_, fun x y hx hy hp hq e => ?_, fun x hx hp => H.lo _ (sw_lt hx) (by rw [← sw_S hx]; exact hp), fun x k hx hp => ?_, fun x i hx hp ha => ?_, fun x hx hp => H.nle _ (sw_lt hx) (by rw [← sw_S hx]; exact hp)⟩
  · show rat σ (D (sw x)) = _
    rw [H.obj _ (sw_lt hx) (by rw [← sw_S hx]; exact hp) (by rw [va_ hx]; exact ha)]
    unfold vcell vcls vtc vnf vfd
    rw [sw_v hx]
    congr 3
    apply List.map_congr_left
    intro k hk
    exact vf_eq rfl (fun q => absurd q (vn3_f (V := VPH) (x := x) (k := k) VPH_3))
  · have w := H.arr _ (sw_lt hx) (by rw [← sw_S hx]; exact hp) (by rw [va_ hx]; exact ha)
    rw [vk_ hx] at w
    exact w
  · have := H.inj _ _ (sw_lt hx) (sw_lt hy) (by rw [← sw_S hx]; exact hp) (by rw [← sw_S hy]; exact hq) e
    rw [← sw_sw hx, this, sw_sw hy]
  · have w := H.krg (sw x) k (sw_lt hx) (by rw [← sw_S hx]; exact hp)
    unfold vfd at w ⊢
    rw [sw_v hx] at w
    exact w
  · have w := H.arg (sw x) i (sw_lt hx) (by rw [← sw_S hx]; exact hp) (by rw [va_ hx]; exact ha)
    rw [vk_ hx] at w
    exact w
theorem sum_vs {h : Nat → Int} : ∀ (l : List Nat), vs (fun x => h (l.getD x 0)) l.length = (l.map h).sum
  | [] => rfl
  | a :: l => by
    have e : vs (fun x => h ((a :: l).getD x 0)) (l.length + 1) = h a + vs (fun x => h (l.getD x 0)) l.length := vs_cons
    show vs (fun x => h ((a :: l).getD x 0)) (l.length + 1) = _
    rw [e, sum_vs l, List.map_cons, List.sum_cons]
theorem sw_vs (h : Nat → Int) : vs (fun x => h (sw x)) VPH.length = vs h VPH.length := by
  have nd : nodB (swa ++ swb) = true := by decide +kernel
  have lt : ∀ x, x < (swa ++ swb).length → (swa ++ swb).getD x 0 < VPH.length := fun x hx => blt_of (List.all_eq_true.mp (show (List.range (swa ++ swb).length).all (fun x => Nat.blt ((swa ++ swb).getD x 0) VPH.length) = true by decide +kernel) x (List.mem_range.mpr hx))
  have e1 := vs_part (g := h) nd lt
  have e2 := vs_part (g := fun x => h (sw x)) nd lt
  have e3 := vs_congr (g := fun y => if (fnd y (swa ++ swb)).isSome then 0 else h (sw y)) (h := fun y => if (fnd y (swa ++ swb)).isSome then 0 else h y) (n := VPH.length) (fun y hy => by
    have w := sw_all (p := fun y => (fnd y (swa ++ swb)).isSome || Nat.beq (sw y) y) (by decide +kernel) hy
    rw [Bool.or_eq_true] at w
    rcases w with w | w
    · rw [if_pos w, if_pos w]
    · rw [Nat.eq_of_beq_eq_true w])
  have e4 := sum_vs (h := h) (swa ++ swb)
  have e5 := sum_vs (h := fun x => h (sw x)) (swa ++ swb)
  have e6 : (swa ++ swb).map (fun x => h (sw x)) = (swb ++ swa).map h := by
    rw [show (swb ++ swa) = (swa ++ swb).map sw by decide +kernel, List.map_map]
    rfl
  have e7 : ((swb ++ swa).map h).sum = ((swa ++ swb).map h).sum := by
    rw [List.map_append, List.map_append, List.sum_append, List.sum_append]
    omega
  rw [e6, e7] at e5
  rw [e3] at e2
  omega
theorem EQD_sw {D N : Nat → Nat} {F F1 : hF} {A : hA} {LF : List (Nat × Nat)} {LA LN LD : List Nat} (hF : ∀ x k, x ≠ 0 → F1 x k = F x k) (h : (LF.all (fun q => Nat.beq (sw q.1) q.1 && !(Nat.beq q.1 0)) && (LA.all (fun x => Nat.beq (sw x) x) && (LN.all (fun x => Nat.beq (sw x) x) && LD.all (fun x => Nat.beq (sw x) x)))) = true) : EQD LF LA LN LD D N F A (fun x => D (sw x)) (fun x => N (sw x)) (fun x => F1 (sw x)) (fun x => A (sw x)) := by
  simp only [Bool.and_eq_true] at h
  obtain ⟨c1, c2, c3, c4⟩ := h
  refine ⟨fun q hq => ?_, fun x hx => ?_, fun x hx => ?_, fun x hx => ?_⟩
  · have w := List.all_eq_true.mp c1 q hq
    rw [Bool.and_eq_true] at w
    show F1 (sw q.1) q.2 = F q.1 q.2
    rw [Nat.eq_of_beq_eq_true w.1]
    refine hF _ _ (fun e => ?_)
    have w2 := w.2
    rw [e] at w2
    cases w2
  · show A (sw x) = A x
    rw [Nat.eq_of_beq_eq_true (List.all_eq_true.mp c2 x hx)]
  · show N (sw x) = N x
    rw [Nat.eq_of_beq_eq_true (List.all_eq_true.mp c3 x hx)]
  · show D (sw x) = D x
    rw [Nat.eq_of_beq_eq_true (List.all_eq_true.mp c4 x hx)]
def OD8 (D N : Nat → Nat) (F : hF) (A : hA) : Prop := (HID ((F 22 0) = -1 ∨ (F 22 0) = (((D 310 : Nat) : Int)) ∧ 0 ≤ (F 310 3) ∧ (F 310 3) ≤ 11)) ∧ (HID ((F 22 0) = -1 ∨ LNG ((A 311)) ((F 310 3)))) ∧ (HID (((A 23)) 0 = -1 ∨ ((A 23)) 0 = (((D 334 : Nat) : Int)))) ∧ (HID (((A 23)) 1 = -1 ∨ ((A 23)) 1 = (((D 343 : Nat) : Int)))) ∧ (HID (((A 23)) 2 = -1 ∨ ((A 23)) 2 = (((D 352 : Nat) : Int)))) ∧ (HID (((A 23)) 0 = -1 ∨ SL ((A 335)) ((F 334 1)) ((F 334 0)) ((A 336)) ((A 337)) ((A 338)) ((A 340)) ((A 341)) ((A 342)))) ∧ (HID (((A 23)) 1 = -1 ∨ SL ((A 344)) ((F 343 1)) ((F 343 0)) ((A 345)) ((A 346)) ((A 347)) ((A 349)) ((A 350)) ((A 351)))) ∧ (HID (((A 23)) 2 = -1 ∨ SL ((A 353)) ((F 352 1)) ((F 352 0)) ((A 354)) ((A 355)) ((A 356)) ((A 358)) ((A 359)) ((A 360)))) ∧ (HID (((A 23)) 0 = -1 ∨ (F 334 0) ≤ 9)) ∧ (HID (((A 23)) 1 = -1 ∨ (F 343 0) ≤ 8)) ∧ (HID (((A 23)) 2 = -1 ∨ (F 352 0) ≤ 9))
def ON8 (D N : Nat → Nat) (F : hF) (A : hA) : Prop := ((F 22 0) = -1) ∧ (((A 23)) 0 = -1) ∧ (((A 23)) 1 = -1) ∧ (((A 23)) 2 = -1)
theorem PHI_swap {g : Nat → Bool} {σ σ1 : rS} {D N : Nat → Nat} {F F1 : hF} {A : hA} (X : PHI g σ D N F A) (hgood : g 8 = true ∧ OD8 D N F A ∨ g 8 = false ∧ ON8 D N F A) (HW1 : HWs (SPH g) VPH σ1 D N F1 A) (HT1 : STC σ1) (hF : ∀ x k, x ≠ 0 → F1 x k = F x k) (hF0 : ∀ k, k ≠ 3 → k ≠ 4 → F1 0 k = F 0 k) (z1 : F1 0 3 = (D 19 : Int)) (z2 : F1 0 4 = (D 13 : Int)) : PHI (swg g) σ1 (fun x => D (sw x)) (fun x => N (sw x)) (fun x => F1 (sw x)) (fun x => A (sw x)) := by
  obtain ⟨HX, HT, hg0, hPF, hAB, hNZ, hGI, hI0, hI1, hI2, hI3, hI4, hI5, hI6, hI7, hI8, hI9⟩ := X
  unfold INV0 at hI0
  obtain ⟨f0_0, f0_1, f0_2, f0_3, f0_4, f0_5, f0_6, f0_7, f0_8, f0_9, f0_10, f0_11, f0_12, f0_13, f0_14, f0_15, f0_16, f0_17⟩ := hI0
  have e0 : INV0 D N F1 A := ⟨(show 0 ≤ (F1 2 1) ∧ (F1 2 1) ≤ ((N 3 : Int)) ∧ ((N 3 : Int)) ≤ 65536 from (by rw [hF 2 1 (by decide)]; exact f0_0)), (show 0 ≤ (F1 4 1) ∧ (F1 4 1) ≤ ((N 5 : Int)) ∧ ((N 5 : Int)) ≤ 65536 from (by rw [hF 4 1 (by decide)]; exact f0_1)), (show 0 ≤ (F1 6 1) ∧ (F1 6 1) ≤ ((N 7 : Int)) ∧ ((N 7 : Int)) ≤ 65536 from (by rw [hF 6 1 (by decide)]; exact f0_2)), (show 0 ≤ (F1 8 1) ∧ (F1 8 1) ≤ ((N 9 : Int)) ∧ ((N 9 : Int)) ≤ 65536 from (by rw [hF 8 1 (by decide)]; exact f0_3)), (show 0 ≤ (F1 11 1) ∧ (F1 11 1) ≤ ((N 12 : Int)) ∧ ((N 12 : Int)) ≤ 65536 from (by rw [hF 11 1 (by decide)]; exact f0_4)), (show 0 ≤ (F1 25 1) ∧ (F1 25 1) ≤ ((N 26 : Int)) ∧ ((N 26 : Int)) ≤ 65536 from (by rw [hF 25 1 (by decide)]; exact f0_5)), (show 0 ≤ (F1 27 1) ∧ (F1 27 1) ≤ ((N 28 : Int)) ∧ ((N 28 : Int)) ≤ 65536 from (by rw [hF 27 1 (by decide)]; exact f0_6)), (show 0 ≤ (F1 14 1) ∧ (F1 14 1) ≤ ((N 15 : Int)) ∧ ((N 15 : Int)) ≤ 65536 from (by rw [hF 14 1 (by decide)]; exact f0_7)), (show 0 ≤ (F1 20 1) ∧ (F1 20 1) ≤ ((N 21 : Int)) ∧ ((N 21 : Int)) ≤ 65536 from (by rw [hF 20 1 (by decide)]; exact f0_8)), (show ((N 1 : Int)) = 4 from f0_9), (show ((N 10 : Int)) = 10 from f0_10), (show ((N 29 : Int)) = 13 from f0_11), (show ((N 30 : Int)) = 5 from f0_12), (show ((N 31 : Int)) = 5 from f0_13), (show ((N 32 : Int)) = 2 from f0_14), (show ((N 17 : Int)) = 3 ∧ ((N 18 : Int)) = 3 from f0_15), (show ((N 23 : Int)) = 3 ∧ ((N 24 : Int)) = 3 from f0_16), (show SETI ((A 10)) from f0_17)⟩
  refine ⟨sw_h HW1, HT1, hg0, fun e he h1 h2 => ?_, fun e he hb => ?_, fun x hx => ?_, hGI, ⟨(show 0 ≤ (F1 2 1) ∧ (F1 2 1) ≤ ((N 3 : Int)) ∧ ((N 3 : Int)) ≤ 65536 from (by rw [hF 2 1 (by decide)]; exact f0_0)), (show 0 ≤ (F1 4 1) ∧ (F1 4 1) ≤ ((N 5 : Int)) ∧ ((N 5 : Int)) ≤ 65536 from (by rw [hF 4 1 (by decide)]; exact f0_1)), (show 0 ≤ (F1 6 1) ∧ (F1 6 1) ≤ ((N 7 : Int)) ∧ ((N 7 : Int)) ≤ 65536 from (by rw [hF 6 1 (by decide)]; exact f0_2)), (show 0 ≤ (F1 8 1) ∧ (F1 8 1) ≤ ((N 9 : Int)) ∧ ((N 9 : Int)) ≤ 65536 from (by rw [hF 8 1 (by decide)]; exact f0_3)), (show 0 ≤ (F1 11 1) ∧ (F1 11 1) ≤ ((N 12 : Int)) ∧ ((N 12 : Int)) ≤ 65536 from (by rw [hF 11 1 (by decide)]; exact f0_4)), (show 0 ≤ (F1 25 1) ∧ (F1 25 1) ≤ ((N 26 : Int)) ∧ ((N 26 : Int)) ≤ 65536 from (by rw [hF 25 1 (by decide)]; exact f0_5)), (show 0 ≤ (F1 27 1) ∧ (F1 27 1) ≤ ((N 28 : Int)) ∧ ((N 28 : Int)) ≤ 65536 from (by rw [hF 27 1 (by decide)]; exact f0_6)), (show 0 ≤ (F1 20 1) ∧ (F1 20 1) ≤ ((N 21 : Int)) ∧ ((N 21 : Int)) ≤ 65536 from (by rw [hF 20 1 (by decide)]; exact f0_8)), (show 0 ≤ (F1 14 1) ∧ (F1 14 1) ≤ ((N 15 : Int)) ∧ ((N 15 : Int)) ≤ 65536 from (by rw [hF 14 1 (by decide)]; exact f0_7)), (show ((N 1 : Int)) = 4 from f0_9), (show ((N 10 : Int)) = 10 from f0_10), (show ((N 29 : Int)) = 13 from f0_11), (show ((N 30 : Int)) = 5 from f0_12), (show ((N 31 : Int)) = 5 from f0_13), (show ((N 32 : Int)) = 2 from f0_14), (show ((N 23 : Int)) = 3 ∧ ((N 24 : Int)) = 3 from f0_16), (show ((N 17 : Int)) = 3 ∧ ((N 18 : Int)) = 3 from f0_15), (show SETI ((A 10)) from f0_17)⟩, fun h => INV1_eq (EQD_sw hF (by decide +kernel)) (hI1 h), fun h => INV2_eq (EQD_sw hF (by decide +kernel)) (hI2 h), fun h => INV3_eq (EQD_sw hF (by decide +kernel)) (hI3 h), fun h => INV4_eq (EQD_sw hF (by decide +kernel)) (hI4 h), fun h => INV5_eq (EQD_sw hF (by decide +kernel)) (hI5 h), fun h => INV6_eq (EQD_sw hF (by decide +kernel)) (hI6 h), ?_, ?_, ?_⟩
  · have w := List.all_eq_true.mp (show PFT.all (fun e => decide (e = (0, 0, 3, 13)) || (decide (e = (0, 0, 4, 19)) || ((decide (e.2.1 = 0) && (!(Nat.beq e.2.2.1 3) && (!(Nat.beq e.2.2.1 4) && (Nat.beq (sw e.2.2.2) e.2.2.2 && Nat.beq e.1 0)))) || (!(Nat.beq e.2.1 0) && (!(Nat.beq (sw e.2.1) 0) && PFT.any (fun q => decide (q = (e.1, sw e.2.1, e.2.2.1, sw e.2.2.2)))))))) = true by decide +kernel) e he
    have l := PFT_lt e he
    rw [sw_S l.1] at h1
    rw [sw_S l.2] at h2
    simp only [Bool.or_eq_true, Bool.and_eq_true, decide_eq_true_eq] at w
    rcases w with w | w | w | w
    · subst w
      exact z1
    · subst w
      exact z2
    · obtain ⟨w1, w2, w3, w4, w5⟩ := w
      have w4 := Nat.eq_of_beq_eq_true w4
      have w5 := Nat.eq_of_beq_eq_true w5
      rw [w4] at h2
      rw [w1] at h1
      have v := hPF e he (by rw [w1]; exact h1) h2
      unfold rval at v ⊢
      rw [w5, w1] at v ⊢
      have v : F 0 e.2.2.1 = (D e.2.2.2 : Int) := v
      show F1 (sw 0) e.2.2.1 = ((D (sw e.2.2.2) : Nat) : Int)
      rw [w4]
      refine (hF0 _ (fun q => ?_) (fun q => ?_)).trans v
      · rw [q] at w2; cases w2
      · rw [q] at w3; cases w3
    · obtain ⟨w1, w2, w3⟩ := w
      obtain ⟨q, q1, q2⟩ := List.any_eq_true.mp w3
      have q2 := of_decide_eq_true q2
      subst q2
      have v := hPF _ q1 h1 h2
      unfold rval at v ⊢
      have hne : sw e.2.1 ≠ 0 := fun q => by rw [q] at w2; cases w2
      cases hk : Nat.beq e.1 0 with
      | true =>
        rw [hk] at v
        have v : F (sw e.2.1) e.2.2.1 = ((D (sw e.2.2.2) : Nat) : Int) := v
        show F1 (sw e.2.1) e.2.2.1 = _
        rw [hF _ _ hne]
        exact v
      | false =>
        rw [hk] at v
        exact v
  · have w := List.all_eq_true.mp (show ABT.all (fun e => ABT.any (fun q => decide (q = (swj e.1, sw e.2.1, e.2.2))) && (!(Nat.beq (sw e.2.1) 0) || (!(Nat.beq e.2.2 3) && !(Nat.beq e.2.2 4)))) = true by decide +kernel) e he
    rw [Bool.and_eq_true] at w
    obtain ⟨q, q1, q2⟩ := List.any_eq_true.mp w.1
    have q2 := of_decide_eq_true q2
    subst q2
    have v : F (sw e.2.1) e.2.2 = -1 := hAB _ q1 hb
    show F1 (sw e.2.1) e.2.2 = -1
    by_cases q : sw e.2.1 = 0
    · have w2 := w.2
      rw [q] at w2 v ⊢
      rw [Bool.or_eq_true, Bool.and_eq_true] at w2
      rcases w2 with w2 | w2
      · cases w2
      · refine (hF0 _ (fun r => ?_) (fun r => ?_)).trans v
        · rw [r] at w2; cases w2.1
        · rw [r] at w2; cases w2.2
    · rw [hF _ _ q]
      exact v
  · have e : FXT.getD (sw x) 0 = FXT.getD x 0 := Nat.eq_of_beq_eq_true (sw_all (p := fun x => Nat.beq (FXT.getD (sw x) 0) (FXT.getD x 0)) (by decide +kernel) hx)
    have w := hNZ _ (sw_lt hx)
    rw [e] at w
    rw [sw_S hx]
    exact w
  · intro h
    have h8 : g 8 = true := h
    have hJ := hI8 h8
    unfold INV8 at hJ
    obtain ⟨f8_0, f8_1, f8_2, f8_3, f8_4, f8_5, f8_6⟩ := hJ
    rcases hgood with ⟨-, hd⟩ | ⟨q, -⟩
    · unfold OD8 at hd
      obtain ⟨j0, j1, j2, j3, j4, j5, j6, j7, j8, j9, j10⟩ := hd
      exact ⟨(show ((N 333 : Int)) = 3 from f8_0), (show CDZD (((N 311 : Int))) (((N 312 : Int))) (((N 313 : Int))) (((N 314 : Int))) (((N 315 : Int))) (((N 330 : Int))) (((N 331 : Int))) (((N 332 : Int))) from f8_1), (show SHZD (((N 317 : Int))) (((N 318 : Int))) (((N 319 : Int))) (((N 320 : Int))) (((N 321 : Int))) (((N 322 : Int))) (((N 323 : Int))) (((N 324 : Int))) ((F1 316 1)) 12 64 from (by rw [hF 316 1 (by decide)]; exact f8_2)), (show SHZD (((N 335 : Int))) (((N 336 : Int))) (((N 337 : Int))) (((N 338 : Int))) (((N 339 : Int))) (((N 340 : Int))) (((N 341 : Int))) (((N 342 : Int))) ((F1 334 1)) 36 512 from (by rw [hF 334 1 (by decide)]; exact f8_3)), (show SHZD (((N 344 : Int))) (((N 345 : Int))) (((N 346 : Int))) (((N 347 : Int))) (((N 348 : Int))) (((N 349 : Int))) (((N 350 : Int))) (((N 351 : Int))) ((F1 343 1)) 32 256 from (by rw [hF 343 1 (by decide)]; exact f8_4)), (show SHZD (((N 353 : Int))) (((N 354 : Int))) (((N 355 : Int))) (((N 356 : Int))) (((N 357 : Int))) (((N 358 : Int))) (((N 359 : Int))) (((N 360 : Int))) ((F1 352 1)) 53 512 from (by rw [hF 352 1 (by decide)]; exact f8_5)), (show CEL ((A 313)) from f8_6), (show HID ((F1 22 0) = -1 ∨ (F1 22 0) = (((D 310 : Nat) : Int)) ∧ 0 ≤ (F1 310 3) ∧ (F1 310 3) ≤ 11) from (by rw [hF 22 0 (by decide), hF 310 3 (by decide)]; exact j0)), (show HID ((F1 22 0) = -1 ∨ LNG ((A 311)) ((F1 310 3))) from (by rw [hF 22 0 (by decide), hF 310 3 (by decide)]; exact j1)), (show HID (((A 23)) 0 = -1 ∨ ((A 23)) 0 = (((D 334 : Nat) : Int))) from j2), (show HID (((A 23)) 1 = -1 ∨ ((A 23)) 1 = (((D 343 : Nat) : Int))) from j3), (show HID (((A 23)) 2 = -1 ∨ ((A 23)) 2 = (((D 352 : Nat) : Int))) from j4), (show HID (((A 23)) 0 = -1 ∨ SL ((A 335)) ((F1 334 1)) ((F1 334 0)) ((A 336)) ((A 337)) ((A 338)) ((A 340)) ((A 341)) ((A 342))) from (by rw [hF 334 0 (by decide), hF 334 1 (by decide)]; exact j5)), (show HID (((A 23)) 1 = -1 ∨ SL ((A 344)) ((F1 343 1)) ((F1 343 0)) ((A 345)) ((A 346)) ((A 347)) ((A 349)) ((A 350)) ((A 351))) from (by rw [hF 343 0 (by decide), hF 343 1 (by decide)]; exact j6)), (show HID (((A 23)) 2 = -1 ∨ SL ((A 353)) ((F1 352 1)) ((F1 352 0)) ((A 354)) ((A 355)) ((A 356)) ((A 358)) ((A 359)) ((A 360))) from (by rw [hF 352 0 (by decide), hF 352 1 (by decide)]; exact j7)), (show HID (((A 23)) 0 = -1 ∨ (F1 334 0) ≤ 9) from (by rw [hF 334 0 (by decide)]; exact j8)), (show HID (((A 23)) 1 = -1 ∨ (F1 343 0) ≤ 8) from (by rw [hF 343 0 (by decide)]; exact j9)), (show HID (((A 23)) 2 = -1 ∨ (F1 352 0) ≤ 9) from (by rw [hF 352 0 (by decide)]; exact j10))⟩
    · rw [h8] at q; cases q
  · intro h
    have hJ := hI7 h
    unfold INV7 at hJ
    obtain ⟨f7_0, f7_1, f7_2, f7_3, f7_4, f7_5, f7_6, f7_7, f7_8, f7_9, f7_10, f7_11, f7_12, f7_13, f7_14, f7_15, f7_16, f7_17⟩ := hJ
    exact ⟨(show ((N 282 : Int)) = 3 from f7_0), (show CDZD (((N 260 : Int))) (((N 261 : Int))) (((N 262 : Int))) (((N 263 : Int))) (((N 264 : Int))) (((N 279 : Int))) (((N 280 : Int))) (((N 281 : Int))) from f7_1), (show SHZD (((N 266 : Int))) (((N 267 : Int))) (((N 268 : Int))) (((N 269 : Int))) (((N 270 : Int))) (((N 271 : Int))) (((N 272 : Int))) (((N 273 : Int))) ((F1 265 1)) 12 64 from (by rw [hF 265 1 (by decide)]; exact f7_2)), (show SHZD (((N 284 : Int))) (((N 285 : Int))) (((N 286 : Int))) (((N 287 : Int))) (((N 288 : Int))) (((N 289 : Int))) (((N 290 : Int))) (((N 291 : Int))) ((F1 283 1)) 36 512 from (by rw [hF 283 1 (by decide)]; exact f7_3)), (show SHZD (((N 293 : Int))) (((N 294 : Int))) (((N 295 : Int))) (((N 296 : Int))) (((N 297 : Int))) (((N 298 : Int))) (((N 299 : Int))) (((N 300 : Int))) ((F1 292 1)) 32 256 from (by rw [hF 292 1 (by decide)]; exact f7_4)), (show SHZD (((N 302 : Int))) (((N 303 : Int))) (((N 304 : Int))) (((N 305 : Int))) (((N 306 : Int))) (((N 307 : Int))) (((N 308 : Int))) (((N 309 : Int))) ((F1 301 1)) 53 512 from (by rw [hF 301 1 (by decide)]; exact f7_5)), (show CEL ((A 262)) from f7_6)⟩
  · intro h
    rcases hgood with ⟨q, -⟩ | ⟨-, hd⟩
    · have h : g 8 = false := h
      rw [h] at q; cases q
    · unfold ON8 at hd
      obtain ⟨j0, j1, j2, j3⟩ := hd
      exact ⟨(show (F1 22 0) = -1 from (by rw [hF 22 0 (by decide)]; exact j0)), (show ((A 23)) 0 = -1 from j1), (show ((A 23)) 1 = -1 from j2), (show ((A 23)) 2 = -1 from j3)⟩
