/-! the class's own static arrays -/
def stl (b : Nat) : List Int := bif Nat.beq b 0 then [-1, 6, 0, 0, 115, 78, 97, 80, 112, 89] else bif Nat.beq b 1 then [0, 274646895, 549293790, 820201905, 1098587580, 1361435347, 1640403810, 1905808397, -2097792136, -1834419177, -1572096602, -1307217207, -1014159676, -741088853, -483350502, -210866315] else bif Nat.beq b 2 then [9, 8, 9] else bif Nat.beq b 3 then [35, 31, 52] else bif Nat.beq b 4 then [4, 3, 2, 2, 2, 2, 2, 2, 2, 2, 2, 2, 2, 1, 1, 1, 2, 2, 2, 2, 2, 2, 2, 2, 2, 3, 2, 1, 1, 1, 1, 1, -1, -1, -1, -1] else bif Nat.beq b 5 then [1, 1, 1, 1, 1, 1, 2, 2, 2, 1, 1, 1, 1, 1, 1, 1, 1, 1, 1, 1, 1, 1, 1, 1, -1, -1, -1, -1, -1] else bif Nat.beq b 6 then [1, 4, 3, 2, 2, 2, 2, 2, 2, 1, 1, 1, 1, 1, 1, 1, 1, 1, 1, 1, 1, 1, 1, 1, 1, 1, 1, 1, 1, 1, 1, 1, 1, 1, 1, 1, 1, 1, 1, 1, 1, 1, 1, 1, 1, 1, -1, -1, -1, -1, -1, -1, -1] else bif Nat.beq b 7 then [0, 1, 2, 3, 4, 5, 6, 7, 8, 9, 10, 11, 12, 13, 14, 15, 16, 18, 20, 22, 24, 28, 32, 40, 48, 64, 128, 256, 512, 1024, 2048, 4096, 8192, 16384, 32768, 65536] else bif Nat.beq b 8 then [0, 0, 0, 0, 0, 0, 0, 0, 0, 0, 0, 0, 0, 0, 0, 0, 1, 1, 1, 1, 2, 2, 3, 3, 4, 6, 7, 8, 9, 10, 11, 12, 13, 14, 15, 16] else bif Nat.beq b 9 then [3, 4, 5, 6, 7, 8, 9, 10, 11, 12, 13, 14, 15, 16, 17, 18, 19, 20, 21, 22, 23, 24, 25, 26, 27, 28, 29, 30, 31, 32, 33, 34, 35, 37, 39, 41, 43, 47, 51, 59, 67, 83, 99, 131, 259, 515, 1027, 2051, 4099, 8195, 16387, 32771, 65539] else bif Nat.beq b 10 then [0, 0, 0, 0, 0, 0, 0, 0, 0, 0, 0, 0, 0, 0, 0, 0, 0, 0, 0, 0, 0, 0, 0, 0, 0, 0, 0, 0, 0, 0, 0, 0, 1, 1, 1, 1, 2, 2, 3, 3, 4, 4, 5, 7, 8, 9, 10, 11, 12, 13, 14, 15, 16] else []
def STC (σ : rS) : Prop := ∀ b, b < 11 → ∃ dv ov, rat σ b = some (.inr ((bif Nat.beq b 0 then 0 else 1), (stl b).length, dv, ov)) ∧ ∀ j : Nat, rlk ov dv j = I ((stl b).getD j 0)
theorem STC_out {V : vV} {σE σ : rS} {D N Dₚ Nₚ : Nat → Nat} {F : hF} {A : hA} {c s cₚ sₚ : Nat} (HT : STC σE) (H : HW V σE D N F A) (O : OUT V.length D N σE c s Dₚ Nₚ σ cₚ sₚ) : STC σ := fun b hb => by
  obtain ⟨dv, ov, q1, q2⟩ := HT b hb
  refine ⟨dv, ov, ?_, q2⟩
  rw [O.1 b ?_ (fun x hx e => by have := H.lo x hx; omega)]
  · exact q1
  · rw [rat_eq] at q1
    obtain ⟨hl, -⟩ := List.getElem?_eq_some_iff.mp q1
    exact hl
section VST
variable {σ : rS} {μ d pc c s : Nat} {ls : rO} {st : List Value} {Q : wQ} {len : Nat} {act : rA}
theorem stl_rng (b : Nat) (hb : b < 11) (j : Nat) : inr ((stl b).getD j 0) := by
  have q : ∀ b, b < 11 → (stl b).all (fun z => decide (-2147483648 ≤ z ∧ z ≤ 2147483647)) = true := by decide +kernel
  by_cases h : j < (stl b).length
  · rw [List.getD_eq_getElem?_getD, List.getElem?_eq_getElem h]
    have := List.all_eq_true.mp (q b hb) _ (List.getElem_mem h)
    exact of_decide_eq_true this
  · rw [List.getD_eq_getElem?_getD, List.getElem?_eq_none (by omega)]
    exact ⟨by decide, by decide⟩
theorem stl_len (b : Nat) (hb : b < 11) : (stl b).length ≤ 53 := by
  have q : ∀ b, b < 11 → (stl b).length ≤ 53 := by decide +kernel
  exact q b hb
theorem v_stI (HT : STC σ) {b : Nat} {j n : Int} (hf : PP.1 μ pc = some (.iaload, len, act)) (hb : Nat.blt b 11 = true) (hk : Nat.beq b 0 = false) (hn : ((stl b).length : Int) = n) (h0 : 0 ≤ j ∧ j < n) (h : ∀ v, (stl b).getD j.toNat 0 = v → inr v → Ew μ d (pc + 1) ls (I v :: st) σ c s Q) : Ew μ d pc ls (I j :: .ref b :: st) σ c s Q := by
  subst hn
  obtain ⟨dv, ov, q1, q2⟩ := HT b (blt_of hb)
  have hl := stl_len b (blt_of hb)
  rw [hk] at q1
  exact Ew_of (fun _ e => x_iaload hf q1 (ofI_nn h0.1 (by omega)) (ofI_nat h0.1 (by omega)) (by omega) (q2 _) e) (h _ rfl (stl_rng b (blt_of hb) _))
theorem v_stB (HT : STC σ) {b : Nat} {j n : Int} (hf : PP.1 μ pc = some (.baload, len, act)) (hb : Nat.blt b 11 = true) (hk : Nat.beq b 0 = true) (hn : ((stl b).length : Int) = n) (h0 : 0 ≤ j ∧ j < n) (h : ∀ v, (stl b).getD j.toNat 0 = v → inr v → Ew μ d (pc + 1) ls (I v :: st) σ c s Q) : Ew μ d pc ls (I j :: .ref b :: st) σ c s Q := by
  subst hn
  obtain ⟨dv, ov, q1, q2⟩ := HT b (blt_of hb)
  have hl := stl_len b (blt_of hb)
  rw [hk] at q1
  exact Ew_of (fun _ e => x_baload hf q1 (ofI_nn h0.1 (by omega)) (ofI_nat h0.1 (by omega)) (by omega) (q2 _) e) (h _ rfl (stl_rng b (blt_of hb) _))
theorem v_stL (HT : STC σ) {b : Nat} {n : Int} (hf : PP.1 μ pc = some (.arraylength, len, act)) (hb : Nat.blt b 11 = true) (hn : ((stl b).length : Int) = n) (h : Ew μ d (pc + 1) ls (I n :: st) σ c s Q) : Ew μ d pc ls (.ref b :: st) σ c s Q := by
  subst hn
  obtain ⟨dv, ov, q1, q2⟩ := HT b (blt_of hb)
  have hl := stl_len b (blt_of hb)
  refine Ew_of (fun _ e => x_alen hf q1 (by omega) ?_ e) h
  cases Nat.beq b 0 <;> decide
end VST
