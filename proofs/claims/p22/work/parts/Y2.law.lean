/-! both sides in one heap -/
section LAW0
variable {g gₚ : Nat → Bool} {σ σₚ : rS} {D N Dₚ Nₚ D2 N2 : Nat → Nat} {F Fₚ F2 : hF} {A Aₚ A2 : hA} {L : Nat} {xs : Nat → Int}
def SCR (σ : rS) (L : Nat) (xs : Nat → Int) : Prop := ∃ dv ov, rat σ 11 = some (.inr (1, L, dv, ov)) ∧ ∀ j : Nat, rlk ov dv j = I (xs j)
def SEP (g : Nat → Bool) (D D2 : Nat → Nat) : Prop := ∀ x, x < VPH.length → SPH g x = true → ∀ o, D2 o ≠ 0 → D x ≠ D2 o
theorem HS_lt (H : HS σ σ D2 N2 F2 A2) {o : Nat} (h : D2 o ≠ 0) : D2 o < σ.length := by
  cases ha : t_arr o with
  | false => exact rat_lt (H.obj o h ha)
  | true =>
    obtain ⟨dv, ov, q, -⟩ := H.arr o h ha
    exact rat_lt q
theorem HS_lo (H : HS σ σ D2 N2 F2 A2) {o : Nat} (h : D2 o ≠ 0) : 12 ≤ D2 o := by
  unfold HS at H
  exact H.2.2.2.1 o h
/-- behind a call of the class: the reference stands as it stood -/
theorem CL_ref {c s cₚ sₚ : Nat} (X : RHI σ D2 N2 F2 A2) (hs : SEP g D D2) (S : STP0 g σ D N c s gₚ σₚ Dₚ Nₚ cₚ sₚ) : RHI σₚ D2 N2 F2 A2 ∧ SEP gₚ Dₚ D2 := by
  obtain ⟨⟨a1, a2, a3⟩, -⟩ := S
  refine ⟨RHI_keep X (fun o ho => a1 _ (by have := HS_lo X.1 ho; omega) (HS_lt X.1 ho) (fun x hx hp e => hs x hx hp o ho e)), fun x hx hp o ho e => ?_⟩
  rcases a3 x hx hp with ⟨y, y1, y2, y3⟩ | w
  · exact hs y y1 y2 o ho (y3.symm.trans e)
  · have := HS_lt X.1 ho
    omega
theorem CL_scr {c s cₚ sₚ : Nat} (X : HWs (SPH g) VPH σ D N F A) (h : SCR σ L xs) (S : STP0 g σ D N c s gₚ σₚ Dₚ Nₚ cₚ sₚ) : SCR σₚ L xs := by
  obtain ⟨⟨a1, -, -⟩, -⟩ := S
  obtain ⟨dv, ov, q1, q2⟩ := h
  exact ⟨dv, ov, by rw [a1 11 (by omega) (rat_lt q1) (fun x hx hp e => by have := X.lo x hx hp; omega)]; exact q1, q2⟩
/-- behind a call of the reference: the class stands as it stood -/
theorem RF_cls (X : PHI g σ D N F A) (H : HS σ σ D2 N2 F2 A2) (hs : SEP g D D2) (S : STO D2 σ σₚ) : PHI g σₚ D N F A := by
  obtain ⟨HX, HT, rest⟩ := X
  have e : ∀ x, x < VPH.length → SPH g x = true → rat σₚ (D x) = rat σ (D x) := fun x hx hp => S.1 _ (fun o ho e => hs x hx hp o ho e.symm)
  refine ⟨⟨fun x hx hp ha => by rw [e x hx hp]; exact HX.1 x hx hp ha, fun x hx hp ha => by rw [e x hx hp]; exact HX.2.1 x hx hp ha, HX.2.2.1, HX.2.2.2.1, HX.2.2.2.2.1, HX.2.2.2.2.2.1, HX.2.2.2.2.2.2⟩, fun b hb => ?_, rest⟩
  obtain ⟨dv, ov, q1, q2⟩ := HT b hb
  exact ⟨dv, ov, by rw [S.1 b (fun o ho e => by have := HS_lo H ho; omega)]; exact q1, q2⟩
theorem RF_scr (H : HS σ σ D2 N2 F2 A2) (h : SCR σ L xs) (S : STO D2 σ σₚ) : SCR σₚ L xs := by
  obtain ⟨dv, ov, q1, q2⟩ := h
  exact ⟨dv, ov, by rw [S.1 11 (fun o ho e => by have := HS_lo H ho; omega)]; exact q1, q2⟩
end LAW0
section LAW1
variable {μ d pc len c s : Nat} {act : rA} {ls : rO} {st : List Value} {σ : rS} {Q : wQ} {L : Nat} {xs : Nat → Int}
/-- an int of the script -/
theorem w_scr (h : SCR σ L xs) {j : Int} (hf : PP.1 μ pc = some (.iaload, len, act)) (h0 : 0 ≤ j ∧ j < L) (hL : L ≤ 1000000) (k : Ew μ d (pc + 1) ls (I (xs j.toNat) :: st) σ c s Q) : Ew μ d pc ls (I j :: .ref 11 :: st) σ c s Q := by
  obtain ⟨dv, ov, q1, q2⟩ := h
  exact Ew_of (fun _ e => x_iaload hf q1 (x := j.toNat) (ofI_nn h0.1 (by omega)) (ofI_nat h0.1 (by omega)) (by omega) (q2 j.toNat) e) k
theorem w_slen (h : SCR σ L xs) (hf : PP.1 μ pc = some (.arraylength, len, act)) (hL : L ≤ 1000000) (k : Ew μ d (pc + 1) ls (I (L : Int) :: st) σ c s Q) : Ew μ d pc ls (.ref 11 :: st) σ c s Q := by
  obtain ⟨dv, ov, q1, q2⟩ := h
  exact Ew_of (fun _ e => x_alen hf q1 hL (by decide) e) k
/-! longs, exactly -/
noncomputable def zshl (a b : Int) : Int := (rsop 0 (Int64.ofInt a) (Int32.ofInt b)).toInt
noncomputable def zand (a b : Int) : Int := (rlop 3 (Int64.ofInt a) (Int64.ofInt b)).toInt
noncomputable def zor (a b : Int) : Int := (rlop 4 (Int64.ofInt a) (Int64.ofInt b)).toInt
theorem zrng (a b : Int) : inrJ (zor a b) := toJ_inr _
theorem w_lshlZ {a b : Int} (hf : PP.1 μ pc = some (.lshl, len, act)) (h : Ew μ d (pc + 1) ls (J (zshl a b) :: st) σ c s Q) : Ew μ d pc ls (I b :: J a :: st) σ c s Q := Ew_of (fun _ => x_lshl hf (z := zshl a b) (toJ_of _).symm) h
theorem w_landZ {a b : Int} (hf : PP.1 μ pc = some (.land, len, act)) (h : Ew μ d (pc + 1) ls (J (zand a b) :: st) σ c s Q) : Ew μ d pc ls (J b :: J a :: st) σ c s Q := Ew_of (fun _ => x_land hf (z := zand a b) (toJ_of _).symm) h
theorem w_lorZ {a b : Int} (hf : PP.1 μ pc = some (.lor, len, act)) (h : Ew μ d (pc + 1) ls (J (zor a b) :: st) σ c s Q) : Ew μ d pc ls (J b :: J a :: st) σ c s Q := Ew_of (fun _ => x_lor hf (z := zor a b) (toJ_of _).symm) h
end LAW1
/-- the room, from state to state -/
def RMG (g : Nat → Bool) (N : Nat → Nat) (c s : Nat) (gₚ : Nat → Bool) (Nₚ : Nat → Nat) (cₚ sₚ : Nat) : Prop := (cₚ : Int) + PCg g N ≤ (c : Int) + PCg gₚ Nₚ ∧ (sₚ : Int) + PSg g N ≤ (s : Int) + PSg gₚ Nₚ
theorem RMG_of {g gₚ : Nat → Bool} {σ σₚ : rS} {D N Dₚ Nₚ : Nat → Nat} {c s cₚ sₚ : Nat} (S : STP0 g σ D N 0 0 gₚ σₚ Dₚ Nₚ cₚ sₚ) : RMG g N c s gₚ Nₚ (c + cₚ + 0) (s + sₚ + 0) := by
  obtain ⟨-, -, a, b⟩ := S
  have a : (cₚ : Int) + PCg g N ≤ ((0 : Nat) : Int) + PCg gₚ Nₚ := a
  have b : (sₚ : Int) + PSg g N ≤ ((0 : Nat) : Int) + PSg gₚ Nₚ := b
  unfold RMG
  omega
/-! flags of tokens: two ways to say the same -/
theorem mask_or (x : BitVec 32) : (x &&& 0xFFFFFFC2#32) ||| (x &&& 61#32) = x := by
  apply BitVec.eq_of_getLsbD_eq
  intro i hi
  have h : ∀ i : Fin 32, ((0xFFFFFFC2#32).getLsbD i || (61#32).getLsbD i) = true := by decide
  have h := h ⟨i, hi⟩
  have h : ((0xFFFFFFC2#32).getLsbD i || (61#32).getLsbD i) = true := h
  rw [BitVec.getLsbD_or, BitVec.getLsbD_and, BitVec.getLsbD_and]
  revert h
  generalize (0xFFFFFFC2#32).getLsbD i = b1
  generalize (61#32).getLsbD i = b2
  generalize x.getLsbD i = b0
  revert b0 b1 b2
  decide
theorem mask_and (x : BitVec 32) : (x &&& 0xFFFFFFC2#32) &&& (x &&& 61#32) = 0#32 := by
  apply BitVec.eq_of_getLsbD_eq
  intro i hi
  have h : ∀ i : Fin 32, ((0xFFFFFFC2#32).getLsbD i && (61#32).getLsbD i) = false := by decide
  have h := h ⟨i, hi⟩
  have h : ((0xFFFFFFC2#32).getLsbD i && (61#32).getLsbD i) = false := h
  rw [BitVec.getLsbD_and, BitVec.getLsbD_and, BitVec.getLsbD_and, BitVec.getLsbD_zero]
  revert h
  generalize (0xFFFFFFC2#32).getLsbD i = b1
  generalize (61#32).getLsbD i = b2
  generalize x.getLsbD i = b0
  revert b0 b1 b2
  decide
theorem aref_fin : (List.range 64).all (fun k => decide (andI (64 + (k : Int)) (-62) = 64) == decide (andI (64 + (k : Int)) 2 = 0)) = true := by decide +kernel
theorem aref {v : Int} (hv : inr v) : andI v (-62) = 64 ↔ (64 ≤ v ∧ v ≤ 127 ∧ andI v 2 = 0) := by
  have key : 64 ≤ v → v ≤ 127 → (andI v (-62) = 64 ↔ andI v 2 = 0) := fun a b => by
    have w := List.all_eq_true.mp aref_fin (v - 64).toNat (List.mem_range.mpr (by omega))
    rw [show 64 + (((v - 64).toNat : Nat) : Int) = v by omega] at w
    have w := eq_of_beq w
    constructor
    · intro q
      rw [decide_eq_true q] at w
      exact of_decide_eq_true w.symm
    · intro q
      rw [decide_eq_true q] at w
      exact of_decide_eq_true w
  constructor
  · intro h
    have hx : ((Int32.ofInt v).toBitVec &&& 0xFFFFFFC2#32) = 64#32 := by
      apply BitVec.eq_of_toInt_eq
      exact h
    have e := mask_or (Int32.ofInt v).toBitVec
    have e2 := BitVec.add_eq_or_of_and_eq_zero _ _ (mask_and (Int32.ofInt v).toBitVec)
    rw [e, hx] at e2
    have l : ((Int32.ofInt v).toBitVec &&& 61#32).toNat ≤ 61 := by
      rw [BitVec.toNat_and]
      exact Nat.and_le_right
    have n : (Int32.ofInt v).toBitVec.toNat = 64 + ((Int32.ofInt v).toBitVec &&& 61#32).toNat := by
      conv => lhs; rw [← e2]
      rw [BitVec.toNat_add]
      show (64 + _) % 2 ^ 32 = _
      rw [Nat.mod_eq_of_lt (by omega)]
    have t : v = (((Int32.ofInt v).toBitVec.toNat : Nat) : Int) := by
      have u := toI_ofI hv
      have u : (Int32.ofInt v).toBitVec.toInt = v := u
      rw [BitVec.toInt_eq_toNat_of_lt (by omega)] at u
      exact u.symm
    exact ⟨by omega, by omega, (key (by omega) (by omega)).mp h⟩
  · intro h
    exact (key h.1 h.2.1).mpr h.2.2
