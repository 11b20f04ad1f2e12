/-! more rows: arrays as functions, switches, arrays of booleans -/
def upd1 (a : Int → Int) (j z : Int) : Int → Int := fun i => if i = j then z else a i
theorem upd1_s {a : Int → Int} {j z : Int} : upd1 a j z j = z := if_pos rfl
theorem upd1_o {a : Int → Int} {j z i : Int} (h : i ≠ j) : upd1 a j z i = a i := if_neg h
theorem rpick_none {z d : Int} : ∀ {l : List (Int × Int)}, (∀ q ∈ l, q.1 ≠ z) → rpick z d l = d
  | [], _ => rfl
  | q :: l, h => by
    show (bif decide (q.1 = z) then q.2 else rpick z d l) = d
    rw [decide_eq_false (h q (List.mem_cons_self ..))]
    exact rpick_none (fun qₚ h' => h qₚ (List.mem_cons_of_mem _ h'))
section MORE
variable {σ0 σ : rS} {D N : Nat → Nat} {F : hF} {A : hA} {μ d pc c s : Nat} {ls : rO} {st : List Value} {Q : wQ} {len : Nat} {act : rA}
theorem w_tsk {dflt lo hi off z : Int} {offs : Array Int} (k t : Nat) (hf : PP.1 μ pc = some (.tableswitch dflt lo hi offs, len, act)) (hz : inr z) (hk : z = lo + k) (hh : lo + k ≤ hi) (ho : offs[k]? = some off) (ht : (pc : Int) + off = Int.ofNat t) (h : Ew μ d t ls st σ c s Q) : Ew μ d pc ls (I z :: st) σ c s Q :=
  Ew_of (fun _ => x_tsk hf (by rw [toI_ofI hz]; exact hk) hh ho ht) h
theorem w_tsd {dflt lo hi z : Int} {offs : Array Int} (t : Nat) (hf : PP.1 μ pc = some (.tableswitch dflt lo hi offs, len, act)) (hz : inr z) (hd : z < lo ∨ hi < z) (ht : (pc : Int) + dflt = Int.ofNat t) (h : Ew μ d t ls st σ c s Q) : Ew μ d pc ls (I z :: st) σ c s Q :=
  Ew_of (fun _ => x_tsd hf (by rw [toI_ofI hz]; exact hd) ht) h
theorem w_lsk {dflt off z key : Int} {pairs : Array (Int × Int)} (t : Nat) (hf : PP.1 μ pc = some (.lookupswitch dflt pairs, len, act)) (hz : inr z) (hk : z = key) (hp : rpick key dflt pairs.toList = off) (ht : (pc : Int) + off = Int.ofNat t) (h : Ew μ d t ls st σ c s Q) : Ew μ d pc ls (I z :: st) σ c s Q :=
  Ew_of (fun _ => x_lsw hf (by rw [toI_ofI hz, hk, hp]; exact ht)) h
theorem w_lsd {dflt z : Int} {pairs : Array (Int × Int)} (t : Nat) (hf : PP.1 μ pc = some (.lookupswitch dflt pairs, len, act)) (hz : inr z) (hk : ∀ q ∈ pairs.toList, q.1 ≠ z) (ht : (pc : Int) + dflt = Int.ofNat t) (h : Ew μ d t ls st σ c s Q) : Ew μ d pc ls (I z :: st) σ c s Q :=
  Ew_of (fun _ => x_lsw hf (by rw [toI_ofI hz, rpick_none hk]; exact ht)) h
theorem w_lneg {a : Int} (hf : PP.1 μ pc = some (.lneg, len, act)) (h : Ew μ d (pc + 1) ls (J (-a) :: st) σ c s Q) : Ew μ d pc ls (J a :: st) σ c s Q :=
  Ew_of (fun _ => x_lneg hf (by rw [Int64.ofInt_neg])) h
theorem w_lnegA {a : Int64} (hf : PP.1 μ pc = some (.lneg, len, act)) (h : ∀ z, inrJ z → Ew μ d (pc + 1) ls (J z :: st) σ c s Q) : Ew μ d pc ls (.long a :: st) σ c s Q :=
  Ew_of (fun _ => x_lneg hf (z := (-a).toInt) (toJ_of _).symm) (h _ (toJ_inr _))
theorem w_lZ (H : HS σ0 σ D N F A) {o n : Nat} {j : Int} (hf : PP.1 μ pc = some (.baload, len, act)) (hD : D o ≠ 0) (ha : t_arr o = true) (hk : t_ak o = 3) (hn : N o = n) (h0 : 0 ≤ j ∧ j < n) (hm : n ≤ 1000000) (hr : t_alo o = 0 ∧ t_ahi o = 1) (h : ∀ v, A o j = v → 0 ≤ v ∧ v ≤ 1 → Ew μ d (pc + 1) ls (I v :: st) σ c s Q) : Ew μ d pc ls (I j :: .ref (D o) :: st) σ c s Q := by
  obtain ⟨dv, ov, q1, q2⟩ := H.arr o hD ha
  have hr2 := H.arng o j
  rw [hr.1, hr.2] at hr2
  rw [hk] at q1
  refine Ew_of (fun _ e => x_baloadZ hf q1 (ofI_nn h0.1 (by omega)) (ofI_nat h0.1 (by omega)) (by omega) (w := Int32.ofInt (A o j)) ?_ ?_ e) (h _ rfl hr2)
  · rw [q2, hk, Int.toNat_of_nonneg h0.1]
    rfl
  · rcases (show A o j = 0 ∨ A o j = 1 by omega) with e | e <;> rw [e] <;> rfl
theorem w_sZ (H : HS σ0 σ D N F A) {o n : Nat} {j z : Int} (hf : PP.1 μ pc = some (.bastore, len, act)) (hD : D o ≠ 0) (ha : t_arr o = true) (hk : t_ak o = 3) (hn : N o = n) (h0 : 0 ≤ j ∧ j < n) (hm : n ≤ 1000000) (hr : t_alo o = 0 ∧ t_ahi o = 1) (h1 : 0 ≤ z ∧ z ≤ 1)
    (h : ∀ σ, HS σ0 σ D N F (updA A o j z) → Ew μ d (pc + 1) ls st σ c s Q) : Ew μ d pc ls (I z :: I j :: .ref (D o) :: st) σ c s Q := by
  obtain ⟨dv, ov, q1, q2⟩ := H.arr o hD ha
  have e := HS_sto H (j := j.toNat) (z := z) hD ha (by rw [hr.1]; exact h1.1) (by rw [hr.2]; exact h1.2) q1 q2
  rw [hk, Int.toNat_of_nonneg h0.1] at e
  obtain ⟨v, σₚ, cₚ, sₚ, h, q⟩ := h _ e
  rw [hk] at q1
  exact ⟨v, σₚ, cₚ, sₚ, x_bastoreZ hf q1 (ofI_nn h0.1 (by omega)) (ofI_nat h0.1 (by omega)) (by omega) (H.lo o hD) (by rcases (show z = 0 ∨ z = 1 by omega) with e | e <;> rw [e] <;> rfl) h, q⟩
end MORE
