/-! numbers of bytes, as a function of the bytes -/
def shlJ (a b : Int) : Int := (rsop 0 (Int64.ofInt a) (Int32.ofInt b)).toInt
def orJ (a b : Int) : Int := (rlop 4 (Int64.ofInt a) (Int64.ofInt b)).toInt
section ROWF
variable {σ : rS} {μ d pc c s : Nat} {ls : rO} {st : List Value} {Q : wQ} {len : Nat} {act : rA}
theorem w_lshlF {a : Int} (k m : Int) (hm : p2 k = m) (hk : 0 ≤ k ∧ k ≤ 63) (hf : PP.1 μ pc = some (.lshl, len, act)) (h : ∀ z, inrJ z → (inrJ (a * m) → z = a * m) → shlJ a k = z → Ew μ d (pc + 1) ls (J z :: st) σ c s Q) : Ew μ d pc ls (I k :: J a :: st) σ c s Q :=
  Ew_of (fun _ => x_lshl hf (z := shlJ a k) (toJ_of _).symm) (h _ (toJ_inr _) (fun q => by subst hm; unfold shlJ; rw [shl64 hk, toJ_ofJ q]) rfl)
theorem w_lorF {a b : Int} (hf : PP.1 μ pc = some (.lor, len, act)) (ha : inrJ a) (hb : inrJ b) (h : ∀ z, inrJ z → (0 ≤ a ∧ 0 ≤ b → 0 ≤ z ∧ z ≤ a + b) → orJ a b = z → Ew μ d (pc + 1) ls (J z :: st) σ c s Q) : Ew μ d pc ls (J b :: J a :: st) σ c s Q :=
  Ew_of (fun _ => x_lor hf (z := orJ a b) (toJ_of _).symm) (h _ (toJ_inr _) (fun q => orN64 ⟨q.1, ha⟩ ⟨q.2, hb⟩) rfl)
end ROWF
def nmb (d : Int → Int) (a n : Int) : Nat → Int
  | 0 => 0
  | k + 1 => orJ (shlJ (nmb d a n k) 8) (d (a + (n - 1 - k)) % 256)
theorem nmb_s {d : Int → Int} {a n k k2 i v x y z : Int} (k0 : 0 ≤ k) (e2 : k2 = k + 1) (hi : i = n - 1 - k) (ev : v = nmb d a n k.toNat) (ex : shlJ v 8 = x) (ey : d (a + i) % 256 = y) (ez : orJ x y = z) : z = nmb d a n k2.toNat := by
  rw [e2, show (k + 1).toNat = k.toNat + 1 by omega]
  show z = orJ (shlJ (nmb d a n k.toNat) 8) (d (a + (n - 1 - (k.toNat : Int))) % 256)
  rw [← ev, ex, show (n - 1 - ((k.toNat : Nat) : Int)) = i by omega, ey, ez]
/-- how many bytes tell the size -/
def sbt (h : Int) : Int := if 0 < h / 64 then p2 (h / 64) else if andI h 32 = 0 then 0 else 1
theorem sbt_1 {h z : Int} (e : z = h / 64) (q : 0 < z) : p2 z = sbt h := by
  unfold sbt
  rw [if_pos (by omega), e]
theorem sbt_2 {h : Int} (e : h / 64 ≤ 0) (q : andI h 32 = 0) : 0 = sbt h := by
  unfold sbt
  rw [if_neg (by omega), if_pos q]
theorem sbt_3 {h : Int} (e : h / 64 ≤ 0) (q : andI h 32 ≠ 0) : 1 = sbt h := by
  unfold sbt
  rw [if_neg (by omega), if_neg q]
theorem and23 {x : Int} (h : -128 ≤ x ∧ x ≤ 127) (q : andI x 2 ≠ 0) : andI x 3 = 2 ∨ andI x 3 = 3 := by
  have k : ∀ n : Fin 256, andI ((n.val : Int) - 128) 2 ≠ 0 → andI ((n.val : Int) - 128) 3 = 2 ∨ andI ((n.val : Int) - 128) 3 = 3 := by decide +kernel
  have := k ⟨(x + 128).toNat, by omega⟩
  rw [show (((x + 128).toNat : Nat) : Int) - 128 = x by omega] at this
  exact this q
/-! bits behind three states -/
def BSM (B0 B1 B2 : Int → Prop) (k v : Int) : Prop := ∀ x y z, B0 x → B1 y → B2 z → v = (if 0 < k then x else 0) + (if 1 < k then y else 0) + (if 2 < k then z else 0)
theorem BSM_0 {B0 B1 B2 : Int → Prop} : BSM B0 B1 B2 0 0 := fun x y z _ _ _ => by rw [if_neg (by omega), if_neg (by omega), if_neg (by omega)]; rfl
theorem BSM_a {B0 B1 B2 : Int → Prop} {k k2 v b w : Int} (h : BSM B0 B1 B2 k v) (e : k = 0) (e2 : k2 = k + 1) (hb : B0 b) (u : ∀ x y, B0 x → B0 y → x = y) (ew : w = v + b) : BSM B0 B1 B2 k2 w := fun x y z p q r => by
  have t := h x y z p q r
  have := u x b p hb
  subst e e2 ew
  rw [if_neg (by omega), if_neg (by omega), if_neg (by omega)] at t
  rw [if_pos (by omega), if_neg (by omega), if_neg (by omega)]
  omega
theorem BSM_b {B0 B1 B2 : Int → Prop} {k k2 v b w : Int} (h : BSM B0 B1 B2 k v) (e : k = 1) (e2 : k2 = k + 1) (hb : B1 b) (u : ∀ x y, B1 x → B1 y → x = y) (ew : w = v + b) : BSM B0 B1 B2 k2 w := fun x y z p q r => by
  have t := h x y z p q r
  have := u y b q hb
  subst e e2 ew
  rw [if_pos (by omega), if_neg (by omega), if_neg (by omega)] at t
  rw [if_pos (by omega), if_pos (by omega), if_neg (by omega)]
  omega
theorem BSM_c {B0 B1 B2 : Int → Prop} {k k2 v b w : Int} (h : BSM B0 B1 B2 k v) (e : k = 2) (e2 : k2 = k + 1) (hb : B2 b) (u : ∀ x y, B2 x → B2 y → x = y) (ew : w = v + b) : BSM B0 B1 B2 k2 w := fun x y z p q r => by
  have t := h x y z p q r
  have := u z b r hb
  subst e e2 ew
  rw [if_pos (by omega), if_pos (by omega), if_neg (by omega)] at t
  rw [if_pos (by omega), if_pos (by omega), if_pos (by omega)]
  omega
theorem BSM_3 {B0 B1 B2 : Int → Prop} {v : Int} (h : BSM B0 B1 B2 3 v) : ∀ x y z, B0 x → B1 y → B2 z → v = x + y + z := fun x y z p q r => by
  have t := h x y z p q r
  rw [if_pos (by omega), if_pos (by omega), if_pos (by omega)] at t
  exact t
theorem BB_ex {P M B S sy X pl : Int → Int} {n L k : Int} (h : SL P n L M B S sy X pl) (k0 : 0 ≤ k) (k1 : k < p2 L) : ∃ b, BB P L sy k b ∧ 0 ≤ b ∧ b ≤ L := by
  have q := BB_of h k0 k1 rfl rfl
  by_cases w : 0 < XN P sy k / p2 (L - B (sy k) + 1)
  · have r := q.2.2.1 w
    exact ⟨_, r, r.1, r.2.1⟩
  · have r := q.2.2.2 (by omega)
    exact ⟨_, r, r.1, r.2.1⟩
theorem stl_in (b : Nat) (lo hi : Int) (h : (stl b).all (fun z => decide (lo ≤ z ∧ z ≤ hi)) = true) {j : Nat} (hj : j < (stl b).length) {v : Int} (e : (stl b).getD j 0 = v) : lo ≤ v ∧ v ≤ hi := by
  rw [List.getD_eq_getElem?_getD, List.getElem?_eq_getElem hj] at e
  have := List.all_eq_true.mp h _ (List.getElem_mem hj)
  subst e
  exact of_decide_eq_true this
/-- the first states -/
def STJ (w : Int → Int) (k a b c : Int) : Prop := (0 < k → 0 ≤ w 0 ∧ w 0 < p2 a) ∧ (1 < k → 0 ≤ w 1 ∧ w 1 < p2 b) ∧ (2 < k → 0 ≤ w 2 ∧ w 2 < p2 c)
theorem STJ_0 {w : Int → Int} {a b c : Int} : STJ w 0 a b c := ⟨fun q => by omega, fun q => by omega, fun q => by omega⟩
theorem STJ_3 {w : Int → Int} {k a b c : Int} (h : STJ w k a b c) (e : k = 3) : (0 ≤ w 0 ∧ w 0 < p2 a) ∧ (0 ≤ w 1 ∧ w 1 < p2 b) ∧ (0 ≤ w 2 ∧ w 2 < p2 c) := ⟨h.1 (by omega), h.2.1 (by omega), h.2.2 (by omega)⟩
theorem STJ_s {w : Int → Int} {k k2 a b c v : Int} (h : STJ w k a b c) (e : k2 = k + 1) (hv : k = 0 ∧ 0 ≤ v ∧ v < p2 a ∨ k = 1 ∧ 0 ≤ v ∧ v < p2 b ∨ k = 2 ∧ 0 ≤ v ∧ v < p2 c) : STJ (upd1 w k v) k2 a b c := by
  obtain ⟨x, y, z⟩ := h
  refine ⟨fun q => ?_, fun q => ?_, fun q => ?_⟩
  · by_cases w0 : (0 : Int) = k
    · rw [w0, upd1_s]; omega
    · rw [upd1_o w0]; exact x (by omega)
  · by_cases w0 : (1 : Int) = k
    · rw [w0, upd1_s]; omega
    · rw [upd1_o w0]; exact y (by omega)
  · by_cases w0 : (2 : Int) = k
    · rw [w0, upd1_s]; omega
    · rw [upd1_o w0]; exact z (by omega)
/-- as many bits as the orders that are still to be taken -/
def LRM (l k a b c : Int) : Prop := (if k ≤ 0 then a else 0) + (if k ≤ 1 then b else 0) + (if k ≤ 2 then c else 0) ≤ l
theorem LRM_0 {l a b c : Int} (h : a + b + c ≤ l) : LRM l 0 a b c := by
  unfold LRM
  rw [if_pos (by omega), if_pos (by omega), if_pos (by omega)]
  exact h
theorem LRM_s {l m k kk a b c o : Int} (h : LRM l k a b c) (ab : 0 ≤ a ∧ 0 ≤ b ∧ 0 ≤ c) (e : kk = k + 1) (el : m = l - o) (ho : k = 0 ∧ o = a ∨ k = 1 ∧ o = b ∨ k = 2 ∧ o = c) : LRM m kk a b c ∧ 0 ≤ m := by
  subst e el
  unfold LRM at h ⊢
  rcases ho with ⟨q, w⟩ | ⟨q, w⟩ | ⟨q, w⟩
  · subst q w
    rw [if_pos (by omega), if_pos (by omega), if_pos (by omega)] at h
    rw [if_neg (by omega), if_pos (by omega), if_pos (by omega)]
    omega
  · subst q w
    rw [if_neg (by omega), if_pos (by omega), if_pos (by omega)] at h
    rw [if_neg (by omega), if_neg (by omega), if_pos (by omega)]
    omega
  · subst q w
    rw [if_neg (by omega), if_neg (by omega), if_pos (by omega)] at h
    rw [if_neg (by omega), if_neg (by omega), if_neg (by omega)]
    omega
