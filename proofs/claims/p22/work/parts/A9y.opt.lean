/-! rows that make printed texts quicker: numbers instead of lists -/
theorem ltn {α : Type} {V : List α} {n x : Nat} (h : V.length = n) (hx : Nat.ble (x + 1) n = true) : x < V.length := by
  rw [h]
  exact Nat.le_of_ble_eq_true hx
def dig (c x : Nat) : Nat := Nat.land (Nat.shiftRight c (Nat.mul 9 x)) 511
def puc {α : Type} (c : Nat) (f : Nat → α) : Nat → α := fun x => f (dig c x)
def enc : List Nat → Nat
  | [] => 0
  | a :: l => a + 512 * enc l
theorem dig_mod (c x : Nat) : dig c x = c / 2 ^ (9 * x) % 512 := by
  show (c >>> (9 * x)) &&& 511 = _
  rw [Nat.shiftRight_eq_div_pow]
  exact Nat.and_two_pow_sub_one_eq_mod _ 9
theorem dig_enc : ∀ {ι : List Nat} (_ : ι.all (fun a => Nat.blt a 512) = true) (x : Nat), dig (enc ι) x = ι.getD x 0
  | [], _, x => by
    rw [dig_mod]
    show 0 / 2 ^ (9 * x) % 512 = _
    rw [Nat.zero_div]
    rfl
  | a :: l, h, 0 => by
    have h1 : Nat.blt a 512 = true := (Bool.and_eq_true _ _ ▸ (show (Nat.blt a 512 && l.all (fun a => Nat.blt a 512)) = true from h)).1
    have h1 : a < 512 := Nat.le_of_ble_eq_true h1
    rw [dig_mod]
    show (a + 512 * enc l) / 2 ^ 0 % 512 = a
    rw [Nat.pow_zero, Nat.div_one]
    omega
  | a :: l, h, x + 1 => by
    have h1 := (Bool.and_eq_true _ _ ▸ (show (Nat.blt a 512 && l.all (fun a => Nat.blt a 512)) = true from h))
    have h2 : a < 512 := Nat.le_of_ble_eq_true h1.1
    have e := dig_enc h1.2 x
    rw [dig_mod] at e ⊢
    show (a + 512 * enc l) / 2 ^ (9 * (x + 1)) % 512 = l.getD x 0
    rw [← e, show 9 * (x + 1) = 9 + 9 * x by omega, Nat.pow_add, ← Nat.div_div_eq_div_mul, show (a + 512 * enc l) / 2 ^ 9 = enc l by omega]
def okc (ι : List Nat) (c : Nat) : Bool := ι.all (fun a => Nat.blt a 512) && Nat.beq (enc ι) c
theorem puc_eq {α : Type} {ι : List Nat} {c : Nat} {f : Nat → α} (h : okc ι c = true) : puc c f = pul ι f := by
  unfold okc at h
  rw [Bool.and_eq_true] at h
  rw [← Nat.eq_of_beq_eq_true h.2]
  exact funext fun x => by
    show f (dig (enc ι) x) = f (ι.getD x 0)
    rw [dig_enc h.1 x]
def tbz (m i : Nat) : Bool := Nat.beq (Nat.land (Nat.shiftRight m i) 1) 0
def SFm (m : Nat) (F G : hF) : Prop := ∀ o k, tbz m (Nat.add (Nat.mul 32 o) k) = true → G o k = F o k
def SAm (m : Nat) (A B : hA) : Prop := ∀ o, tbz m o = true → ∀ i, B o i = A o i
def SDm (m : Nat) (D E : Nat → Nat) : Prop := ∀ o, tbz m o = true → E o = D o
theorem SFm_of {l : List (Nat × Nat)} {m : Nat} {F G : hF} (h : SF l F G) (hm : l.all (fun p => !tbz m (Nat.add (Nat.mul 32 p.1) p.2)) = true) : SFm m F G := fun o k hb => h o k (by
  cases e : l.any (fun q => Nat.beq q.1 o && Nat.beq q.2 k) with
  | false => rfl
  | true =>
    obtain ⟨p, hp, hq⟩ := List.any_eq_true.mp e
    rw [Bool.and_eq_true] at hq
    have w := List.all_eq_true.mp hm p hp
    rw [Nat.eq_of_beq_eq_true hq.1, Nat.eq_of_beq_eq_true hq.2, hb] at w
    cases w)
theorem SAm_of {l : List Nat} {m : Nat} {A B : hA} (h : SA l A B) (hm : l.all (fun p => !tbz m p) = true) : SAm m A B := fun o hb => h o (by
  cases e : l.any (fun q => Nat.beq q o) with
  | false => rfl
  | true =>
    obtain ⟨p, hp, hq⟩ := List.any_eq_true.mp e
    have w := List.all_eq_true.mp hm p hp
    rw [Nat.eq_of_beq_eq_true hq, hb] at w
    cases w)
theorem SDm_of {l : List Nat} {m : Nat} {D E : Nat → Nat} (h : SD l D E) (hm : l.all (fun p => !tbz m p) = true) : SDm m D E := fun o hb => h o (by
  cases e : l.any (fun q => Nat.beq q o) with
  | false => rfl
  | true =>
    obtain ⟨p, hp, hq⟩ := List.any_eq_true.mp e
    have w := List.all_eq_true.mp hm p hp
    rw [Nat.eq_of_beq_eq_true hq, hb] at w
    cases w)
section OPT
variable {V : vV} {σ : rS} {D N : Nat → Nat} {F : hF} {A : hA} {c s : Nat}
theorem HW_subc {W : vV} {ι : List Nat} {cd : Nat} (H : HW V σ D N F A) (hs : vsub V W ι = true) (hc : okc ι cd = true) : HW W σ (puc cd D) (puc cd N) (puc cd F) (puc cd A) := by
  rw [puc_eq (f := D) hc, puc_eq (f := N) hc, puc_eq (f := F) hc, puc_eq (f := A) hc]
  exact HW_sub H (VS_of hs)
theorem v_backc {W : vV} {ι : List Nat} {cd : Nat} {σₚ : rS} {Fₚ : hF} {Aₚ : hA} {G : Prop} (H : HW V σ D N F A) (hs : vsub V W ι = true) (hc : okc ι cd = true) (Hₚ : HW W σₚ (puc cd D) (puc cd N) Fₚ Aₚ) (O : OUT W.length (puc cd D) (puc cd N) σ 0 0 (puc cd D) (puc cd N) σₚ 0 0)
    (h : ∀ F1 A1, HW V σₚ D N F1 A1 → OUT V.length D N σ c s D N σₚ c s → (∀ y k, F1 y k = glu ι F Fₚ y k) → (∀ y, A1 y = glu ι A Aₚ y) → G) : G := by
  rw [puc_eq (f := D) hc, puc_eq (f := N) hc] at Hₚ O
  exact v_back H hs Hₚ O h
theorem v_backMc {W : vV} {ι dl : List Nat} {cd : Nat} {σₚ : rS} {Dₚ Nₚ : Nat → Nat} {Fₚ : hF} {Aₚ : hA} {c1 s1 : Nat} {G : Prop} (H : HW V σ D N F A) (hs : vsub V W ι = true) (hc : okc ι cd = true) (Hₚ : HW W σₚ Dₚ Nₚ Fₚ Aₚ) (O : OUT W.length (puc cd D) (puc cd N) σ 0 0 Dₚ Nₚ σₚ c1 s1) (hd : SD dl (puc cd D) Dₚ) (hm : vmov V ι dl = true)
    (h : ∀ D1 N1 F1 A1, HW V σₚ D1 N1 F1 A1 → OUT V.length D N σ c s D1 N1 σₚ (c + c1) (s + s1) → (∀ y, D1 y = glu ι D Dₚ y) → (∀ y, N1 y = glu ι N Nₚ y) → (∀ y k, F1 y k = glu ι F Fₚ y k) → (∀ y, A1 y = glu ι A Aₚ y) → G) : G := by
  rw [puc_eq (f := D) hc, puc_eq (f := N) hc] at O
  rw [puc_eq (f := D) hc] at hd
  exact v_backM H hs Hₚ O hd hm h
theorem SF_gluc {ι : List Nat} {cd : Nat} {l lₚ : List (Nat × Nat)} {F Fₚ F1 : hF} (hc : okc ι cd = true) (h : SF l (puc cd F) Fₚ) (e : ∀ y k, F1 y k = glu ι F Fₚ y k) (hm : l.all (fun p => lₚ.any (fun q => Nat.beq q.1 (ι.getD p.1 0) && Nat.beq q.2 p.2)) = true) : SF lₚ F F1 := SF_glu (puc_eq (f := F) hc ▸ h) e hm
theorem SA_gluc {ι : List Nat} {cd : Nat} {l lₚ : List Nat} {A Aₚ A1 : hA} (hc : okc ι cd = true) (h : SA l (puc cd A) Aₚ) (e : ∀ y, A1 y = glu ι A Aₚ y) (hm : l.all (fun p => lₚ.any (fun q => Nat.beq q (ι.getD p 0))) = true) : SA lₚ A A1 := SA_glu (puc_eq (f := A) hc ▸ h) e hm
theorem SD_gluc {ι : List Nat} {cd : Nat} {l lₚ : List Nat} {D Dₚ D1 : Nat → Nat} (hc : okc ι cd = true) (h : SD l (puc cd D) Dₚ) (e : ∀ y, D1 y = glu ι D Dₚ y) (hm : l.all (fun p => lₚ.any (fun q => Nat.beq q (ι.getD p 0))) = true) : SD lₚ D D1 := SD_glu (puc_eq (f := D) hc ▸ h) e hm
end OPT
