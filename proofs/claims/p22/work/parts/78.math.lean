theorem su_eqs0 {sy : Int → Int} {s : Int} : ∀ {n : Nat}, (∀ k, (0 : Int) ≤ k → k < n → sy k ≠ s) → su (eqs sy s) n = 0
  | 0, _ => rfl
  | n + 1, h => by
    have e : su (eqs sy s) (n + 1) = su (eqs sy s) n + eqs sy s n := rfl
    have a := su_eqs0 (n := n) (fun k a b => h k a (by omega))
    have b := h n (by omega) (by omega)
    have c := eqs_eq sy s n
    omega
theorem su_pos64 {g : Int → Int} : su (fun i => pos1 (g i)) 64 ≤ 64 := by
  have a : su (fun i => pos1 (g i)) 64 ≤ su (fun _ => 1) 64 := su_le (fun i _ _ => by have := pos1_eq (g i); omega)
  have b : su (fun _ => (1 : Int)) 64 = 64 := by decide
  omega
