def EXC (ce : Int → Int) (s lim : Int) : Prop := ∃ k, 0 ≤ k ∧ k < lim ∧ ce k = s
theorem EXC_new {ce : Int → Int} {s lim lim2 : Int} (h : 0 ≤ lim) (e : lim2 = lim + 1) : EXC (upd1 ce lim s) s lim2 := ⟨lim, h, by omega, upd1_s⟩
theorem CP_end {ce l : Int → Int} {T w s s2 lim : Int} (h : CP ce l T w s lim) (hs : s2 = s + 1) (h0 : 0 ≤ s) (q : T + 1 - l s = w → EXC ce s lim) : CP ce l T w s2 lim := CP_s h hs h0 (fun _ b => q b)
