/-! the listing as a whole is right -/
set_option maxRecDepth 100000 in
theorem feaaaaaaa_ok {m pc : Nat} {f : rI} (h : feaaaaaaa m pc = some f) : decode (rB m) pc = .ok (f.1, f.2.1) ∧ rchk2 (rpool m) (rmaxl m) f.1 f.2.1 f.2.2 = true := by
  unfold feaaaaaaa at h
  rcases rcond2 h with ⟨hm, h⟩ | ⟨-, h⟩
  · rw [Nat.eq_of_beq_eq_true hm]; exact rck_ok (tb := tr0) (fun _ => rfl) ck0 h
  · skip
    rcases rcond2 h with ⟨hm, h⟩ | ⟨-, h⟩
    · rw [Nat.eq_of_beq_eq_true hm]; exact rck_ok (tb := tr1) (fun _ => rfl) ck1 h
    · skip
      rcases rcond2 h with ⟨hm, h⟩ | ⟨-, h⟩
      · rw [Nat.eq_of_beq_eq_true hm]; exact rck_ok (tb := tr2) (fun _ => rfl) ck2 h
      · cases h

set_option maxRecDepth 100000 in
theorem feaaaaaaba_ok {m pc : Nat} {f : rI} (h : feaaaaaaba m pc = some f) : decode (rB m) pc = .ok (f.1, f.2.1) ∧ rchk2 (rpool m) (rmaxl m) f.1 f.2.1 f.2.2 = true := by
  unfold feaaaaaaba at h
  rcases rcond2 h with ⟨hm, h⟩ | ⟨-, h⟩
  · rw [Nat.eq_of_beq_eq_true hm]; exact rck_ok (tb := tr3) (fun _ => rfl) ck3 h
  · skip
    rcases rcond2 h with ⟨hm, h⟩ | ⟨-, h⟩
    · rw [Nat.eq_of_beq_eq_true hm]; exact rck_ok (tb := tr4) (fun _ => rfl) ck4 h
    · cases h

set_option maxRecDepth 100000 in
theorem feaaaaaabb_ok {m pc : Nat} {f : rI} (h : feaaaaaabb m pc = some f) : decode (rB m) pc = .ok (f.1, f.2.1) ∧ rchk2 (rpool m) (rmaxl m) f.1 f.2.1 f.2.2 = true := by
  unfold feaaaaaabb at h
  rcases rcond2 h with ⟨hm, h⟩ | ⟨-, h⟩
  · rw [Nat.eq_of_beq_eq_true hm]; exact rck_ok (tb := tr5) (fun _ => rfl) ck5 h
  · skip
    rcases rcond2 h with ⟨hm, h⟩ | ⟨-, h⟩
    · rw [Nat.eq_of_beq_eq_true hm]; exact rck_ok (tb := tr6) (fun _ => rfl) ck6 h
    · cases h

set_option maxRecDepth 100000 in
theorem feaaaaaab_ok {m pc : Nat} {f : rI} (h : feaaaaaab m pc = some f) : decode (rB m) pc = .ok (f.1, f.2.1) ∧ rchk2 (rpool m) (rmaxl m) f.1 f.2.1 f.2.2 = true := by
  unfold feaaaaaab at h
  rcases rcond2 h with ⟨-, h⟩ | ⟨-, h⟩
  · exact feaaaaaaba_ok h
  · exact feaaaaaabb_ok h

set_option maxRecDepth 100000 in
theorem feaaaaaa_ok {m pc : Nat} {f : rI} (h : feaaaaaa m pc = some f) : decode (rB m) pc = .ok (f.1, f.2.1) ∧ rchk2 (rpool m) (rmaxl m) f.1 f.2.1 f.2.2 = true := by
  unfold feaaaaaa at h
  rcases rcond2 h with ⟨-, h⟩ | ⟨-, h⟩
  · exact feaaaaaaa_ok h
  · exact feaaaaaab_ok h

set_option maxRecDepth 100000 in
theorem feaaaaaba_ok {m pc : Nat} {f : rI} (h : feaaaaaba m pc = some f) : decode (rB m) pc = .ok (f.1, f.2.1) ∧ rchk2 (rpool m) (rmaxl m) f.1 f.2.1 f.2.2 = true := by
  unfold feaaaaaba at h
  rcases rcond2 h with ⟨hm, h⟩ | ⟨-, h⟩
  · rw [Nat.eq_of_beq_eq_true hm]; exact rck_ok (tb := tr7) (fun _ => rfl) ck7 h
  · skip
    rcases rcond2 h with ⟨hm, h⟩ | ⟨-, h⟩
    · rw [Nat.eq_of_beq_eq_true hm]; exact rck_ok (tb := tr8) (fun _ => rfl) ck8 h
    · skip
      rcases rcond2 h with ⟨hm, h⟩ | ⟨-, h⟩
      · rw [Nat.eq_of_beq_eq_true hm]; exact rck_ok (tb := tr9) (fun _ => rfl) ck9 h
      · cases h

set_option maxRecDepth 100000 in
theorem feaaaaabba_ok {m pc : Nat} {f : rI} (h : feaaaaabba m pc = some f) : decode (rB m) pc = .ok (f.1, f.2.1) ∧ rchk2 (rpool m) (rmaxl m) f.1 f.2.1 f.2.2 = true := by
  unfold feaaaaabba at h
  rcases rcond2 h with ⟨hm, h⟩ | ⟨-, h⟩
  · rw [Nat.eq_of_beq_eq_true hm]; exact rck_ok (tb := tr10) (fun _ => rfl) ck10 h
  · skip
    rcases rcond2 h with ⟨hm, h⟩ | ⟨-, h⟩
    · rw [Nat.eq_of_beq_eq_true hm]; exact rck_ok (tb := tr11) (fun _ => rfl) ck11 h
    · cases h

set_option maxRecDepth 100000 in
theorem feaaaaabbb_ok {m pc : Nat} {f : rI} (h : feaaaaabbb m pc = some f) : decode (rB m) pc = .ok (f.1, f.2.1) ∧ rchk2 (rpool m) (rmaxl m) f.1 f.2.1 f.2.2 = true := by
  unfold feaaaaabbb at h
  rcases rcond2 h with ⟨hm, h⟩ | ⟨-, h⟩
  · rw [Nat.eq_of_beq_eq_true hm]; exact rck_ok (tb := tr12) (fun _ => rfl) ck12 h
  · skip
    rcases rcond2 h with ⟨hm, h⟩ | ⟨-, h⟩
    · rw [Nat.eq_of_beq_eq_true hm]; exact rck_ok (tb := tr13) (fun _ => rfl) ck13 h
    · cases h

set_option maxRecDepth 100000 in
theorem feaaaaabb_ok {m pc : Nat} {f : rI} (h : feaaaaabb m pc = some f) : decode (rB m) pc = .ok (f.1, f.2.1) ∧ rchk2 (rpool m) (rmaxl m) f.1 f.2.1 f.2.2 = true := by
  unfold feaaaaabb at h
  rcases rcond2 h with ⟨-, h⟩ | ⟨-, h⟩
  · exact feaaaaabba_ok h
  · exact feaaaaabbb_ok h

set_option maxRecDepth 100000 in
theorem feaaaaab_ok {m pc : Nat} {f : rI} (h : feaaaaab m pc = some f) : decode (rB m) pc = .ok (f.1, f.2.1) ∧ rchk2 (rpool m) (rmaxl m) f.1 f.2.1 f.2.2 = true := by
  unfold feaaaaab at h
  rcases rcond2 h with ⟨-, h⟩ | ⟨-, h⟩
  · exact feaaaaaba_ok h
  · exact feaaaaabb_ok h

set_option maxRecDepth 100000 in
theorem feaaaaa_ok {m pc : Nat} {f : rI} (h : feaaaaa m pc = some f) : decode (rB m) pc = .ok (f.1, f.2.1) ∧ rchk2 (rpool m) (rmaxl m) f.1 f.2.1 f.2.2 = true := by
  unfold feaaaaa at h
  rcases rcond2 h with ⟨-, h⟩ | ⟨-, h⟩
  · exact feaaaaaa_ok h
  · exact feaaaaab_ok h

set_option maxRecDepth 100000 in
theorem feaaaabaa_ok {m pc : Nat} {f : rI} (h : feaaaabaa m pc = some f) : decode (rB m) pc = .ok (f.1, f.2.1) ∧ rchk2 (rpool m) (rmaxl m) f.1 f.2.1 f.2.2 = true := by
  unfold feaaaabaa at h
  rcases rcond2 h with ⟨hm, h⟩ | ⟨-, h⟩
  · rw [Nat.eq_of_beq_eq_true hm]; exact rck_ok (tb := tr14) (fun _ => rfl) ck14 h
  · skip
    rcases rcond2 h with ⟨hm, h⟩ | ⟨-, h⟩
    · rw [Nat.eq_of_beq_eq_true hm]; exact rck_ok (tb := tr15) (fun _ => rfl) ck15 h
    · skip
      rcases rcond2 h with ⟨hm, h⟩ | ⟨-, h⟩
      · rw [Nat.eq_of_beq_eq_true hm]; exact rck_ok (tb := tr16) (fun _ => rfl) ck16 h
      · cases h

set_option maxRecDepth 100000 in
theorem feaaaababa_ok {m pc : Nat} {f : rI} (h : feaaaababa m pc = some f) : decode (rB m) pc = .ok (f.1, f.2.1) ∧ rchk2 (rpool m) (rmaxl m) f.1 f.2.1 f.2.2 = true := by
  unfold feaaaababa at h
  rcases rcond2 h with ⟨hm, h⟩ | ⟨-, h⟩
  · rw [Nat.eq_of_beq_eq_true hm]; exact rck_ok (tb := tr17) (fun _ => rfl) ck17 h
  · skip
    rcases rcond2 h with ⟨hm, h⟩ | ⟨-, h⟩
    · rw [Nat.eq_of_beq_eq_true hm]; exact rck_ok (tb := tr18) (fun _ => rfl) ck18 h
    · cases h

set_option maxRecDepth 100000 in
theorem feaaaababb_ok {m pc : Nat} {f : rI} (h : feaaaababb m pc = some f) : decode (rB m) pc = .ok (f.1, f.2.1) ∧ rchk2 (rpool m) (rmaxl m) f.1 f.2.1 f.2.2 = true := by
  unfold feaaaababb at h
  rcases rcond2 h with ⟨hm, h⟩ | ⟨-, h⟩
  · rw [Nat.eq_of_beq_eq_true hm]; exact rck_ok (tb := tr19) (fun _ => rfl) ck19 h
  · skip
    rcases rcond2 h with ⟨hm, h⟩ | ⟨-, h⟩
    · rw [Nat.eq_of_beq_eq_true hm]; exact rck_ok (tb := tr20) (fun _ => rfl) ck20 h
    · cases h

set_option maxRecDepth 100000 in
theorem feaaaabab_ok {m pc : Nat} {f : rI} (h : feaaaabab m pc = some f) : decode (rB m) pc = .ok (f.1, f.2.1) ∧ rchk2 (rpool m) (rmaxl m) f.1 f.2.1 f.2.2 = true := by
  unfold feaaaabab at h
  rcases rcond2 h with ⟨-, h⟩ | ⟨-, h⟩
  · exact feaaaababa_ok h
  · exact feaaaababb_ok h

set_option maxRecDepth 100000 in
theorem feaaaaba_ok {m pc : Nat} {f : rI} (h : feaaaaba m pc = some f) : decode (rB m) pc = .ok (f.1, f.2.1) ∧ rchk2 (rpool m) (rmaxl m) f.1 f.2.1 f.2.2 = true := by
  unfold feaaaaba at h
  rcases rcond2 h with ⟨-, h⟩ | ⟨-, h⟩
  · exact feaaaabaa_ok h
  · exact feaaaabab_ok h

set_option maxRecDepth 100000 in
theorem feaaaabba_ok {m pc : Nat} {f : rI} (h : feaaaabba m pc = some f) : decode (rB m) pc = .ok (f.1, f.2.1) ∧ rchk2 (rpool m) (rmaxl m) f.1 f.2.1 f.2.2 = true := by
  unfold feaaaabba at h
  rcases rcond2 h with ⟨hm, h⟩ | ⟨-, h⟩
  · rw [Nat.eq_of_beq_eq_true hm]; exact rck_ok (tb := tr21) (fun _ => rfl) ck21 h
  · skip
    rcases rcond2 h with ⟨hm, h⟩ | ⟨-, h⟩
    · rw [Nat.eq_of_beq_eq_true hm]; exact rck_ok (tb := tr22) (fun _ => rfl) ck22 h
    · skip
      rcases rcond2 h with ⟨hm, h⟩ | ⟨-, h⟩
      · rw [Nat.eq_of_beq_eq_true hm]; exact rck_ok (tb := tr23) (fun _ => rfl) ck23 h
      · cases h

set_option maxRecDepth 100000 in
theorem feaaaabbba_ok {m pc : Nat} {f : rI} (h : feaaaabbba m pc = some f) : decode (rB m) pc = .ok (f.1, f.2.1) ∧ rchk2 (rpool m) (rmaxl m) f.1 f.2.1 f.2.2 = true := by
  unfold feaaaabbba at h
  rcases rcond2 h with ⟨hm, h⟩ | ⟨-, h⟩
  · rw [Nat.eq_of_beq_eq_true hm]; exact rck_ok (tb := tr24) (fun _ => rfl) ck24 h
  · skip
    rcases rcond2 h with ⟨hm, h⟩ | ⟨-, h⟩
    · rw [Nat.eq_of_beq_eq_true hm]; exact rck_ok (tb := tr25) (fun _ => rfl) ck25 h
    · cases h

set_option maxRecDepth 100000 in
theorem feaaaabbbb_ok {m pc : Nat} {f : rI} (h : feaaaabbbb m pc = some f) : decode (rB m) pc = .ok (f.1, f.2.1) ∧ rchk2 (rpool m) (rmaxl m) f.1 f.2.1 f.2.2 = true := by
  unfold feaaaabbbb at h
  rcases rcond2 h with ⟨hm, h⟩ | ⟨-, h⟩
  · rw [Nat.eq_of_beq_eq_true hm]; exact rck_ok (tb := tr26) (fun _ => rfl) ck26 h
  · skip
    rcases rcond2 h with ⟨hm, h⟩ | ⟨-, h⟩
    · rw [Nat.eq_of_beq_eq_true hm]; exact rck_ok (tb := tr27) (fun _ => rfl) ck27 h
    · cases h

set_option maxRecDepth 100000 in
theorem feaaaabbb_ok {m pc : Nat} {f : rI} (h : feaaaabbb m pc = some f) : decode (rB m) pc = .ok (f.1, f.2.1) ∧ rchk2 (rpool m) (rmaxl m) f.1 f.2.1 f.2.2 = true := by
  unfold feaaaabbb at h
  rcases rcond2 h with ⟨-, h⟩ | ⟨-, h⟩
  · exact feaaaabbba_ok h
  · exact feaaaabbbb_ok h

set_option maxRecDepth 100000 in
theorem feaaaabb_ok {m pc : Nat} {f : rI} (h : feaaaabb m pc = some f) : decode (rB m) pc = .ok (f.1, f.2.1) ∧ rchk2 (rpool m) (rmaxl m) f.1 f.2.1 f.2.2 = true := by
  unfold feaaaabb at h
  rcases rcond2 h with ⟨-, h⟩ | ⟨-, h⟩
  · exact feaaaabba_ok h
  · exact feaaaabbb_ok h

set_option maxRecDepth 100000 in
theorem feaaaab_ok {m pc : Nat} {f : rI} (h : feaaaab m pc = some f) : decode (rB m) pc = .ok (f.1, f.2.1) ∧ rchk2 (rpool m) (rmaxl m) f.1 f.2.1 f.2.2 = true := by
  unfold feaaaab at h
  rcases rcond2 h with ⟨-, h⟩ | ⟨-, h⟩
  · exact feaaaaba_ok h
  · exact feaaaabb_ok h

set_option maxRecDepth 100000 in
theorem feaaaa_ok {m pc : Nat} {f : rI} (h : feaaaa m pc = some f) : decode (rB m) pc = .ok (f.1, f.2.1) ∧ rchk2 (rpool m) (rmaxl m) f.1 f.2.1 f.2.2 = true := by
  unfold feaaaa at h
  rcases rcond2 h with ⟨-, h⟩ | ⟨-, h⟩
  · exact feaaaaa_ok h
  · exact feaaaab_ok h

set_option maxRecDepth 100000 in
theorem feaaabaaa_ok {m pc : Nat} {f : rI} (h : feaaabaaa m pc = some f) : decode (rB m) pc = .ok (f.1, f.2.1) ∧ rchk2 (rpool m) (rmaxl m) f.1 f.2.1 f.2.2 = true := by
  unfold feaaabaaa at h
  rcases rcond2 h with ⟨hm, h⟩ | ⟨-, h⟩
  · rw [Nat.eq_of_beq_eq_true hm]; exact rck_ok (tb := tr28) (fun _ => rfl) ck28 h
  · skip
    rcases rcond2 h with ⟨hm, h⟩ | ⟨-, h⟩
    · rw [Nat.eq_of_beq_eq_true hm]; exact rck_ok (tb := tr29) (fun _ => rfl) ck29 h
    · skip
      rcases rcond2 h with ⟨hm, h⟩ | ⟨-, h⟩
      · rw [Nat.eq_of_beq_eq_true hm]; exact rck_ok (tb := tr30) (fun _ => rfl) ck30 h
      · cases h

set_option maxRecDepth 100000 in
theorem feaaabaaba_ok {m pc : Nat} {f : rI} (h : feaaabaaba m pc = some f) : decode (rB m) pc = .ok (f.1, f.2.1) ∧ rchk2 (rpool m) (rmaxl m) f.1 f.2.1 f.2.2 = true := by
  unfold feaaabaaba at h
  rcases rcond2 h with ⟨hm, h⟩ | ⟨-, h⟩
  · rw [Nat.eq_of_beq_eq_true hm]; exact rck_ok (tb := tr31) (fun _ => rfl) ck31 h
  · skip
    rcases rcond2 h with ⟨hm, h⟩ | ⟨-, h⟩
    · rw [Nat.eq_of_beq_eq_true hm]; exact rck_ok (tb := tr32) (fun _ => rfl) ck32 h
    · cases h

set_option maxRecDepth 100000 in
theorem feaaabaabb_ok {m pc : Nat} {f : rI} (h : feaaabaabb m pc = some f) : decode (rB m) pc = .ok (f.1, f.2.1) ∧ rchk2 (rpool m) (rmaxl m) f.1 f.2.1 f.2.2 = true := by
  unfold feaaabaabb at h
  rcases rcond2 h with ⟨hm, h⟩ | ⟨-, h⟩
  · rw [Nat.eq_of_beq_eq_true hm]; exact rck_ok (tb := tr33) (fun _ => rfl) ck33 h
  · skip
    rcases rcond2 h with ⟨hm, h⟩ | ⟨-, h⟩
    · rw [Nat.eq_of_beq_eq_true hm]; exact rck_ok (tb := tr34) (fun _ => rfl) ck34 h
    · cases h

set_option maxRecDepth 100000 in
theorem feaaabaab_ok {m pc : Nat} {f : rI} (h : feaaabaab m pc = some f) : decode (rB m) pc = .ok (f.1, f.2.1) ∧ rchk2 (rpool m) (rmaxl m) f.1 f.2.1 f.2.2 = true := by
  unfold feaaabaab at h
  rcases rcond2 h with ⟨-, h⟩ | ⟨-, h⟩
  · exact feaaabaaba_ok h
  · exact feaaabaabb_ok h

set_option maxRecDepth 100000 in
theorem feaaabaa_ok {m pc : Nat} {f : rI} (h : feaaabaa m pc = some f) : decode (rB m) pc = .ok (f.1, f.2.1) ∧ rchk2 (rpool m) (rmaxl m) f.1 f.2.1 f.2.2 = true := by
  unfold feaaabaa at h
  rcases rcond2 h with ⟨-, h⟩ | ⟨-, h⟩
  · exact feaaabaaa_ok h
  · exact feaaabaab_ok h

set_option maxRecDepth 100000 in
theorem feaaababa_ok {m pc : Nat} {f : rI} (h : feaaababa m pc = some f) : decode (rB m) pc = .ok (f.1, f.2.1) ∧ rchk2 (rpool m) (rmaxl m) f.1 f.2.1 f.2.2 = true := by
  unfold feaaababa at h
  rcases rcond2 h with ⟨hm, h⟩ | ⟨-, h⟩
  · rw [Nat.eq_of_beq_eq_true hm]; exact rck_ok (tb := tr35) (fun _ => rfl) ck35 h
  · skip
    rcases rcond2 h with ⟨hm, h⟩ | ⟨-, h⟩
    · rw [Nat.eq_of_beq_eq_true hm]; exact rck_ok (tb := tr36) (fun _ => rfl) ck36 h
    · skip
      rcases rcond2 h with ⟨hm, h⟩ | ⟨-, h⟩
      · rw [Nat.eq_of_beq_eq_true hm]; exact rck_ok (tb := tr37) (fun _ => rfl) ck37 h
      · cases h

set_option maxRecDepth 100000 in
theorem feaaababba_ok {m pc : Nat} {f : rI} (h : feaaababba m pc = some f) : decode (rB m) pc = .ok (f.1, f.2.1) ∧ rchk2 (rpool m) (rmaxl m) f.1 f.2.1 f.2.2 = true := by
  unfold feaaababba at h
  rcases rcond2 h with ⟨hm, h⟩ | ⟨-, h⟩
  · rw [Nat.eq_of_beq_eq_true hm]; exact rck_ok (tb := tr38) (fun _ => rfl) ck38 h
  · skip
    rcases rcond2 h with ⟨hm, h⟩ | ⟨-, h⟩
    · rw [Nat.eq_of_beq_eq_true hm]; exact rck_ok (tb := tr39) (fun _ => rfl) ck39 h
    · cases h

set_option maxRecDepth 100000 in
theorem feaaababbb_ok {m pc : Nat} {f : rI} (h : feaaababbb m pc = some f) : decode (rB m) pc = .ok (f.1, f.2.1) ∧ rchk2 (rpool m) (rmaxl m) f.1 f.2.1 f.2.2 = true := by
  unfold feaaababbb at h
  rcases rcond2 h with ⟨hm, h⟩ | ⟨-, h⟩
  · rw [Nat.eq_of_beq_eq_true hm]; exact rck_ok (tb := tr40) (fun _ => rfl) ck40 h
  · skip
    rcases rcond2 h with ⟨hm, h⟩ | ⟨-, h⟩
    · rw [Nat.eq_of_beq_eq_true hm]; exact rck_ok (tb := tr41) (fun _ => rfl) ck41 h
    · cases h

set_option maxRecDepth 100000 in
theorem feaaababb_ok {m pc : Nat} {f : rI} (h : feaaababb m pc = some f) : decode (rB m) pc = .ok (f.1, f.2.1) ∧ rchk2 (rpool m) (rmaxl m) f.1 f.2.1 f.2.2 = true := by
  unfold feaaababb at h
  rcases rcond2 h with ⟨-, h⟩ | ⟨-, h⟩
  · exact feaaababba_ok h
  · exact feaaababbb_ok h

set_option maxRecDepth 100000 in
theorem feaaabab_ok {m pc : Nat} {f : rI} (h : feaaabab m pc = some f) : decode (rB m) pc = .ok (f.1, f.2.1) ∧ rchk2 (rpool m) (rmaxl m) f.1 f.2.1 f.2.2 = true := by
  unfold feaaabab at h
  rcases rcond2 h with ⟨-, h⟩ | ⟨-, h⟩
  · exact feaaababa_ok h
  · exact feaaababb_ok h

set_option maxRecDepth 100000 in
theorem feaaaba_ok {m pc : Nat} {f : rI} (h : feaaaba m pc = some f) : decode (rB m) pc = .ok (f.1, f.2.1) ∧ rchk2 (rpool m) (rmaxl m) f.1 f.2.1 f.2.2 = true := by
  unfold feaaaba at h
  rcases rcond2 h with ⟨-, h⟩ | ⟨-, h⟩
  · exact feaaabaa_ok h
  · exact feaaabab_ok h

set_option maxRecDepth 100000 in
theorem feaaabbaa_ok {m pc : Nat} {f : rI} (h : feaaabbaa m pc = some f) : decode (rB m) pc = .ok (f.1, f.2.1) ∧ rchk2 (rpool m) (rmaxl m) f.1 f.2.1 f.2.2 = true := by
  unfold feaaabbaa at h
  rcases rcond2 h with ⟨hm, h⟩ | ⟨-, h⟩
  · rw [Nat.eq_of_beq_eq_true hm]; exact rck_ok (tb := tr42) (fun _ => rfl) ck42 h
  · skip
    rcases rcond2 h with ⟨hm, h⟩ | ⟨-, h⟩
    · rw [Nat.eq_of_beq_eq_true hm]; exact rck_ok (tb := tr43) (fun _ => rfl) ck43 h
    · skip
      rcases rcond2 h with ⟨hm, h⟩ | ⟨-, h⟩
      · rw [Nat.eq_of_beq_eq_true hm]; exact rck_ok (tb := tr44) (fun _ => rfl) ck44 h
      · cases h

set_option maxRecDepth 100000 in
theorem feaaabbaba_ok {m pc : Nat} {f : rI} (h : feaaabbaba m pc = some f) : decode (rB m) pc = .ok (f.1, f.2.1) ∧ rchk2 (rpool m) (rmaxl m) f.1 f.2.1 f.2.2 = true := by
  unfold feaaabbaba at h
  rcases rcond2 h with ⟨hm, h⟩ | ⟨-, h⟩
  · rw [Nat.eq_of_beq_eq_true hm]; exact rck_ok (tb := tr45) (fun _ => rfl) ck45 h
  · skip
    rcases rcond2 h with ⟨hm, h⟩ | ⟨-, h⟩
    · rw [Nat.eq_of_beq_eq_true hm]; exact rck_ok (tb := tr46) (fun _ => rfl) ck46 h
    · cases h

set_option maxRecDepth 100000 in
theorem feaaabbabb_ok {m pc : Nat} {f : rI} (h : feaaabbabb m pc = some f) : decode (rB m) pc = .ok (f.1, f.2.1) ∧ rchk2 (rpool m) (rmaxl m) f.1 f.2.1 f.2.2 = true := by
  unfold feaaabbabb at h
  rcases rcond2 h with ⟨hm, h⟩ | ⟨-, h⟩
  · rw [Nat.eq_of_beq_eq_true hm]; exact rck_ok (tb := tr47) (fun _ => rfl) ck47 h
  · skip
    rcases rcond2 h with ⟨hm, h⟩ | ⟨-, h⟩
    · rw [Nat.eq_of_beq_eq_true hm]; exact rck_ok (tb := tr48) (fun _ => rfl) ck48 h
    · cases h

set_option maxRecDepth 100000 in
theorem feaaabbab_ok {m pc : Nat} {f : rI} (h : feaaabbab m pc = some f) : decode (rB m) pc = .ok (f.1, f.2.1) ∧ rchk2 (rpool m) (rmaxl m) f.1 f.2.1 f.2.2 = true := by
  unfold feaaabbab at h
  rcases rcond2 h with ⟨-, h⟩ | ⟨-, h⟩
  · exact feaaabbaba_ok h
  · exact feaaabbabb_ok h

set_option maxRecDepth 100000 in
theorem feaaabba_ok {m pc : Nat} {f : rI} (h : feaaabba m pc = some f) : decode (rB m) pc = .ok (f.1, f.2.1) ∧ rchk2 (rpool m) (rmaxl m) f.1 f.2.1 f.2.2 = true := by
  unfold feaaabba at h
  rcases rcond2 h with ⟨-, h⟩ | ⟨-, h⟩
  · exact feaaabbaa_ok h
  · exact feaaabbab_ok h

set_option maxRecDepth 100000 in
theorem feaaabbbaa_ok {m pc : Nat} {f : rI} (h : feaaabbbaa m pc = some f) : decode (rB m) pc = .ok (f.1, f.2.1) ∧ rchk2 (rpool m) (rmaxl m) f.1 f.2.1 f.2.2 = true := by
  unfold feaaabbbaa at h
  rcases rcond2 h with ⟨hm, h⟩ | ⟨-, h⟩
  · rw [Nat.eq_of_beq_eq_true hm]; exact rck_ok (tb := tr49) (fun _ => rfl) ck49 h
  · skip
    rcases rcond2 h with ⟨hm, h⟩ | ⟨-, h⟩
    · rw [Nat.eq_of_beq_eq_true hm]; exact rck_ok (tb := tr50) (fun _ => rfl) ck50 h
    · cases h

set_option maxRecDepth 100000 in
theorem feaaabbbab_ok {m pc : Nat} {f : rI} (h : feaaabbbab m pc = some f) : decode (rB m) pc = .ok (f.1, f.2.1) ∧ rchk2 (rpool m) (rmaxl m) f.1 f.2.1 f.2.2 = true := by
  unfold feaaabbbab at h
  rcases rcond2 h with ⟨hm, h⟩ | ⟨-, h⟩
  · rw [Nat.eq_of_beq_eq_true hm]; exact rck_ok (tb := tr51) (fun _ => rfl) ck51 h
  · skip
    rcases rcond2 h with ⟨hm, h⟩ | ⟨-, h⟩
    · rw [Nat.eq_of_beq_eq_true hm]; exact rck_ok (tb := tr52) (fun _ => rfl) ck52 h
    · cases h

set_option maxRecDepth 100000 in
theorem feaaabbba_ok {m pc : Nat} {f : rI} (h : feaaabbba m pc = some f) : decode (rB m) pc = .ok (f.1, f.2.1) ∧ rchk2 (rpool m) (rmaxl m) f.1 f.2.1 f.2.2 = true := by
  unfold feaaabbba at h
  rcases rcond2 h with ⟨-, h⟩ | ⟨-, h⟩
  · exact feaaabbbaa_ok h
  · exact feaaabbbab_ok h

set_option maxRecDepth 100000 in
theorem feaaabbbba_ok {m pc : Nat} {f : rI} (h : feaaabbbba m pc = some f) : decode (rB m) pc = .ok (f.1, f.2.1) ∧ rchk2 (rpool m) (rmaxl m) f.1 f.2.1 f.2.2 = true := by
  unfold feaaabbbba at h
  rcases rcond2 h with ⟨hm, h⟩ | ⟨-, h⟩
  · rw [Nat.eq_of_beq_eq_true hm]; exact rck_ok (tb := tr53) (fun _ => rfl) ck53 h
  · skip
    rcases rcond2 h with ⟨hm, h⟩ | ⟨-, h⟩
    · rw [Nat.eq_of_beq_eq_true hm]; exact rck_ok (tb := tr54) (fun _ => rfl) ck54 h
    · cases h

set_option maxRecDepth 100000 in
theorem feaaabbbbb_ok {m pc : Nat} {f : rI} (h : feaaabbbbb m pc = some f) : decode (rB m) pc = .ok (f.1, f.2.1) ∧ rchk2 (rpool m) (rmaxl m) f.1 f.2.1 f.2.2 = true := by
  unfold feaaabbbbb at h
  rcases rcond2 h with ⟨hm, h⟩ | ⟨-, h⟩
  · rw [Nat.eq_of_beq_eq_true hm]; exact rck_ok (tb := tr55) (fun _ => rfl) ck55 h
  · skip
    rcases rcond2 h with ⟨hm, h⟩ | ⟨-, h⟩
    · rw [Nat.eq_of_beq_eq_true hm]; exact rck_ok (tb := tr56) (fun _ => rfl) ck56 h
    · cases h

set_option maxRecDepth 100000 in
theorem feaaabbbb_ok {m pc : Nat} {f : rI} (h : feaaabbbb m pc = some f) : decode (rB m) pc = .ok (f.1, f.2.1) ∧ rchk2 (rpool m) (rmaxl m) f.1 f.2.1 f.2.2 = true := by
  unfold feaaabbbb at h
  rcases rcond2 h with ⟨-, h⟩ | ⟨-, h⟩
  · exact feaaabbbba_ok h
  · exact feaaabbbbb_ok h

set_option maxRecDepth 100000 in
theorem feaaabbb_ok {m pc : Nat} {f : rI} (h : feaaabbb m pc = some f) : decode (rB m) pc = .ok (f.1, f.2.1) ∧ rchk2 (rpool m) (rmaxl m) f.1 f.2.1 f.2.2 = true := by
  unfold feaaabbb at h
  rcases rcond2 h with ⟨-, h⟩ | ⟨-, h⟩
  · exact feaaabbba_ok h
  · exact feaaabbbb_ok h

set_option maxRecDepth 100000 in
theorem feaaabb_ok {m pc : Nat} {f : rI} (h : feaaabb m pc = some f) : decode (rB m) pc = .ok (f.1, f.2.1) ∧ rchk2 (rpool m) (rmaxl m) f.1 f.2.1 f.2.2 = true := by
  unfold feaaabb at h
  rcases rcond2 h with ⟨-, h⟩ | ⟨-, h⟩
  · exact feaaabba_ok h
  · exact feaaabbb_ok h

set_option maxRecDepth 100000 in
theorem feaaab_ok {m pc : Nat} {f : rI} (h : feaaab m pc = some f) : decode (rB m) pc = .ok (f.1, f.2.1) ∧ rchk2 (rpool m) (rmaxl m) f.1 f.2.1 f.2.2 = true := by
  unfold feaaab at h
  rcases rcond2 h with ⟨-, h⟩ | ⟨-, h⟩
  · exact feaaaba_ok h
  · exact feaaabb_ok h

set_option maxRecDepth 100000 in
theorem feaaa_ok {m pc : Nat} {f : rI} (h : feaaa m pc = some f) : decode (rB m) pc = .ok (f.1, f.2.1) ∧ rchk2 (rpool m) (rmaxl m) f.1 f.2.1 f.2.2 = true := by
  unfold feaaa at h
  rcases rcond2 h with ⟨-, h⟩ | ⟨-, h⟩
  · exact feaaaa_ok h
  · exact feaaab_ok h

set_option maxRecDepth 100000 in
theorem feaabaaaa_ok {m pc : Nat} {f : rI} (h : feaabaaaa m pc = some f) : decode (rB m) pc = .ok (f.1, f.2.1) ∧ rchk2 (rpool m) (rmaxl m) f.1 f.2.1 f.2.2 = true := by
  unfold feaabaaaa at h
  rcases rcond2 h with ⟨hm, h⟩ | ⟨-, h⟩
  · rw [Nat.eq_of_beq_eq_true hm]; exact rck_ok (tb := tr57) (fun _ => rfl) ck57 h
  · skip
    rcases rcond2 h with ⟨hm, h⟩ | ⟨-, h⟩
    · rw [Nat.eq_of_beq_eq_true hm]; exact rck_ok (tb := tr58) (fun _ => rfl) ck58 h
    · skip
      rcases rcond2 h with ⟨hm, h⟩ | ⟨-, h⟩
      · rw [Nat.eq_of_beq_eq_true hm]; exact rck_ok (tb := tr59) (fun _ => rfl) ck59 h
      · cases h

set_option maxRecDepth 100000 in
theorem feaabaaaba_ok {m pc : Nat} {f : rI} (h : feaabaaaba m pc = some f) : decode (rB m) pc = .ok (f.1, f.2.1) ∧ rchk2 (rpool m) (rmaxl m) f.1 f.2.1 f.2.2 = true := by
  unfold feaabaaaba at h
  rcases rcond2 h with ⟨hm, h⟩ | ⟨-, h⟩
  · rw [Nat.eq_of_beq_eq_true hm]; exact rck_ok (tb := tr60) (fun _ => rfl) ck60 h
  · skip
    rcases rcond2 h with ⟨hm, h⟩ | ⟨-, h⟩
    · rw [Nat.eq_of_beq_eq_true hm]; exact rck_ok (tb := tr61) (fun _ => rfl) ck61 h
    · cases h

set_option maxRecDepth 100000 in
theorem feaabaaabb_ok {m pc : Nat} {f : rI} (h : feaabaaabb m pc = some f) : decode (rB m) pc = .ok (f.1, f.2.1) ∧ rchk2 (rpool m) (rmaxl m) f.1 f.2.1 f.2.2 = true := by
  unfold feaabaaabb at h
  rcases rcond2 h with ⟨hm, h⟩ | ⟨-, h⟩
  · rw [Nat.eq_of_beq_eq_true hm]; exact rck_ok (tb := tr62) (fun _ => rfl) ck62 h
  · skip
    rcases rcond2 h with ⟨hm, h⟩ | ⟨-, h⟩
    · rw [Nat.eq_of_beq_eq_true hm]; exact rck_ok (tb := tr63) (fun _ => rfl) ck63 h
    · cases h

set_option maxRecDepth 100000 in
theorem feaabaaab_ok {m pc : Nat} {f : rI} (h : feaabaaab m pc = some f) : decode (rB m) pc = .ok (f.1, f.2.1) ∧ rchk2 (rpool m) (rmaxl m) f.1 f.2.1 f.2.2 = true := by
  unfold feaabaaab at h
  rcases rcond2 h with ⟨-, h⟩ | ⟨-, h⟩
  · exact feaabaaaba_ok h
  · exact feaabaaabb_ok h

set_option maxRecDepth 100000 in
theorem feaabaaa_ok {m pc : Nat} {f : rI} (h : feaabaaa m pc = some f) : decode (rB m) pc = .ok (f.1, f.2.1) ∧ rchk2 (rpool m) (rmaxl m) f.1 f.2.1 f.2.2 = true := by
  unfold feaabaaa at h
  rcases rcond2 h with ⟨-, h⟩ | ⟨-, h⟩
  · exact feaabaaaa_ok h
  · exact feaabaaab_ok h

set_option maxRecDepth 100000 in
theorem feaabaaba_ok {m pc : Nat} {f : rI} (h : feaabaaba m pc = some f) : decode (rB m) pc = .ok (f.1, f.2.1) ∧ rchk2 (rpool m) (rmaxl m) f.1 f.2.1 f.2.2 = true := by
  unfold feaabaaba at h
  rcases rcond2 h with ⟨hm, h⟩ | ⟨-, h⟩
  · rw [Nat.eq_of_beq_eq_true hm]; exact rck_ok (tb := tr64) (fun _ => rfl) ck64 h
  · skip
    rcases rcond2 h with ⟨hm, h⟩ | ⟨-, h⟩
    · rw [Nat.eq_of_beq_eq_true hm]; exact rck_ok (tb := tr65) (fun _ => rfl) ck65 h
    · skip
      rcases rcond2 h with ⟨hm, h⟩ | ⟨-, h⟩
      · rw [Nat.eq_of_beq_eq_true hm]; exact rck_ok (tb := tr66) (fun _ => rfl) ck66 h
      · cases h

set_option maxRecDepth 100000 in
theorem feaabaabba_ok {m pc : Nat} {f : rI} (h : feaabaabba m pc = some f) : decode (rB m) pc = .ok (f.1, f.2.1) ∧ rchk2 (rpool m) (rmaxl m) f.1 f.2.1 f.2.2 = true := by
  unfold feaabaabba at h
  rcases rcond2 h with ⟨hm, h⟩ | ⟨-, h⟩
  · rw [Nat.eq_of_beq_eq_true hm]; exact rck_ok (tb := tr67) (fun _ => rfl) ck67 h
  · skip
    rcases rcond2 h with ⟨hm, h⟩ | ⟨-, h⟩
    · rw [Nat.eq_of_beq_eq_true hm]; exact rck_ok (tb := tr68) (fun _ => rfl) ck68 h
    · cases h

set_option maxRecDepth 100000 in
theorem feaabaabbb_ok {m pc : Nat} {f : rI} (h : feaabaabbb m pc = some f) : decode (rB m) pc = .ok (f.1, f.2.1) ∧ rchk2 (rpool m) (rmaxl m) f.1 f.2.1 f.2.2 = true := by
  unfold feaabaabbb at h
  rcases rcond2 h with ⟨hm, h⟩ | ⟨-, h⟩
  · rw [Nat.eq_of_beq_eq_true hm]; exact rck_ok (tb := tr69) (fun _ => rfl) ck69 h
  · skip
    rcases rcond2 h with ⟨hm, h⟩ | ⟨-, h⟩
    · rw [Nat.eq_of_beq_eq_true hm]; exact rck_ok (tb := tr70) (fun _ => rfl) ck70 h
    · cases h

set_option maxRecDepth 100000 in
theorem feaabaabb_ok {m pc : Nat} {f : rI} (h : feaabaabb m pc = some f) : decode (rB m) pc = .ok (f.1, f.2.1) ∧ rchk2 (rpool m) (rmaxl m) f.1 f.2.1 f.2.2 = true := by
  unfold feaabaabb at h
  rcases rcond2 h with ⟨-, h⟩ | ⟨-, h⟩
  · exact feaabaabba_ok h
  · exact feaabaabbb_ok h

set_option maxRecDepth 100000 in
theorem feaabaab_ok {m pc : Nat} {f : rI} (h : feaabaab m pc = some f) : decode (rB m) pc = .ok (f.1, f.2.1) ∧ rchk2 (rpool m) (rmaxl m) f.1 f.2.1 f.2.2 = true := by
  unfold feaabaab at h
  rcases rcond2 h with ⟨-, h⟩ | ⟨-, h⟩
  · exact feaabaaba_ok h
  · exact feaabaabb_ok h

set_option maxRecDepth 100000 in
theorem feaabaa_ok {m pc : Nat} {f : rI} (h : feaabaa m pc = some f) : decode (rB m) pc = .ok (f.1, f.2.1) ∧ rchk2 (rpool m) (rmaxl m) f.1 f.2.1 f.2.2 = true := by
  unfold feaabaa at h
  rcases rcond2 h with ⟨-, h⟩ | ⟨-, h⟩
  · exact feaabaaa_ok h
  · exact feaabaab_ok h

set_option maxRecDepth 100000 in
theorem feaababaa_ok {m pc : Nat} {f : rI} (h : feaababaa m pc = some f) : decode (rB m) pc = .ok (f.1, f.2.1) ∧ rchk2 (rpool m) (rmaxl m) f.1 f.2.1 f.2.2 = true := by
  unfold feaababaa at h
  rcases rcond2 h with ⟨hm, h⟩ | ⟨-, h⟩
  · rw [Nat.eq_of_beq_eq_true hm]; exact rck_ok (tb := tr71) (fun _ => rfl) ck71 h
  · skip
    rcases rcond2 h with ⟨hm, h⟩ | ⟨-, h⟩
    · rw [Nat.eq_of_beq_eq_true hm]; exact rck_ok (tb := tr72) (fun _ => rfl) ck72 h
    · skip
      rcases rcond2 h with ⟨hm, h⟩ | ⟨-, h⟩
      · rw [Nat.eq_of_beq_eq_true hm]; exact rck_ok (tb := tr73) (fun _ => rfl) ck73 h
      · cases h

set_option maxRecDepth 100000 in
theorem feaabababa_ok {m pc : Nat} {f : rI} (h : feaabababa m pc = some f) : decode (rB m) pc = .ok (f.1, f.2.1) ∧ rchk2 (rpool m) (rmaxl m) f.1 f.2.1 f.2.2 = true := by
  unfold feaabababa at h
  rcases rcond2 h with ⟨hm, h⟩ | ⟨-, h⟩
  · rw [Nat.eq_of_beq_eq_true hm]; exact rck_ok (tb := tr74) (fun _ => rfl) ck74 h
  · skip
    rcases rcond2 h with ⟨hm, h⟩ | ⟨-, h⟩
    · rw [Nat.eq_of_beq_eq_true hm]; exact rck_ok (tb := tr75) (fun _ => rfl) ck75 h
    · cases h

set_option maxRecDepth 100000 in
theorem feaabababb_ok {m pc : Nat} {f : rI} (h : feaabababb m pc = some f) : decode (rB m) pc = .ok (f.1, f.2.1) ∧ rchk2 (rpool m) (rmaxl m) f.1 f.2.1 f.2.2 = true := by
  unfold feaabababb at h
  rcases rcond2 h with ⟨hm, h⟩ | ⟨-, h⟩
  · rw [Nat.eq_of_beq_eq_true hm]; exact rck_ok (tb := tr76) (fun _ => rfl) ck76 h
  · skip
    rcases rcond2 h with ⟨hm, h⟩ | ⟨-, h⟩
    · rw [Nat.eq_of_beq_eq_true hm]; exact rck_ok (tb := tr77) (fun _ => rfl) ck77 h
    · cases h

set_option maxRecDepth 100000 in
theorem feaababab_ok {m pc : Nat} {f : rI} (h : feaababab m pc = some f) : decode (rB m) pc = .ok (f.1, f.2.1) ∧ rchk2 (rpool m) (rmaxl m) f.1 f.2.1 f.2.2 = true := by
  unfold feaababab at h
  rcases rcond2 h with ⟨-, h⟩ | ⟨-, h⟩
  · exact feaabababa_ok h
  · exact feaabababb_ok h

set_option maxRecDepth 100000 in
theorem feaababa_ok {m pc : Nat} {f : rI} (h : feaababa m pc = some f) : decode (rB m) pc = .ok (f.1, f.2.1) ∧ rchk2 (rpool m) (rmaxl m) f.1 f.2.1 f.2.2 = true := by
  unfold feaababa at h
  rcases rcond2 h with ⟨-, h⟩ | ⟨-, h⟩
  · exact feaababaa_ok h
  · exact feaababab_ok h

set_option maxRecDepth 100000 in
theorem feaababbaa_ok {m pc : Nat} {f : rI} (h : feaababbaa m pc = some f) : decode (rB m) pc = .ok (f.1, f.2.1) ∧ rchk2 (rpool m) (rmaxl m) f.1 f.2.1 f.2.2 = true := by
  unfold feaababbaa at h
  rcases rcond2 h with ⟨hm, h⟩ | ⟨-, h⟩
  · rw [Nat.eq_of_beq_eq_true hm]; exact rck_ok (tb := tr78) (fun _ => rfl) ck78 h
  · skip
    rcases rcond2 h with ⟨hm, h⟩ | ⟨-, h⟩
    · rw [Nat.eq_of_beq_eq_true hm]; exact rck_ok (tb := tr79) (fun _ => rfl) ck79 h
    · cases h

set_option maxRecDepth 100000 in
theorem feaababbab_ok {m pc : Nat} {f : rI} (h : feaababbab m pc = some f) : decode (rB m) pc = .ok (f.1, f.2.1) ∧ rchk2 (rpool m) (rmaxl m) f.1 f.2.1 f.2.2 = true := by
  unfold feaababbab at h
  rcases rcond2 h with ⟨hm, h⟩ | ⟨-, h⟩
  · rw [Nat.eq_of_beq_eq_true hm]; exact rck_ok (tb := tr80) (fun _ => rfl) ck80 h
  · skip
    rcases rcond2 h with ⟨hm, h⟩ | ⟨-, h⟩
    · rw [Nat.eq_of_beq_eq_true hm]; exact rck_ok (tb := tr81) (fun _ => rfl) ck81 h
    · cases h

set_option maxRecDepth 100000 in
theorem feaababba_ok {m pc : Nat} {f : rI} (h : feaababba m pc = some f) : decode (rB m) pc = .ok (f.1, f.2.1) ∧ rchk2 (rpool m) (rmaxl m) f.1 f.2.1 f.2.2 = true := by
  unfold feaababba at h
  rcases rcond2 h with ⟨-, h⟩ | ⟨-, h⟩
  · exact feaababbaa_ok h
  · exact feaababbab_ok h

set_option maxRecDepth 100000 in
theorem feaababbba_ok {m pc : Nat} {f : rI} (h : feaababbba m pc = some f) : decode (rB m) pc = .ok (f.1, f.2.1) ∧ rchk2 (rpool m) (rmaxl m) f.1 f.2.1 f.2.2 = true := by
  unfold feaababbba at h
  rcases rcond2 h with ⟨hm, h⟩ | ⟨-, h⟩
  · rw [Nat.eq_of_beq_eq_true hm]; exact rck_ok (tb := tr82) (fun _ => rfl) ck82 h
  · skip
    rcases rcond2 h with ⟨hm, h⟩ | ⟨-, h⟩
    · rw [Nat.eq_of_beq_eq_true hm]; exact rck_ok (tb := tr83) (fun _ => rfl) ck83 h
    · cases h

set_option maxRecDepth 100000 in
theorem feaababbbb_ok {m pc : Nat} {f : rI} (h : feaababbbb m pc = some f) : decode (rB m) pc = .ok (f.1, f.2.1) ∧ rchk2 (rpool m) (rmaxl m) f.1 f.2.1 f.2.2 = true := by
  unfold feaababbbb at h
  rcases rcond2 h with ⟨hm, h⟩ | ⟨-, h⟩
  · rw [Nat.eq_of_beq_eq_true hm]; exact rck_ok (tb := tr84) (fun _ => rfl) ck84 h
  · skip
    rcases rcond2 h with ⟨hm, h⟩ | ⟨-, h⟩
    · rw [Nat.eq_of_beq_eq_true hm]; exact rck_ok (tb := tr85) (fun _ => rfl) ck85 h
    · cases h

set_option maxRecDepth 100000 in
theorem feaababbb_ok {m pc : Nat} {f : rI} (h : feaababbb m pc = some f) : decode (rB m) pc = .ok (f.1, f.2.1) ∧ rchk2 (rpool m) (rmaxl m) f.1 f.2.1 f.2.2 = true := by
  unfold feaababbb at h
  rcases rcond2 h with ⟨-, h⟩ | ⟨-, h⟩
  · exact feaababbba_ok h
  · exact feaababbbb_ok h

set_option maxRecDepth 100000 in
theorem feaababb_ok {m pc : Nat} {f : rI} (h : feaababb m pc = some f) : decode (rB m) pc = .ok (f.1, f.2.1) ∧ rchk2 (rpool m) (rmaxl m) f.1 f.2.1 f.2.2 = true := by
  unfold feaababb at h
  rcases rcond2 h with ⟨-, h⟩ | ⟨-, h⟩
  · exact feaababba_ok h
  · exact feaababbb_ok h

set_option maxRecDepth 100000 in
theorem feaabab_ok {m pc : Nat} {f : rI} (h : feaabab m pc = some f) : decode (rB m) pc = .ok (f.1, f.2.1) ∧ rchk2 (rpool m) (rmaxl m) f.1 f.2.1 f.2.2 = true := by
  unfold feaabab at h
  rcases rcond2 h with ⟨-, h⟩ | ⟨-, h⟩
  · exact feaababa_ok h
  · exact feaababb_ok h

set_option maxRecDepth 100000 in
theorem feaaba_ok {m pc : Nat} {f : rI} (h : feaaba m pc = some f) : decode (rB m) pc = .ok (f.1, f.2.1) ∧ rchk2 (rpool m) (rmaxl m) f.1 f.2.1 f.2.2 = true := by
  unfold feaaba at h
  rcases rcond2 h with ⟨-, h⟩ | ⟨-, h⟩
  · exact feaabaa_ok h
  · exact feaabab_ok h

set_option maxRecDepth 100000 in
theorem feaabbaaa_ok {m pc : Nat} {f : rI} (h : feaabbaaa m pc = some f) : decode (rB m) pc = .ok (f.1, f.2.1) ∧ rchk2 (rpool m) (rmaxl m) f.1 f.2.1 f.2.2 = true := by
  unfold feaabbaaa at h
  rcases rcond2 h with ⟨hm, h⟩ | ⟨-, h⟩
  · rw [Nat.eq_of_beq_eq_true hm]; exact rck_ok (tb := tr86) (fun _ => rfl) ck86 h
  · skip
    rcases rcond2 h with ⟨hm, h⟩ | ⟨-, h⟩
    · rw [Nat.eq_of_beq_eq_true hm]; exact rck_ok (tb := tr87) (fun _ => rfl) ck87 h
    · skip
      rcases rcond2 h with ⟨hm, h⟩ | ⟨-, h⟩
      · rw [Nat.eq_of_beq_eq_true hm]; exact rck_ok (tb := tr88) (fun _ => rfl) ck88 h
      · cases h

set_option maxRecDepth 100000 in
theorem feaabbaaba_ok {m pc : Nat} {f : rI} (h : feaabbaaba m pc = some f) : decode (rB m) pc = .ok (f.1, f.2.1) ∧ rchk2 (rpool m) (rmaxl m) f.1 f.2.1 f.2.2 = true := by
  unfold feaabbaaba at h
  rcases rcond2 h with ⟨hm, h⟩ | ⟨-, h⟩
  · rw [Nat.eq_of_beq_eq_true hm]; exact rck_ok (tb := tr89) (fun _ => rfl) ck89 h
  · skip
    rcases rcond2 h with ⟨hm, h⟩ | ⟨-, h⟩
    · rw [Nat.eq_of_beq_eq_true hm]; exact rck_ok (tb := tr90) (fun _ => rfl) ck90 h
    · cases h

set_option maxRecDepth 100000 in
theorem feaabbaabb_ok {m pc : Nat} {f : rI} (h : feaabbaabb m pc = some f) : decode (rB m) pc = .ok (f.1, f.2.1) ∧ rchk2 (rpool m) (rmaxl m) f.1 f.2.1 f.2.2 = true := by
  unfold feaabbaabb at h
  rcases rcond2 h with ⟨hm, h⟩ | ⟨-, h⟩
  · rw [Nat.eq_of_beq_eq_true hm]; exact rck_ok (tb := tr91) (fun _ => rfl) ck91 h
  · skip
    rcases rcond2 h with ⟨hm, h⟩ | ⟨-, h⟩
    · rw [Nat.eq_of_beq_eq_true hm]; exact rck_ok (tb := tr92) (fun _ => rfl) ck92 h
    · cases h

set_option maxRecDepth 100000 in
theorem feaabbaab_ok {m pc : Nat} {f : rI} (h : feaabbaab m pc = some f) : decode (rB m) pc = .ok (f.1, f.2.1) ∧ rchk2 (rpool m) (rmaxl m) f.1 f.2.1 f.2.2 = true := by
  unfold feaabbaab at h
  rcases rcond2 h with ⟨-, h⟩ | ⟨-, h⟩
  · exact feaabbaaba_ok h
  · exact feaabbaabb_ok h

set_option maxRecDepth 100000 in
theorem feaabbaa_ok {m pc : Nat} {f : rI} (h : feaabbaa m pc = some f) : decode (rB m) pc = .ok (f.1, f.2.1) ∧ rchk2 (rpool m) (rmaxl m) f.1 f.2.1 f.2.2 = true := by
  unfold feaabbaa at h
  rcases rcond2 h with ⟨-, h⟩ | ⟨-, h⟩
  · exact feaabbaaa_ok h
  · exact feaabbaab_ok h

set_option maxRecDepth 100000 in
theorem feaabbaba_ok {m pc : Nat} {f : rI} (h : feaabbaba m pc = some f) : decode (rB m) pc = .ok (f.1, f.2.1) ∧ rchk2 (rpool m) (rmaxl m) f.1 f.2.1 f.2.2 = true := by
  unfold feaabbaba at h
  rcases rcond2 h with ⟨hm, h⟩ | ⟨-, h⟩
  · rw [Nat.eq_of_beq_eq_true hm]; exact rck_ok (tb := tr93) (fun _ => rfl) ck93 h
  · skip
    rcases rcond2 h with ⟨hm, h⟩ | ⟨-, h⟩
    · rw [Nat.eq_of_beq_eq_true hm]; exact rck_ok (tb := tr94) (fun _ => rfl) ck94 h
    · skip
      rcases rcond2 h with ⟨hm, h⟩ | ⟨-, h⟩
      · rw [Nat.eq_of_beq_eq_true hm]; exact rck_ok (tb := tr95) (fun _ => rfl) ck95 h
      · cases h

set_option maxRecDepth 100000 in
theorem feaabbabba_ok {m pc : Nat} {f : rI} (h : feaabbabba m pc = some f) : decode (rB m) pc = .ok (f.1, f.2.1) ∧ rchk2 (rpool m) (rmaxl m) f.1 f.2.1 f.2.2 = true := by
  unfold feaabbabba at h
  rcases rcond2 h with ⟨hm, h⟩ | ⟨-, h⟩
  · rw [Nat.eq_of_beq_eq_true hm]; exact rck_ok (tb := tr96) (fun _ => rfl) ck96 h
  · skip
    rcases rcond2 h with ⟨hm, h⟩ | ⟨-, h⟩
    · rw [Nat.eq_of_beq_eq_true hm]; exact rck_ok (tb := tr97) (fun _ => rfl) ck97 h
    · cases h

set_option maxRecDepth 100000 in
theorem feaabbabbb_ok {m pc : Nat} {f : rI} (h : feaabbabbb m pc = some f) : decode (rB m) pc = .ok (f.1, f.2.1) ∧ rchk2 (rpool m) (rmaxl m) f.1 f.2.1 f.2.2 = true := by
  unfold feaabbabbb at h
  rcases rcond2 h with ⟨hm, h⟩ | ⟨-, h⟩
  · rw [Nat.eq_of_beq_eq_true hm]; exact rck_ok (tb := tr98) (fun _ => rfl) ck98 h
  · skip
    rcases rcond2 h with ⟨hm, h⟩ | ⟨-, h⟩
    · rw [Nat.eq_of_beq_eq_true hm]; exact rck_ok (tb := tr99) (fun _ => rfl) ck99 h
    · cases h

set_option maxRecDepth 100000 in
theorem feaabbabb_ok {m pc : Nat} {f : rI} (h : feaabbabb m pc = some f) : decode (rB m) pc = .ok (f.1, f.2.1) ∧ rchk2 (rpool m) (rmaxl m) f.1 f.2.1 f.2.2 = true := by
  unfold feaabbabb at h
  rcases rcond2 h with ⟨-, h⟩ | ⟨-, h⟩
  · exact feaabbabba_ok h
  · exact feaabbabbb_ok h

set_option maxRecDepth 100000 in
theorem feaabbab_ok {m pc : Nat} {f : rI} (h : feaabbab m pc = some f) : decode (rB m) pc = .ok (f.1, f.2.1) ∧ rchk2 (rpool m) (rmaxl m) f.1 f.2.1 f.2.2 = true := by
  unfold feaabbab at h
  rcases rcond2 h with ⟨-, h⟩ | ⟨-, h⟩
  · exact feaabbaba_ok h
  · exact feaabbabb_ok h

set_option maxRecDepth 100000 in
theorem feaabba_ok {m pc : Nat} {f : rI} (h : feaabba m pc = some f) : decode (rB m) pc = .ok (f.1, f.2.1) ∧ rchk2 (rpool m) (rmaxl m) f.1 f.2.1 f.2.2 = true := by
  unfold feaabba at h
  rcases rcond2 h with ⟨-, h⟩ | ⟨-, h⟩
  · exact feaabbaa_ok h
  · exact feaabbab_ok h

set_option maxRecDepth 100000 in
theorem feaabbbaa_ok {m pc : Nat} {f : rI} (h : feaabbbaa m pc = some f) : decode (rB m) pc = .ok (f.1, f.2.1) ∧ rchk2 (rpool m) (rmaxl m) f.1 f.2.1 f.2.2 = true := by
  unfold feaabbbaa at h
  rcases rcond2 h with ⟨hm, h⟩ | ⟨-, h⟩
  · rw [Nat.eq_of_beq_eq_true hm]; exact rck_ok (tb := tr100) (fun _ => rfl) ck100 h
  · skip
    rcases rcond2 h with ⟨hm, h⟩ | ⟨-, h⟩
    · rw [Nat.eq_of_beq_eq_true hm]; exact rck_ok (tb := tr101) (fun _ => rfl) ck101 h
    · skip
      rcases rcond2 h with ⟨hm, h⟩ | ⟨-, h⟩
      · rw [Nat.eq_of_beq_eq_true hm]; exact rck_ok (tb := tr102) (fun _ => rfl) ck102 h
      · cases h

set_option maxRecDepth 100000 in
theorem feaabbbaba_ok {m pc : Nat} {f : rI} (h : feaabbbaba m pc = some f) : decode (rB m) pc = .ok (f.1, f.2.1) ∧ rchk2 (rpool m) (rmaxl m) f.1 f.2.1 f.2.2 = true := by
  unfold feaabbbaba at h
  rcases rcond2 h with ⟨hm, h⟩ | ⟨-, h⟩
  · rw [Nat.eq_of_beq_eq_true hm]; exact rck_ok (tb := tr103) (fun _ => rfl) ck103 h
  · skip
    rcases rcond2 h with ⟨hm, h⟩ | ⟨-, h⟩
    · rw [Nat.eq_of_beq_eq_true hm]; exact rck_ok (tb := tr104) (fun _ => rfl) ck104 h
    · cases h

set_option maxRecDepth 100000 in
theorem feaabbbabb_ok {m pc : Nat} {f : rI} (h : feaabbbabb m pc = some f) : decode (rB m) pc = .ok (f.1, f.2.1) ∧ rchk2 (rpool m) (rmaxl m) f.1 f.2.1 f.2.2 = true := by
  unfold feaabbbabb at h
  rcases rcond2 h with ⟨hm, h⟩ | ⟨-, h⟩
  · rw [Nat.eq_of_beq_eq_true hm]; exact rck_ok (tb := tr105) (fun _ => rfl) ck105 h
  · skip
    rcases rcond2 h with ⟨hm, h⟩ | ⟨-, h⟩
    · rw [Nat.eq_of_beq_eq_true hm]; exact rck_ok (tb := tr106) (fun _ => rfl) ck106 h
    · cases h

set_option maxRecDepth 100000 in
theorem feaabbbab_ok {m pc : Nat} {f : rI} (h : feaabbbab m pc = some f) : decode (rB m) pc = .ok (f.1, f.2.1) ∧ rchk2 (rpool m) (rmaxl m) f.1 f.2.1 f.2.2 = true := by
  unfold feaabbbab at h
  rcases rcond2 h with ⟨-, h⟩ | ⟨-, h⟩
  · exact feaabbbaba_ok h
  · exact feaabbbabb_ok h

set_option maxRecDepth 100000 in
theorem feaabbba_ok {m pc : Nat} {f : rI} (h : feaabbba m pc = some f) : decode (rB m) pc = .ok (f.1, f.2.1) ∧ rchk2 (rpool m) (rmaxl m) f.1 f.2.1 f.2.2 = true := by
  unfold feaabbba at h
  rcases rcond2 h with ⟨-, h⟩ | ⟨-, h⟩
  · exact feaabbbaa_ok h
  · exact feaabbbab_ok h

set_option maxRecDepth 100000 in
theorem feaabbbbaa_ok {m pc : Nat} {f : rI} (h : feaabbbbaa m pc = some f) : decode (rB m) pc = .ok (f.1, f.2.1) ∧ rchk2 (rpool m) (rmaxl m) f.1 f.2.1 f.2.2 = true := by
  unfold feaabbbbaa at h
  rcases rcond2 h with ⟨hm, h⟩ | ⟨-, h⟩
  · rw [Nat.eq_of_beq_eq_true hm]; exact rck_ok (tb := tr107) (fun _ => rfl) ck107 h
  · skip
    rcases rcond2 h with ⟨hm, h⟩ | ⟨-, h⟩
    · rw [Nat.eq_of_beq_eq_true hm]; exact rck_ok (tb := tr108) (fun _ => rfl) ck108 h
    · cases h

set_option maxRecDepth 100000 in
theorem feaabbbbab_ok {m pc : Nat} {f : rI} (h : feaabbbbab m pc = some f) : decode (rB m) pc = .ok (f.1, f.2.1) ∧ rchk2 (rpool m) (rmaxl m) f.1 f.2.1 f.2.2 = true := by
  unfold feaabbbbab at h
  rcases rcond2 h with ⟨hm, h⟩ | ⟨-, h⟩
  · rw [Nat.eq_of_beq_eq_true hm]; exact rck_ok (tb := tr109) (fun _ => rfl) ck109 h
  · skip
    rcases rcond2 h with ⟨hm, h⟩ | ⟨-, h⟩
    · rw [Nat.eq_of_beq_eq_true hm]; exact rck_ok (tb := tr110) (fun _ => rfl) ck110 h
    · cases h

set_option maxRecDepth 100000 in
theorem feaabbbba_ok {m pc : Nat} {f : rI} (h : feaabbbba m pc = some f) : decode (rB m) pc = .ok (f.1, f.2.1) ∧ rchk2 (rpool m) (rmaxl m) f.1 f.2.1 f.2.2 = true := by
  unfold feaabbbba at h
  rcases rcond2 h with ⟨-, h⟩ | ⟨-, h⟩
  · exact feaabbbbaa_ok h
  · exact feaabbbbab_ok h

set_option maxRecDepth 100000 in
theorem feaabbbbba_ok {m pc : Nat} {f : rI} (h : feaabbbbba m pc = some f) : decode (rB m) pc = .ok (f.1, f.2.1) ∧ rchk2 (rpool m) (rmaxl m) f.1 f.2.1 f.2.2 = true := by
  unfold feaabbbbba at h
  rcases rcond2 h with ⟨hm, h⟩ | ⟨-, h⟩
  · rw [Nat.eq_of_beq_eq_true hm]; exact rck_ok (tb := tr111) (fun _ => rfl) ck111 h
  · skip
    rcases rcond2 h with ⟨hm, h⟩ | ⟨-, h⟩
    · rw [Nat.eq_of_beq_eq_true hm]; exact rck_ok (tb := tr112) (fun _ => rfl) ck112 h
    · cases h

set_option maxRecDepth 100000 in
theorem feaabbbbbb_ok {m pc : Nat} {f : rI} (h : feaabbbbbb m pc = some f) : decode (rB m) pc = .ok (f.1, f.2.1) ∧ rchk2 (rpool m) (rmaxl m) f.1 f.2.1 f.2.2 = true := by
  unfold feaabbbbbb at h
  rcases rcond2 h with ⟨hm, h⟩ | ⟨-, h⟩
  · rw [Nat.eq_of_beq_eq_true hm]; exact rck_ok (tb := tr113) (fun _ => rfl) ck113 h
  · skip
    rcases rcond2 h with ⟨hm, h⟩ | ⟨-, h⟩
    · rw [Nat.eq_of_beq_eq_true hm]; exact rck_ok (tb := tr114) (fun _ => rfl) ck114 h
    · cases h

set_option maxRecDepth 100000 in
theorem feaabbbbb_ok {m pc : Nat} {f : rI} (h : feaabbbbb m pc = some f) : decode (rB m) pc = .ok (f.1, f.2.1) ∧ rchk2 (rpool m) (rmaxl m) f.1 f.2.1 f.2.2 = true := by
  unfold feaabbbbb at h
  rcases rcond2 h with ⟨-, h⟩ | ⟨-, h⟩
  · exact feaabbbbba_ok h
  · exact feaabbbbbb_ok h

set_option maxRecDepth 100000 in
theorem feaabbbb_ok {m pc : Nat} {f : rI} (h : feaabbbb m pc = some f) : decode (rB m) pc = .ok (f.1, f.2.1) ∧ rchk2 (rpool m) (rmaxl m) f.1 f.2.1 f.2.2 = true := by
  unfold feaabbbb at h
  rcases rcond2 h with ⟨-, h⟩ | ⟨-, h⟩
  · exact feaabbbba_ok h
  · exact feaabbbbb_ok h

set_option maxRecDepth 100000 in
theorem feaabbb_ok {m pc : Nat} {f : rI} (h : feaabbb m pc = some f) : decode (rB m) pc = .ok (f.1, f.2.1) ∧ rchk2 (rpool m) (rmaxl m) f.1 f.2.1 f.2.2 = true := by
  unfold feaabbb at h
  rcases rcond2 h with ⟨-, h⟩ | ⟨-, h⟩
  · exact feaabbba_ok h
  · exact feaabbbb_ok h

set_option maxRecDepth 100000 in
theorem feaabb_ok {m pc : Nat} {f : rI} (h : feaabb m pc = some f) : decode (rB m) pc = .ok (f.1, f.2.1) ∧ rchk2 (rpool m) (rmaxl m) f.1 f.2.1 f.2.2 = true := by
  unfold feaabb at h
  rcases rcond2 h with ⟨-, h⟩ | ⟨-, h⟩
  · exact feaabba_ok h
  · exact feaabbb_ok h

set_option maxRecDepth 100000 in
theorem feaab_ok {m pc : Nat} {f : rI} (h : feaab m pc = some f) : decode (rB m) pc = .ok (f.1, f.2.1) ∧ rchk2 (rpool m) (rmaxl m) f.1 f.2.1 f.2.2 = true := by
  unfold feaab at h
  rcases rcond2 h with ⟨-, h⟩ | ⟨-, h⟩
  · exact feaaba_ok h
  · exact feaabb_ok h

set_option maxRecDepth 100000 in
theorem feaa_ok {m pc : Nat} {f : rI} (h : feaa m pc = some f) : decode (rB m) pc = .ok (f.1, f.2.1) ∧ rchk2 (rpool m) (rmaxl m) f.1 f.2.1 f.2.2 = true := by
  unfold feaa at h
  rcases rcond2 h with ⟨-, h⟩ | ⟨-, h⟩
  · exact feaaa_ok h
  · exact feaab_ok h

set_option maxRecDepth 100000 in
theorem feabaaaaa_ok {m pc : Nat} {f : rI} (h : feabaaaaa m pc = some f) : decode (rB m) pc = .ok (f.1, f.2.1) ∧ rchk2 (rpool m) (rmaxl m) f.1 f.2.1 f.2.2 = true := by
  unfold feabaaaaa at h
  rcases rcond2 h with ⟨hm, h⟩ | ⟨-, h⟩
  · rw [Nat.eq_of_beq_eq_true hm]; exact rck_ok (tb := tr115) (fun _ => rfl) ck115 h
  · skip
    rcases rcond2 h with ⟨hm, h⟩ | ⟨-, h⟩
    · rw [Nat.eq_of_beq_eq_true hm]; exact rck_ok (tb := tr116) (fun _ => rfl) ck116 h
    · skip
      rcases rcond2 h with ⟨hm, h⟩ | ⟨-, h⟩
      · rw [Nat.eq_of_beq_eq_true hm]; exact rck_ok (tb := tr117) (fun _ => rfl) ck117 h
      · cases h

set_option maxRecDepth 100000 in
theorem feabaaaaba_ok {m pc : Nat} {f : rI} (h : feabaaaaba m pc = some f) : decode (rB m) pc = .ok (f.1, f.2.1) ∧ rchk2 (rpool m) (rmaxl m) f.1 f.2.1 f.2.2 = true := by
  unfold feabaaaaba at h
  rcases rcond2 h with ⟨hm, h⟩ | ⟨-, h⟩
  · rw [Nat.eq_of_beq_eq_true hm]; exact rck_ok (tb := tr118) (fun _ => rfl) ck118 h
  · skip
    rcases rcond2 h with ⟨hm, h⟩ | ⟨-, h⟩
    · rw [Nat.eq_of_beq_eq_true hm]; exact rck_ok (tb := tr119) (fun _ => rfl) ck119 h
    · cases h

set_option maxRecDepth 100000 in
theorem feabaaaabb_ok {m pc : Nat} {f : rI} (h : feabaaaabb m pc = some f) : decode (rB m) pc = .ok (f.1, f.2.1) ∧ rchk2 (rpool m) (rmaxl m) f.1 f.2.1 f.2.2 = true := by
  unfold feabaaaabb at h
  rcases rcond2 h with ⟨hm, h⟩ | ⟨-, h⟩
  · rw [Nat.eq_of_beq_eq_true hm]; exact rck_ok (tb := tr120) (fun _ => rfl) ck120 h
  · skip
    rcases rcond2 h with ⟨hm, h⟩ | ⟨-, h⟩
    · rw [Nat.eq_of_beq_eq_true hm]; exact rck_ok (tb := tr121) (fun _ => rfl) ck121 h
    · cases h

set_option maxRecDepth 100000 in
theorem feabaaaab_ok {m pc : Nat} {f : rI} (h : feabaaaab m pc = some f) : decode (rB m) pc = .ok (f.1, f.2.1) ∧ rchk2 (rpool m) (rmaxl m) f.1 f.2.1 f.2.2 = true := by
  unfold feabaaaab at h
  rcases rcond2 h with ⟨-, h⟩ | ⟨-, h⟩
  · exact feabaaaaba_ok h
  · exact feabaaaabb_ok h

set_option maxRecDepth 100000 in
theorem feabaaaa_ok {m pc : Nat} {f : rI} (h : feabaaaa m pc = some f) : decode (rB m) pc = .ok (f.1, f.2.1) ∧ rchk2 (rpool m) (rmaxl m) f.1 f.2.1 f.2.2 = true := by
  unfold feabaaaa at h
  rcases rcond2 h with ⟨-, h⟩ | ⟨-, h⟩
  · exact feabaaaaa_ok h
  · exact feabaaaab_ok h

set_option maxRecDepth 100000 in
theorem feabaaaba_ok {m pc : Nat} {f : rI} (h : feabaaaba m pc = some f) : decode (rB m) pc = .ok (f.1, f.2.1) ∧ rchk2 (rpool m) (rmaxl m) f.1 f.2.1 f.2.2 = true := by
  unfold feabaaaba at h
  rcases rcond2 h with ⟨hm, h⟩ | ⟨-, h⟩
  · rw [Nat.eq_of_beq_eq_true hm]; exact rck_ok (tb := tr122) (fun _ => rfl) ck122 h
  · skip
    rcases rcond2 h with ⟨hm, h⟩ | ⟨-, h⟩
    · rw [Nat.eq_of_beq_eq_true hm]; exact rck_ok (tb := tr123) (fun _ => rfl) ck123 h
    · skip
      rcases rcond2 h with ⟨hm, h⟩ | ⟨-, h⟩
      · rw [Nat.eq_of_beq_eq_true hm]; exact rck_ok (tb := tr124) (fun _ => rfl) ck124 h
      · cases h

set_option maxRecDepth 100000 in
theorem feabaaabba_ok {m pc : Nat} {f : rI} (h : feabaaabba m pc = some f) : decode (rB m) pc = .ok (f.1, f.2.1) ∧ rchk2 (rpool m) (rmaxl m) f.1 f.2.1 f.2.2 = true := by
  unfold feabaaabba at h
  rcases rcond2 h with ⟨hm, h⟩ | ⟨-, h⟩
  · rw [Nat.eq_of_beq_eq_true hm]; exact rck_ok (tb := tr125) (fun _ => rfl) ck125 h
  · skip
    rcases rcond2 h with ⟨hm, h⟩ | ⟨-, h⟩
    · rw [Nat.eq_of_beq_eq_true hm]; exact rck_ok (tb := tr126) (fun _ => rfl) ck126 h
    · cases h

set_option maxRecDepth 100000 in
theorem feabaaabbb_ok {m pc : Nat} {f : rI} (h : feabaaabbb m pc = some f) : decode (rB m) pc = .ok (f.1, f.2.1) ∧ rchk2 (rpool m) (rmaxl m) f.1 f.2.1 f.2.2 = true := by
  unfold feabaaabbb at h
  rcases rcond2 h with ⟨hm, h⟩ | ⟨-, h⟩
  · rw [Nat.eq_of_beq_eq_true hm]; exact rck_ok (tb := tr127) (fun _ => rfl) ck127 h
  · skip
    rcases rcond2 h with ⟨hm, h⟩ | ⟨-, h⟩
    · rw [Nat.eq_of_beq_eq_true hm]; exact rck_ok (tb := tr128) (fun _ => rfl) ck128 h
    · cases h

set_option maxRecDepth 100000 in
theorem feabaaabb_ok {m pc : Nat} {f : rI} (h : feabaaabb m pc = some f) : decode (rB m) pc = .ok (f.1, f.2.1) ∧ rchk2 (rpool m) (rmaxl m) f.1 f.2.1 f.2.2 = true := by
  unfold feabaaabb at h
  rcases rcond2 h with ⟨-, h⟩ | ⟨-, h⟩
  · exact feabaaabba_ok h
  · exact feabaaabbb_ok h

set_option maxRecDepth 100000 in
theorem feabaaab_ok {m pc : Nat} {f : rI} (h : feabaaab m pc = some f) : decode (rB m) pc = .ok (f.1, f.2.1) ∧ rchk2 (rpool m) (rmaxl m) f.1 f.2.1 f.2.2 = true := by
  unfold feabaaab at h
  rcases rcond2 h with ⟨-, h⟩ | ⟨-, h⟩
  · exact feabaaaba_ok h
  · exact feabaaabb_ok h

set_option maxRecDepth 100000 in
theorem feabaaa_ok {m pc : Nat} {f : rI} (h : feabaaa m pc = some f) : decode (rB m) pc = .ok (f.1, f.2.1) ∧ rchk2 (rpool m) (rmaxl m) f.1 f.2.1 f.2.2 = true := by
  unfold feabaaa at h
  rcases rcond2 h with ⟨-, h⟩ | ⟨-, h⟩
  · exact feabaaaa_ok h
  · exact feabaaab_ok h

set_option maxRecDepth 100000 in
theorem feabaabaa_ok {m pc : Nat} {f : rI} (h : feabaabaa m pc = some f) : decode (rB m) pc = .ok (f.1, f.2.1) ∧ rchk2 (rpool m) (rmaxl m) f.1 f.2.1 f.2.2 = true := by
  unfold feabaabaa at h
  rcases rcond2 h with ⟨hm, h⟩ | ⟨-, h⟩
  · rw [Nat.eq_of_beq_eq_true hm]; exact rck_ok (tb := tr129) (fun _ => rfl) ck129 h
  · skip
    rcases rcond2 h with ⟨hm, h⟩ | ⟨-, h⟩
    · rw [Nat.eq_of_beq_eq_true hm]; exact rck_ok (tb := tr130) (fun _ => rfl) ck130 h
    · skip
      rcases rcond2 h with ⟨hm, h⟩ | ⟨-, h⟩
      · rw [Nat.eq_of_beq_eq_true hm]; exact rck_ok (tb := tr131) (fun _ => rfl) ck131 h
      · cases h

set_option maxRecDepth 100000 in
theorem feabaababa_ok {m pc : Nat} {f : rI} (h : feabaababa m pc = some f) : decode (rB m) pc = .ok (f.1, f.2.1) ∧ rchk2 (rpool m) (rmaxl m) f.1 f.2.1 f.2.2 = true := by
  unfold feabaababa at h
  rcases rcond2 h with ⟨hm, h⟩ | ⟨-, h⟩
  · rw [Nat.eq_of_beq_eq_true hm]; exact rck_ok (tb := tr132) (fun _ => rfl) ck132 h
  · skip
    rcases rcond2 h with ⟨hm, h⟩ | ⟨-, h⟩
    · rw [Nat.eq_of_beq_eq_true hm]; exact rck_ok (tb := tr133) (fun _ => rfl) ck133 h
    · cases h

set_option maxRecDepth 100000 in
theorem feabaababb_ok {m pc : Nat} {f : rI} (h : feabaababb m pc = some f) : decode (rB m) pc = .ok (f.1, f.2.1) ∧ rchk2 (rpool m) (rmaxl m) f.1 f.2.1 f.2.2 = true := by
  unfold feabaababb at h
  rcases rcond2 h with ⟨hm, h⟩ | ⟨-, h⟩
  · rw [Nat.eq_of_beq_eq_true hm]; exact rck_ok (tb := tr134) (fun _ => rfl) ck134 h
  · skip
    rcases rcond2 h with ⟨hm, h⟩ | ⟨-, h⟩
    · rw [Nat.eq_of_beq_eq_true hm]; exact rck_ok (tb := tr135) (fun _ => rfl) ck135 h
    · cases h

set_option maxRecDepth 100000 in
theorem feabaabab_ok {m pc : Nat} {f : rI} (h : feabaabab m pc = some f) : decode (rB m) pc = .ok (f.1, f.2.1) ∧ rchk2 (rpool m) (rmaxl m) f.1 f.2.1 f.2.2 = true := by
  unfold feabaabab at h
  rcases rcond2 h with ⟨-, h⟩ | ⟨-, h⟩
  · exact feabaababa_ok h
  · exact feabaababb_ok h

set_option maxRecDepth 100000 in
theorem feabaaba_ok {m pc : Nat} {f : rI} (h : feabaaba m pc = some f) : decode (rB m) pc = .ok (f.1, f.2.1) ∧ rchk2 (rpool m) (rmaxl m) f.1 f.2.1 f.2.2 = true := by
  unfold feabaaba at h
  rcases rcond2 h with ⟨-, h⟩ | ⟨-, h⟩
  · exact feabaabaa_ok h
  · exact feabaabab_ok h

set_option maxRecDepth 100000 in
theorem feabaabba_ok {m pc : Nat} {f : rI} (h : feabaabba m pc = some f) : decode (rB m) pc = .ok (f.1, f.2.1) ∧ rchk2 (rpool m) (rmaxl m) f.1 f.2.1 f.2.2 = true := by
  unfold feabaabba at h
  rcases rcond2 h with ⟨hm, h⟩ | ⟨-, h⟩
  · rw [Nat.eq_of_beq_eq_true hm]; exact rck_ok (tb := tr136) (fun _ => rfl) ck136 h
  · skip
    rcases rcond2 h with ⟨hm, h⟩ | ⟨-, h⟩
    · rw [Nat.eq_of_beq_eq_true hm]; exact rck_ok (tb := tr137) (fun _ => rfl) ck137 h
    · skip
      rcases rcond2 h with ⟨hm, h⟩ | ⟨-, h⟩
      · rw [Nat.eq_of_beq_eq_true hm]; exact rck_ok (tb := tr138) (fun _ => rfl) ck138 h
      · cases h

set_option maxRecDepth 100000 in
theorem feabaabbba_ok {m pc : Nat} {f : rI} (h : feabaabbba m pc = some f) : decode (rB m) pc = .ok (f.1, f.2.1) ∧ rchk2 (rpool m) (rmaxl m) f.1 f.2.1 f.2.2 = true := by
  unfold feabaabbba at h
  rcases rcond2 h with ⟨hm, h⟩ | ⟨-, h⟩
  · rw [Nat.eq_of_beq_eq_true hm]; exact rck_ok (tb := tr139) (fun _ => rfl) ck139 h
  · skip
    rcases rcond2 h with ⟨hm, h⟩ | ⟨-, h⟩
    · rw [Nat.eq_of_beq_eq_true hm]; exact rck_ok (tb := tr140) (fun _ => rfl) ck140 h
    · cases h

set_option maxRecDepth 100000 in
theorem feabaabbbb_ok {m pc : Nat} {f : rI} (h : feabaabbbb m pc = some f) : decode (rB m) pc = .ok (f.1, f.2.1) ∧ rchk2 (rpool m) (rmaxl m) f.1 f.2.1 f.2.2 = true := by
  unfold feabaabbbb at h
  rcases rcond2 h with ⟨hm, h⟩ | ⟨-, h⟩
  · rw [Nat.eq_of_beq_eq_true hm]; exact rck_ok (tb := tr141) (fun _ => rfl) ck141 h
  · skip
    rcases rcond2 h with ⟨hm, h⟩ | ⟨-, h⟩
    · rw [Nat.eq_of_beq_eq_true hm]; exact rck_ok (tb := tr142) (fun _ => rfl) ck142 h
    · cases h

set_option maxRecDepth 100000 in
theorem feabaabbb_ok {m pc : Nat} {f : rI} (h : feabaabbb m pc = some f) : decode (rB m) pc = .ok (f.1, f.2.1) ∧ rchk2 (rpool m) (rmaxl m) f.1 f.2.1 f.2.2 = true := by
  unfold feabaabbb at h
  rcases rcond2 h with ⟨-, h⟩ | ⟨-, h⟩
  · exact feabaabbba_ok h
  · exact feabaabbbb_ok h

set_option maxRecDepth 100000 in
theorem feabaabb_ok {m pc : Nat} {f : rI} (h : feabaabb m pc = some f) : decode (rB m) pc = .ok (f.1, f.2.1) ∧ rchk2 (rpool m) (rmaxl m) f.1 f.2.1 f.2.2 = true := by
  unfold feabaabb at h
  rcases rcond2 h with ⟨-, h⟩ | ⟨-, h⟩
  · exact feabaabba_ok h
  · exact feabaabbb_ok h

set_option maxRecDepth 100000 in
theorem feabaab_ok {m pc : Nat} {f : rI} (h : feabaab m pc = some f) : decode (rB m) pc = .ok (f.1, f.2.1) ∧ rchk2 (rpool m) (rmaxl m) f.1 f.2.1 f.2.2 = true := by
  unfold feabaab at h
  rcases rcond2 h with ⟨-, h⟩ | ⟨-, h⟩
  · exact feabaaba_ok h
  · exact feabaabb_ok h

set_option maxRecDepth 100000 in
theorem feabaa_ok {m pc : Nat} {f : rI} (h : feabaa m pc = some f) : decode (rB m) pc = .ok (f.1, f.2.1) ∧ rchk2 (rpool m) (rmaxl m) f.1 f.2.1 f.2.2 = true := by
  unfold feabaa at h
  rcases rcond2 h with ⟨-, h⟩ | ⟨-, h⟩
  · exact feabaaa_ok h
  · exact feabaab_ok h

set_option maxRecDepth 100000 in
theorem feababaaa_ok {m pc : Nat} {f : rI} (h : feababaaa m pc = some f) : decode (rB m) pc = .ok (f.1, f.2.1) ∧ rchk2 (rpool m) (rmaxl m) f.1 f.2.1 f.2.2 = true := by
  unfold feababaaa at h
  rcases rcond2 h with ⟨hm, h⟩ | ⟨-, h⟩
  · rw [Nat.eq_of_beq_eq_true hm]; exact rck_ok (tb := tr143) (fun _ => rfl) ck143 h
  · skip
    rcases rcond2 h with ⟨hm, h⟩ | ⟨-, h⟩
    · rw [Nat.eq_of_beq_eq_true hm]; exact rck_ok (tb := tr144) (fun _ => rfl) ck144 h
    · skip
      rcases rcond2 h with ⟨hm, h⟩ | ⟨-, h⟩
      · rw [Nat.eq_of_beq_eq_true hm]; exact rck_ok (tb := tr145) (fun _ => rfl) ck145 h
      · cases h

set_option maxRecDepth 100000 in
theorem feababaaba_ok {m pc : Nat} {f : rI} (h : feababaaba m pc = some f) : decode (rB m) pc = .ok (f.1, f.2.1) ∧ rchk2 (rpool m) (rmaxl m) f.1 f.2.1 f.2.2 = true := by
  unfold feababaaba at h
  rcases rcond2 h with ⟨hm, h⟩ | ⟨-, h⟩
  · rw [Nat.eq_of_beq_eq_true hm]; exact rck_ok (tb := tr146) (fun _ => rfl) ck146 h
  · skip
    rcases rcond2 h with ⟨hm, h⟩ | ⟨-, h⟩
    · rw [Nat.eq_of_beq_eq_true hm]; exact rck_ok (tb := tr147) (fun _ => rfl) ck147 h
    · cases h

set_option maxRecDepth 100000 in
theorem feababaabb_ok {m pc : Nat} {f : rI} (h : feababaabb m pc = some f) : decode (rB m) pc = .ok (f.1, f.2.1) ∧ rchk2 (rpool m) (rmaxl m) f.1 f.2.1 f.2.2 = true := by
  unfold feababaabb at h
  rcases rcond2 h with ⟨hm, h⟩ | ⟨-, h⟩
  · rw [Nat.eq_of_beq_eq_true hm]; exact rck_ok (tb := tr148) (fun _ => rfl) ck148 h
  · skip
    rcases rcond2 h with ⟨hm, h⟩ | ⟨-, h⟩
    · rw [Nat.eq_of_beq_eq_true hm]; exact rck_ok (tb := tr149) (fun _ => rfl) ck149 h
    · cases h

set_option maxRecDepth 100000 in
theorem feababaab_ok {m pc : Nat} {f : rI} (h : feababaab m pc = some f) : decode (rB m) pc = .ok (f.1, f.2.1) ∧ rchk2 (rpool m) (rmaxl m) f.1 f.2.1 f.2.2 = true := by
  unfold feababaab at h
  rcases rcond2 h with ⟨-, h⟩ | ⟨-, h⟩
  · exact feababaaba_ok h
  · exact feababaabb_ok h

set_option maxRecDepth 100000 in
theorem feababaa_ok {m pc : Nat} {f : rI} (h : feababaa m pc = some f) : decode (rB m) pc = .ok (f.1, f.2.1) ∧ rchk2 (rpool m) (rmaxl m) f.1 f.2.1 f.2.2 = true := by
  unfold feababaa at h
  rcases rcond2 h with ⟨-, h⟩ | ⟨-, h⟩
  · exact feababaaa_ok h
  · exact feababaab_ok h

set_option maxRecDepth 100000 in
theorem feabababa_ok {m pc : Nat} {f : rI} (h : feabababa m pc = some f) : decode (rB m) pc = .ok (f.1, f.2.1) ∧ rchk2 (rpool m) (rmaxl m) f.1 f.2.1 f.2.2 = true := by
  unfold feabababa at h
  rcases rcond2 h with ⟨hm, h⟩ | ⟨-, h⟩
  · rw [Nat.eq_of_beq_eq_true hm]; exact rck_ok (tb := tr150) (fun _ => rfl) ck150 h
  · skip
    rcases rcond2 h with ⟨hm, h⟩ | ⟨-, h⟩
    · rw [Nat.eq_of_beq_eq_true hm]; exact rck_ok (tb := tr151) (fun _ => rfl) ck151 h
    · skip
      rcases rcond2 h with ⟨hm, h⟩ | ⟨-, h⟩
      · rw [Nat.eq_of_beq_eq_true hm]; exact rck_ok (tb := tr152) (fun _ => rfl) ck152 h
      · cases h

set_option maxRecDepth 100000 in
theorem feabababba_ok {m pc : Nat} {f : rI} (h : feabababba m pc = some f) : decode (rB m) pc = .ok (f.1, f.2.1) ∧ rchk2 (rpool m) (rmaxl m) f.1 f.2.1 f.2.2 = true := by
  unfold feabababba at h
  rcases rcond2 h with ⟨hm, h⟩ | ⟨-, h⟩
  · rw [Nat.eq_of_beq_eq_true hm]; exact rck_ok (tb := tr153) (fun _ => rfl) ck153 h
  · skip
    rcases rcond2 h with ⟨hm, h⟩ | ⟨-, h⟩
    · rw [Nat.eq_of_beq_eq_true hm]; exact rck_ok (tb := tr154) (fun _ => rfl) ck154 h
    · cases h

set_option maxRecDepth 100000 in
theorem feabababbb_ok {m pc : Nat} {f : rI} (h : feabababbb m pc = some f) : decode (rB m) pc = .ok (f.1, f.2.1) ∧ rchk2 (rpool m) (rmaxl m) f.1 f.2.1 f.2.2 = true := by
  unfold feabababbb at h
  rcases rcond2 h with ⟨hm, h⟩ | ⟨-, h⟩
  · rw [Nat.eq_of_beq_eq_true hm]; exact rck_ok (tb := tr155) (fun _ => rfl) ck155 h
  · skip
    rcases rcond2 h with ⟨hm, h⟩ | ⟨-, h⟩
    · rw [Nat.eq_of_beq_eq_true hm]; exact rck_ok (tb := tr156) (fun _ => rfl) ck156 h
    · cases h

set_option maxRecDepth 100000 in
theorem feabababb_ok {m pc : Nat} {f : rI} (h : feabababb m pc = some f) : decode (rB m) pc = .ok (f.1, f.2.1) ∧ rchk2 (rpool m) (rmaxl m) f.1 f.2.1 f.2.2 = true := by
  unfold feabababb at h
  rcases rcond2 h with ⟨-, h⟩ | ⟨-, h⟩
  · exact feabababba_ok h
  · exact feabababbb_ok h

set_option maxRecDepth 100000 in
theorem feababab_ok {m pc : Nat} {f : rI} (h : feababab m pc = some f) : decode (rB m) pc = .ok (f.1, f.2.1) ∧ rchk2 (rpool m) (rmaxl m) f.1 f.2.1 f.2.2 = true := by
  unfold feababab at h
  rcases rcond2 h with ⟨-, h⟩ | ⟨-, h⟩
  · exact feabababa_ok h
  · exact feabababb_ok h

set_option maxRecDepth 100000 in
theorem feababa_ok {m pc : Nat} {f : rI} (h : feababa m pc = some f) : decode (rB m) pc = .ok (f.1, f.2.1) ∧ rchk2 (rpool m) (rmaxl m) f.1 f.2.1 f.2.2 = true := by
  unfold feababa at h
  rcases rcond2 h with ⟨-, h⟩ | ⟨-, h⟩
  · exact feababaa_ok h
  · exact feababab_ok h

set_option maxRecDepth 100000 in
theorem feababbaa_ok {m pc : Nat} {f : rI} (h : feababbaa m pc = some f) : decode (rB m) pc = .ok (f.1, f.2.1) ∧ rchk2 (rpool m) (rmaxl m) f.1 f.2.1 f.2.2 = true := by
  unfold feababbaa at h
  rcases rcond2 h with ⟨hm, h⟩ | ⟨-, h⟩
  · rw [Nat.eq_of_beq_eq_true hm]; exact rck_ok (tb := tr157) (fun _ => rfl) ck157 h
  · skip
    rcases rcond2 h with ⟨hm, h⟩ | ⟨-, h⟩
    · rw [Nat.eq_of_beq_eq_true hm]; exact rck_ok (tb := tr158) (fun _ => rfl) ck158 h
    · skip
      rcases rcond2 h with ⟨hm, h⟩ | ⟨-, h⟩
      · rw [Nat.eq_of_beq_eq_true hm]; exact rck_ok (tb := tr159) (fun _ => rfl) ck159 h
      · cases h

set_option maxRecDepth 100000 in
theorem feababbaba_ok {m pc : Nat} {f : rI} (h : feababbaba m pc = some f) : decode (rB m) pc = .ok (f.1, f.2.1) ∧ rchk2 (rpool m) (rmaxl m) f.1 f.2.1 f.2.2 = true := by
  unfold feababbaba at h
  rcases rcond2 h with ⟨hm, h⟩ | ⟨-, h⟩
  · rw [Nat.eq_of_beq_eq_true hm]; exact rck_ok (tb := tr160) (fun _ => rfl) ck160 h
  · skip
    rcases rcond2 h with ⟨hm, h⟩ | ⟨-, h⟩
    · rw [Nat.eq_of_beq_eq_true hm]; exact rck_ok (tb := tr161) (fun _ => rfl) ck161 h
    · cases h

set_option maxRecDepth 100000 in
theorem feababbabb_ok {m pc : Nat} {f : rI} (h : feababbabb m pc = some f) : decode (rB m) pc = .ok (f.1, f.2.1) ∧ rchk2 (rpool m) (rmaxl m) f.1 f.2.1 f.2.2 = true := by
  unfold feababbabb at h
  rcases rcond2 h with ⟨hm, h⟩ | ⟨-, h⟩
  · rw [Nat.eq_of_beq_eq_true hm]; exact rck_ok (tb := tr162) (fun _ => rfl) ck162 h
  · skip
    rcases rcond2 h with ⟨hm, h⟩ | ⟨-, h⟩
    · rw [Nat.eq_of_beq_eq_true hm]; exact rck_ok (tb := tr163) (fun _ => rfl) ck163 h
    · cases h

set_option maxRecDepth 100000 in
theorem feababbab_ok {m pc : Nat} {f : rI} (h : feababbab m pc = some f) : decode (rB m) pc = .ok (f.1, f.2.1) ∧ rchk2 (rpool m) (rmaxl m) f.1 f.2.1 f.2.2 = true := by
  unfold feababbab at h
  rcases rcond2 h with ⟨-, h⟩ | ⟨-, h⟩
  · exact feababbaba_ok h
  · exact feababbabb_ok h

set_option maxRecDepth 100000 in
theorem feababba_ok {m pc : Nat} {f : rI} (h : feababba m pc = some f) : decode (rB m) pc = .ok (f.1, f.2.1) ∧ rchk2 (rpool m) (rmaxl m) f.1 f.2.1 f.2.2 = true := by
  unfold feababba at h
  rcases rcond2 h with ⟨-, h⟩ | ⟨-, h⟩
  · exact feababbaa_ok h
  · exact feababbab_ok h

set_option maxRecDepth 100000 in
theorem feababbbaa_ok {m pc : Nat} {f : rI} (h : feababbbaa m pc = some f) : decode (rB m) pc = .ok (f.1, f.2.1) ∧ rchk2 (rpool m) (rmaxl m) f.1 f.2.1 f.2.2 = true := by
  unfold feababbbaa at h
  rcases rcond2 h with ⟨hm, h⟩ | ⟨-, h⟩
  · rw [Nat.eq_of_beq_eq_true hm]; exact rck_ok (tb := tr164) (fun _ => rfl) ck164 h
  · skip
    rcases rcond2 h with ⟨hm, h⟩ | ⟨-, h⟩
    · rw [Nat.eq_of_beq_eq_true hm]; exact rck_ok (tb := tr165) (fun _ => rfl) ck165 h
    · cases h

set_option maxRecDepth 100000 in
theorem feababbbab_ok {m pc : Nat} {f : rI} (h : feababbbab m pc = some f) : decode (rB m) pc = .ok (f.1, f.2.1) ∧ rchk2 (rpool m) (rmaxl m) f.1 f.2.1 f.2.2 = true := by
  unfold feababbbab at h
  rcases rcond2 h with ⟨hm, h⟩ | ⟨-, h⟩
  · rw [Nat.eq_of_beq_eq_true hm]; exact rck_ok (tb := tr166) (fun _ => rfl) ck166 h
  · skip
    rcases rcond2 h with ⟨hm, h⟩ | ⟨-, h⟩
    · rw [Nat.eq_of_beq_eq_true hm]; exact rck_ok (tb := tr167) (fun _ => rfl) ck167 h
    · cases h

set_option maxRecDepth 100000 in
theorem feababbba_ok {m pc : Nat} {f : rI} (h : feababbba m pc = some f) : decode (rB m) pc = .ok (f.1, f.2.1) ∧ rchk2 (rpool m) (rmaxl m) f.1 f.2.1 f.2.2 = true := by
  unfold feababbba at h
  rcases rcond2 h with ⟨-, h⟩ | ⟨-, h⟩
  · exact feababbbaa_ok h
  · exact feababbbab_ok h

set_option maxRecDepth 100000 in
theorem feababbbba_ok {m pc : Nat} {f : rI} (h : feababbbba m pc = some f) : decode (rB m) pc = .ok (f.1, f.2.1) ∧ rchk2 (rpool m) (rmaxl m) f.1 f.2.1 f.2.2 = true := by
  unfold feababbbba at h
  rcases rcond2 h with ⟨hm, h⟩ | ⟨-, h⟩
  · rw [Nat.eq_of_beq_eq_true hm]; exact rck_ok (tb := tr168) (fun _ => rfl) ck168 h
  · skip
    rcases rcond2 h with ⟨hm, h⟩ | ⟨-, h⟩
    · rw [Nat.eq_of_beq_eq_true hm]; exact rck_ok (tb := tr169) (fun _ => rfl) ck169 h
    · cases h

set_option maxRecDepth 100000 in
theorem feababbbbb_ok {m pc : Nat} {f : rI} (h : feababbbbb m pc = some f) : decode (rB m) pc = .ok (f.1, f.2.1) ∧ rchk2 (rpool m) (rmaxl m) f.1 f.2.1 f.2.2 = true := by
  unfold feababbbbb at h
  rcases rcond2 h with ⟨hm, h⟩ | ⟨-, h⟩
  · rw [Nat.eq_of_beq_eq_true hm]; exact rck_ok (tb := tr170) (fun _ => rfl) ck170 h
  · skip
    rcases rcond2 h with ⟨hm, h⟩ | ⟨-, h⟩
    · rw [Nat.eq_of_beq_eq_true hm]; exact rck_ok (tb := tr171) (fun _ => rfl) ck171 h
    · cases h

set_option maxRecDepth 100000 in
theorem feababbbb_ok {m pc : Nat} {f : rI} (h : feababbbb m pc = some f) : decode (rB m) pc = .ok (f.1, f.2.1) ∧ rchk2 (rpool m) (rmaxl m) f.1 f.2.1 f.2.2 = true := by
  unfold feababbbb at h
  rcases rcond2 h with ⟨-, h⟩ | ⟨-, h⟩
  · exact feababbbba_ok h
  · exact feababbbbb_ok h

set_option maxRecDepth 100000 in
theorem feababbb_ok {m pc : Nat} {f : rI} (h : feababbb m pc = some f) : decode (rB m) pc = .ok (f.1, f.2.1) ∧ rchk2 (rpool m) (rmaxl m) f.1 f.2.1 f.2.2 = true := by
  unfold feababbb at h
  rcases rcond2 h with ⟨-, h⟩ | ⟨-, h⟩
  · exact feababbba_ok h
  · exact feababbbb_ok h

set_option maxRecDepth 100000 in
theorem feababb_ok {m pc : Nat} {f : rI} (h : feababb m pc = some f) : decode (rB m) pc = .ok (f.1, f.2.1) ∧ rchk2 (rpool m) (rmaxl m) f.1 f.2.1 f.2.2 = true := by
  unfold feababb at h
  rcases rcond2 h with ⟨-, h⟩ | ⟨-, h⟩
  · exact feababba_ok h
  · exact feababbb_ok h

set_option maxRecDepth 100000 in
theorem feabab_ok {m pc : Nat} {f : rI} (h : feabab m pc = some f) : decode (rB m) pc = .ok (f.1, f.2.1) ∧ rchk2 (rpool m) (rmaxl m) f.1 f.2.1 f.2.2 = true := by
  unfold feabab at h
  rcases rcond2 h with ⟨-, h⟩ | ⟨-, h⟩
  · exact feababa_ok h
  · exact feababb_ok h

set_option maxRecDepth 100000 in
theorem feaba_ok {m pc : Nat} {f : rI} (h : feaba m pc = some f) : decode (rB m) pc = .ok (f.1, f.2.1) ∧ rchk2 (rpool m) (rmaxl m) f.1 f.2.1 f.2.2 = true := by
  unfold feaba at h
  rcases rcond2 h with ⟨-, h⟩ | ⟨-, h⟩
  · exact feabaa_ok h
  · exact feabab_ok h

set_option maxRecDepth 100000 in
theorem feabbaaaa_ok {m pc : Nat} {f : rI} (h : feabbaaaa m pc = some f) : decode (rB m) pc = .ok (f.1, f.2.1) ∧ rchk2 (rpool m) (rmaxl m) f.1 f.2.1 f.2.2 = true := by
  unfold feabbaaaa at h
  rcases rcond2 h with ⟨hm, h⟩ | ⟨-, h⟩
  · rw [Nat.eq_of_beq_eq_true hm]; exact rck_ok (tb := tr172) (fun _ => rfl) ck172 h
  · skip
    rcases rcond2 h with ⟨hm, h⟩ | ⟨-, h⟩
    · rw [Nat.eq_of_beq_eq_true hm]; exact rck_ok (tb := tr173) (fun _ => rfl) ck173 h
    · skip
      rcases rcond2 h with ⟨hm, h⟩ | ⟨-, h⟩
      · rw [Nat.eq_of_beq_eq_true hm]; exact rck_ok (tb := tr174) (fun _ => rfl) ck174 h
      · cases h

set_option maxRecDepth 100000 in
theorem feabbaaaba_ok {m pc : Nat} {f : rI} (h : feabbaaaba m pc = some f) : decode (rB m) pc = .ok (f.1, f.2.1) ∧ rchk2 (rpool m) (rmaxl m) f.1 f.2.1 f.2.2 = true := by
  unfold feabbaaaba at h
  rcases rcond2 h with ⟨hm, h⟩ | ⟨-, h⟩
  · rw [Nat.eq_of_beq_eq_true hm]; exact rck_ok (tb := tr175) (fun _ => rfl) ck175 h
  · skip
    rcases rcond2 h with ⟨hm, h⟩ | ⟨-, h⟩
    · rw [Nat.eq_of_beq_eq_true hm]; exact rck_ok (tb := tr176) (fun _ => rfl) ck176 h
    · cases h

set_option maxRecDepth 100000 in
theorem feabbaaabb_ok {m pc : Nat} {f : rI} (h : feabbaaabb m pc = some f) : decode (rB m) pc = .ok (f.1, f.2.1) ∧ rchk2 (rpool m) (rmaxl m) f.1 f.2.1 f.2.2 = true := by
  unfold feabbaaabb at h
  rcases rcond2 h with ⟨hm, h⟩ | ⟨-, h⟩
  · rw [Nat.eq_of_beq_eq_true hm]; exact rck_ok (tb := tr177) (fun _ => rfl) ck177 h
  · skip
    rcases rcond2 h with ⟨hm, h⟩ | ⟨-, h⟩
    · rw [Nat.eq_of_beq_eq_true hm]; exact rck_ok (tb := tr178) (fun _ => rfl) ck178 h
    · cases h

set_option maxRecDepth 100000 in
theorem feabbaaab_ok {m pc : Nat} {f : rI} (h : feabbaaab m pc = some f) : decode (rB m) pc = .ok (f.1, f.2.1) ∧ rchk2 (rpool m) (rmaxl m) f.1 f.2.1 f.2.2 = true := by
  unfold feabbaaab at h
  rcases rcond2 h with ⟨-, h⟩ | ⟨-, h⟩
  · exact feabbaaaba_ok h
  · exact feabbaaabb_ok h

set_option maxRecDepth 100000 in
theorem feabbaaa_ok {m pc : Nat} {f : rI} (h : feabbaaa m pc = some f) : decode (rB m) pc = .ok (f.1, f.2.1) ∧ rchk2 (rpool m) (rmaxl m) f.1 f.2.1 f.2.2 = true := by
  unfold feabbaaa at h
  rcases rcond2 h with ⟨-, h⟩ | ⟨-, h⟩
  · exact feabbaaaa_ok h
  · exact feabbaaab_ok h

set_option maxRecDepth 100000 in
theorem feabbaaba_ok {m pc : Nat} {f : rI} (h : feabbaaba m pc = some f) : decode (rB m) pc = .ok (f.1, f.2.1) ∧ rchk2 (rpool m) (rmaxl m) f.1 f.2.1 f.2.2 = true := by
  unfold feabbaaba at h
  rcases rcond2 h with ⟨hm, h⟩ | ⟨-, h⟩
  · rw [Nat.eq_of_beq_eq_true hm]; exact rck_ok (tb := tr179) (fun _ => rfl) ck179 h
  · skip
    rcases rcond2 h with ⟨hm, h⟩ | ⟨-, h⟩
    · rw [Nat.eq_of_beq_eq_true hm]; exact rck_ok (tb := tr180) (fun _ => rfl) ck180 h
    · skip
      rcases rcond2 h with ⟨hm, h⟩ | ⟨-, h⟩
      · rw [Nat.eq_of_beq_eq_true hm]; exact rck_ok (tb := tr181) (fun _ => rfl) ck181 h
      · cases h

set_option maxRecDepth 100000 in
theorem feabbaabba_ok {m pc : Nat} {f : rI} (h : feabbaabba m pc = some f) : decode (rB m) pc = .ok (f.1, f.2.1) ∧ rchk2 (rpool m) (rmaxl m) f.1 f.2.1 f.2.2 = true := by
  unfold feabbaabba at h
  rcases rcond2 h with ⟨hm, h⟩ | ⟨-, h⟩
  · rw [Nat.eq_of_beq_eq_true hm]; exact rck_ok (tb := tr182) (fun _ => rfl) ck182 h
  · skip
    rcases rcond2 h with ⟨hm, h⟩ | ⟨-, h⟩
    · rw [Nat.eq_of_beq_eq_true hm]; exact rck_ok (tb := tr183) (fun _ => rfl) ck183 h
    · cases h

set_option maxRecDepth 100000 in
theorem feabbaabbb_ok {m pc : Nat} {f : rI} (h : feabbaabbb m pc = some f) : decode (rB m) pc = .ok (f.1, f.2.1) ∧ rchk2 (rpool m) (rmaxl m) f.1 f.2.1 f.2.2 = true := by
  unfold feabbaabbb at h
  rcases rcond2 h with ⟨hm, h⟩ | ⟨-, h⟩
  · rw [Nat.eq_of_beq_eq_true hm]; exact rck_ok (tb := tr184) (fun _ => rfl) ck184 h
  · skip
    rcases rcond2 h with ⟨hm, h⟩ | ⟨-, h⟩
    · rw [Nat.eq_of_beq_eq_true hm]; exact rck_ok (tb := tr185) (fun _ => rfl) ck185 h
    · cases h

set_option maxRecDepth 100000 in
theorem feabbaabb_ok {m pc : Nat} {f : rI} (h : feabbaabb m pc = some f) : decode (rB m) pc = .ok (f.1, f.2.1) ∧ rchk2 (rpool m) (rmaxl m) f.1 f.2.1 f.2.2 = true := by
  unfold feabbaabb at h
  rcases rcond2 h with ⟨-, h⟩ | ⟨-, h⟩
  · exact feabbaabba_ok h
  · exact feabbaabbb_ok h

set_option maxRecDepth 100000 in
theorem feabbaab_ok {m pc : Nat} {f : rI} (h : feabbaab m pc = some f) : decode (rB m) pc = .ok (f.1, f.2.1) ∧ rchk2 (rpool m) (rmaxl m) f.1 f.2.1 f.2.2 = true := by
  unfold feabbaab at h
  rcases rcond2 h with ⟨-, h⟩ | ⟨-, h⟩
  · exact feabbaaba_ok h
  · exact feabbaabb_ok h

set_option maxRecDepth 100000 in
theorem feabbaa_ok {m pc : Nat} {f : rI} (h : feabbaa m pc = some f) : decode (rB m) pc = .ok (f.1, f.2.1) ∧ rchk2 (rpool m) (rmaxl m) f.1 f.2.1 f.2.2 = true := by
  unfold feabbaa at h
  rcases rcond2 h with ⟨-, h⟩ | ⟨-, h⟩
  · exact feabbaaa_ok h
  · exact feabbaab_ok h

set_option maxRecDepth 100000 in
theorem feabbabaa_ok {m pc : Nat} {f : rI} (h : feabbabaa m pc = some f) : decode (rB m) pc = .ok (f.1, f.2.1) ∧ rchk2 (rpool m) (rmaxl m) f.1 f.2.1 f.2.2 = true := by
  unfold feabbabaa at h
  rcases rcond2 h with ⟨hm, h⟩ | ⟨-, h⟩
  · rw [Nat.eq_of_beq_eq_true hm]; exact rck_ok (tb := tr186) (fun _ => rfl) ck186 h
  · skip
    rcases rcond2 h with ⟨hm, h⟩ | ⟨-, h⟩
    · rw [Nat.eq_of_beq_eq_true hm]; exact rck_ok (tb := tr187) (fun _ => rfl) ck187 h
    · skip
      rcases rcond2 h with ⟨hm, h⟩ | ⟨-, h⟩
      · rw [Nat.eq_of_beq_eq_true hm]; exact rck_ok (tb := tr188) (fun _ => rfl) ck188 h
      · cases h

set_option maxRecDepth 100000 in
theorem feabbababa_ok {m pc : Nat} {f : rI} (h : feabbababa m pc = some f) : decode (rB m) pc = .ok (f.1, f.2.1) ∧ rchk2 (rpool m) (rmaxl m) f.1 f.2.1 f.2.2 = true := by
  unfold feabbababa at h
  rcases rcond2 h with ⟨hm, h⟩ | ⟨-, h⟩
  · rw [Nat.eq_of_beq_eq_true hm]; exact rck_ok (tb := tr189) (fun _ => rfl) ck189 h
  · skip
    rcases rcond2 h with ⟨hm, h⟩ | ⟨-, h⟩
    · rw [Nat.eq_of_beq_eq_true hm]; exact rck_ok (tb := tr190) (fun _ => rfl) ck190 h
    · cases h

set_option maxRecDepth 100000 in
theorem feabbababb_ok {m pc : Nat} {f : rI} (h : feabbababb m pc = some f) : decode (rB m) pc = .ok (f.1, f.2.1) ∧ rchk2 (rpool m) (rmaxl m) f.1 f.2.1 f.2.2 = true := by
  unfold feabbababb at h
  rcases rcond2 h with ⟨hm, h⟩ | ⟨-, h⟩
  · rw [Nat.eq_of_beq_eq_true hm]; exact rck_ok (tb := tr191) (fun _ => rfl) ck191 h
  · skip
    rcases rcond2 h with ⟨hm, h⟩ | ⟨-, h⟩
    · rw [Nat.eq_of_beq_eq_true hm]; exact rck_ok (tb := tr192) (fun _ => rfl) ck192 h
    · cases h

set_option maxRecDepth 100000 in
theorem feabbabab_ok {m pc : Nat} {f : rI} (h : feabbabab m pc = some f) : decode (rB m) pc = .ok (f.1, f.2.1) ∧ rchk2 (rpool m) (rmaxl m) f.1 f.2.1 f.2.2 = true := by
  unfold feabbabab at h
  rcases rcond2 h with ⟨-, h⟩ | ⟨-, h⟩
  · exact feabbababa_ok h
  · exact feabbababb_ok h

set_option maxRecDepth 100000 in
theorem feabbaba_ok {m pc : Nat} {f : rI} (h : feabbaba m pc = some f) : decode (rB m) pc = .ok (f.1, f.2.1) ∧ rchk2 (rpool m) (rmaxl m) f.1 f.2.1 f.2.2 = true := by
  unfold feabbaba at h
  rcases rcond2 h with ⟨-, h⟩ | ⟨-, h⟩
  · exact feabbabaa_ok h
  · exact feabbabab_ok h

set_option maxRecDepth 100000 in
theorem feabbabbaa_ok {m pc : Nat} {f : rI} (h : feabbabbaa m pc = some f) : decode (rB m) pc = .ok (f.1, f.2.1) ∧ rchk2 (rpool m) (rmaxl m) f.1 f.2.1 f.2.2 = true := by
  unfold feabbabbaa at h
  rcases rcond2 h with ⟨hm, h⟩ | ⟨-, h⟩
  · rw [Nat.eq_of_beq_eq_true hm]; exact rck_ok (tb := tr193) (fun _ => rfl) ck193 h
  · skip
    rcases rcond2 h with ⟨hm, h⟩ | ⟨-, h⟩
    · rw [Nat.eq_of_beq_eq_true hm]; exact rck_ok (tb := tr194) (fun _ => rfl) ck194 h
    · cases h

set_option maxRecDepth 100000 in
theorem feabbabbab_ok {m pc : Nat} {f : rI} (h : feabbabbab m pc = some f) : decode (rB m) pc = .ok (f.1, f.2.1) ∧ rchk2 (rpool m) (rmaxl m) f.1 f.2.1 f.2.2 = true := by
  unfold feabbabbab at h
  rcases rcond2 h with ⟨hm, h⟩ | ⟨-, h⟩
  · rw [Nat.eq_of_beq_eq_true hm]; exact rck_ok (tb := tr195) (fun _ => rfl) ck195 h
  · skip
    rcases rcond2 h with ⟨hm, h⟩ | ⟨-, h⟩
    · rw [Nat.eq_of_beq_eq_true hm]; exact rck_ok (tb := tr196) (fun _ => rfl) ck196 h
    · cases h

set_option maxRecDepth 100000 in
theorem feabbabba_ok {m pc : Nat} {f : rI} (h : feabbabba m pc = some f) : decode (rB m) pc = .ok (f.1, f.2.1) ∧ rchk2 (rpool m) (rmaxl m) f.1 f.2.1 f.2.2 = true := by
  unfold feabbabba at h
  rcases rcond2 h with ⟨-, h⟩ | ⟨-, h⟩
  · exact feabbabbaa_ok h
  · exact feabbabbab_ok h

set_option maxRecDepth 100000 in
theorem feabbabbba_ok {m pc : Nat} {f : rI} (h : feabbabbba m pc = some f) : decode (rB m) pc = .ok (f.1, f.2.1) ∧ rchk2 (rpool m) (rmaxl m) f.1 f.2.1 f.2.2 = true := by
  unfold feabbabbba at h
  rcases rcond2 h with ⟨hm, h⟩ | ⟨-, h⟩
  · rw [Nat.eq_of_beq_eq_true hm]; exact rck_ok (tb := tr197) (fun _ => rfl) ck197 h
  · skip
    rcases rcond2 h with ⟨hm, h⟩ | ⟨-, h⟩
    · rw [Nat.eq_of_beq_eq_true hm]; exact rck_ok (tb := tr198) (fun _ => rfl) ck198 h
    · cases h

set_option maxRecDepth 100000 in
theorem feabbabbbb_ok {m pc : Nat} {f : rI} (h : feabbabbbb m pc = some f) : decode (rB m) pc = .ok (f.1, f.2.1) ∧ rchk2 (rpool m) (rmaxl m) f.1 f.2.1 f.2.2 = true := by
  unfold feabbabbbb at h
  rcases rcond2 h with ⟨hm, h⟩ | ⟨-, h⟩
  · rw [Nat.eq_of_beq_eq_true hm]; exact rck_ok (tb := tr199) (fun _ => rfl) ck199 h
  · skip
    rcases rcond2 h with ⟨hm, h⟩ | ⟨-, h⟩
    · rw [Nat.eq_of_beq_eq_true hm]; exact rck_ok (tb := tr200) (fun _ => rfl) ck200 h
    · cases h

set_option maxRecDepth 100000 in
theorem feabbabbb_ok {m pc : Nat} {f : rI} (h : feabbabbb m pc = some f) : decode (rB m) pc = .ok (f.1, f.2.1) ∧ rchk2 (rpool m) (rmaxl m) f.1 f.2.1 f.2.2 = true := by
  unfold feabbabbb at h
  rcases rcond2 h with ⟨-, h⟩ | ⟨-, h⟩
  · exact feabbabbba_ok h
  · exact feabbabbbb_ok h

set_option maxRecDepth 100000 in
theorem feabbabb_ok {m pc : Nat} {f : rI} (h : feabbabb m pc = some f) : decode (rB m) pc = .ok (f.1, f.2.1) ∧ rchk2 (rpool m) (rmaxl m) f.1 f.2.1 f.2.2 = true := by
  unfold feabbabb at h
  rcases rcond2 h with ⟨-, h⟩ | ⟨-, h⟩
  · exact feabbabba_ok h
  · exact feabbabbb_ok h

set_option maxRecDepth 100000 in
theorem feabbab_ok {m pc : Nat} {f : rI} (h : feabbab m pc = some f) : decode (rB m) pc = .ok (f.1, f.2.1) ∧ rchk2 (rpool m) (rmaxl m) f.1 f.2.1 f.2.2 = true := by
  unfold feabbab at h
  rcases rcond2 h with ⟨-, h⟩ | ⟨-, h⟩
  · exact feabbaba_ok h
  · exact feabbabb_ok h

set_option maxRecDepth 100000 in
theorem feabba_ok {m pc : Nat} {f : rI} (h : feabba m pc = some f) : decode (rB m) pc = .ok (f.1, f.2.1) ∧ rchk2 (rpool m) (rmaxl m) f.1 f.2.1 f.2.2 = true := by
  unfold feabba at h
  rcases rcond2 h with ⟨-, h⟩ | ⟨-, h⟩
  · exact feabbaa_ok h
  · exact feabbab_ok h

set_option maxRecDepth 100000 in
theorem feabbbaaa_ok {m pc : Nat} {f : rI} (h : feabbbaaa m pc = some f) : decode (rB m) pc = .ok (f.1, f.2.1) ∧ rchk2 (rpool m) (rmaxl m) f.1 f.2.1 f.2.2 = true := by
  unfold feabbbaaa at h
  rcases rcond2 h with ⟨hm, h⟩ | ⟨-, h⟩
  · rw [Nat.eq_of_beq_eq_true hm]; exact rck_ok (tb := tr201) (fun _ => rfl) ck201 h
  · skip
    rcases rcond2 h with ⟨hm, h⟩ | ⟨-, h⟩
    · rw [Nat.eq_of_beq_eq_true hm]; exact rck_ok (tb := tr202) (fun _ => rfl) ck202 h
    · skip
      rcases rcond2 h with ⟨hm, h⟩ | ⟨-, h⟩
      · rw [Nat.eq_of_beq_eq_true hm]; exact rck_ok (tb := tr203) (fun _ => rfl) ck203 h
      · cases h

set_option maxRecDepth 100000 in
theorem feabbbaaba_ok {m pc : Nat} {f : rI} (h : feabbbaaba m pc = some f) : decode (rB m) pc = .ok (f.1, f.2.1) ∧ rchk2 (rpool m) (rmaxl m) f.1 f.2.1 f.2.2 = true := by
  unfold feabbbaaba at h
  rcases rcond2 h with ⟨hm, h⟩ | ⟨-, h⟩
  · rw [Nat.eq_of_beq_eq_true hm]; exact rck_ok (tb := tr204) (fun _ => rfl) ck204 h
  · skip
    rcases rcond2 h with ⟨hm, h⟩ | ⟨-, h⟩
    · rw [Nat.eq_of_beq_eq_true hm]; exact rck_ok (tb := tr205) (fun _ => rfl) ck205 h
    · cases h

set_option maxRecDepth 100000 in
theorem feabbbaabb_ok {m pc : Nat} {f : rI} (h : feabbbaabb m pc = some f) : decode (rB m) pc = .ok (f.1, f.2.1) ∧ rchk2 (rpool m) (rmaxl m) f.1 f.2.1 f.2.2 = true := by
  unfold feabbbaabb at h
  rcases rcond2 h with ⟨hm, h⟩ | ⟨-, h⟩
  · rw [Nat.eq_of_beq_eq_true hm]; exact rck_ok (tb := tr206) (fun _ => rfl) ck206 h
  · skip
    rcases rcond2 h with ⟨hm, h⟩ | ⟨-, h⟩
    · rw [Nat.eq_of_beq_eq_true hm]; exact rck_ok (tb := tr207) (fun _ => rfl) ck207 h
    · cases h

set_option maxRecDepth 100000 in
theorem feabbbaab_ok {m pc : Nat} {f : rI} (h : feabbbaab m pc = some f) : decode (rB m) pc = .ok (f.1, f.2.1) ∧ rchk2 (rpool m) (rmaxl m) f.1 f.2.1 f.2.2 = true := by
  unfold feabbbaab at h
  rcases rcond2 h with ⟨-, h⟩ | ⟨-, h⟩
  · exact feabbbaaba_ok h
  · exact feabbbaabb_ok h

set_option maxRecDepth 100000 in
theorem feabbbaa_ok {m pc : Nat} {f : rI} (h : feabbbaa m pc = some f) : decode (rB m) pc = .ok (f.1, f.2.1) ∧ rchk2 (rpool m) (rmaxl m) f.1 f.2.1 f.2.2 = true := by
  unfold feabbbaa at h
  rcases rcond2 h with ⟨-, h⟩ | ⟨-, h⟩
  · exact feabbbaaa_ok h
  · exact feabbbaab_ok h

set_option maxRecDepth 100000 in
theorem feabbbaba_ok {m pc : Nat} {f : rI} (h : feabbbaba m pc = some f) : decode (rB m) pc = .ok (f.1, f.2.1) ∧ rchk2 (rpool m) (rmaxl m) f.1 f.2.1 f.2.2 = true := by
  unfold feabbbaba at h
  rcases rcond2 h with ⟨hm, h⟩ | ⟨-, h⟩
  · rw [Nat.eq_of_beq_eq_true hm]; exact rck_ok (tb := tr208) (fun _ => rfl) ck208 h
  · skip
    rcases rcond2 h with ⟨hm, h⟩ | ⟨-, h⟩
    · rw [Nat.eq_of_beq_eq_true hm]; exact rck_ok (tb := tr209) (fun _ => rfl) ck209 h
    · skip
      rcases rcond2 h with ⟨hm, h⟩ | ⟨-, h⟩
      · rw [Nat.eq_of_beq_eq_true hm]; exact rck_ok (tb := tr210) (fun _ => rfl) ck210 h
      · cases h

set_option maxRecDepth 100000 in
theorem feabbbabba_ok {m pc : Nat} {f : rI} (h : feabbbabba m pc = some f) : decode (rB m) pc = .ok (f.1, f.2.1) ∧ rchk2 (rpool m) (rmaxl m) f.1 f.2.1 f.2.2 = true := by
  unfold feabbbabba at h
  rcases rcond2 h with ⟨hm, h⟩ | ⟨-, h⟩
  · rw [Nat.eq_of_beq_eq_true hm]; exact rck_ok (tb := tr211) (fun _ => rfl) ck211 h
  · skip
    rcases rcond2 h with ⟨hm, h⟩ | ⟨-, h⟩
    · rw [Nat.eq_of_beq_eq_true hm]; exact rck_ok (tb := tr212) (fun _ => rfl) ck212 h
    · cases h

set_option maxRecDepth 100000 in
theorem feabbbabbb_ok {m pc : Nat} {f : rI} (h : feabbbabbb m pc = some f) : decode (rB m) pc = .ok (f.1, f.2.1) ∧ rchk2 (rpool m) (rmaxl m) f.1 f.2.1 f.2.2 = true := by
  unfold feabbbabbb at h
  rcases rcond2 h with ⟨hm, h⟩ | ⟨-, h⟩
  · rw [Nat.eq_of_beq_eq_true hm]; exact rck_ok (tb := tr213) (fun _ => rfl) ck213 h
  · skip
    rcases rcond2 h with ⟨hm, h⟩ | ⟨-, h⟩
    · rw [Nat.eq_of_beq_eq_true hm]; exact rck_ok (tb := tr214) (fun _ => rfl) ck214 h
    · cases h

set_option maxRecDepth 100000 in
theorem feabbbabb_ok {m pc : Nat} {f : rI} (h : feabbbabb m pc = some f) : decode (rB m) pc = .ok (f.1, f.2.1) ∧ rchk2 (rpool m) (rmaxl m) f.1 f.2.1 f.2.2 = true := by
  unfold feabbbabb at h
  rcases rcond2 h with ⟨-, h⟩ | ⟨-, h⟩
  · exact feabbbabba_ok h
  · exact feabbbabbb_ok h

set_option maxRecDepth 100000 in
theorem feabbbab_ok {m pc : Nat} {f : rI} (h : feabbbab m pc = some f) : decode (rB m) pc = .ok (f.1, f.2.1) ∧ rchk2 (rpool m) (rmaxl m) f.1 f.2.1 f.2.2 = true := by
  unfold feabbbab at h
  rcases rcond2 h with ⟨-, h⟩ | ⟨-, h⟩
  · exact feabbbaba_ok h
  · exact feabbbabb_ok h

set_option maxRecDepth 100000 in
theorem feabbba_ok {m pc : Nat} {f : rI} (h : feabbba m pc = some f) : decode (rB m) pc = .ok (f.1, f.2.1) ∧ rchk2 (rpool m) (rmaxl m) f.1 f.2.1 f.2.2 = true := by
  unfold feabbba at h
  rcases rcond2 h with ⟨-, h⟩ | ⟨-, h⟩
  · exact feabbbaa_ok h
  · exact feabbbab_ok h

set_option maxRecDepth 100000 in
theorem feabbbbaa_ok {m pc : Nat} {f : rI} (h : feabbbbaa m pc = some f) : decode (rB m) pc = .ok (f.1, f.2.1) ∧ rchk2 (rpool m) (rmaxl m) f.1 f.2.1 f.2.2 = true := by
  unfold feabbbbaa at h
  rcases rcond2 h with ⟨hm, h⟩ | ⟨-, h⟩
  · rw [Nat.eq_of_beq_eq_true hm]; exact rck_ok (tb := tr215) (fun _ => rfl) ck215 h
  · skip
    rcases rcond2 h with ⟨hm, h⟩ | ⟨-, h⟩
    · rw [Nat.eq_of_beq_eq_true hm]; exact rck_ok (tb := tr216) (fun _ => rfl) ck216 h
    · skip
      rcases rcond2 h with ⟨hm, h⟩ | ⟨-, h⟩
      · rw [Nat.eq_of_beq_eq_true hm]; exact rck_ok (tb := tr217) (fun _ => rfl) ck217 h
      · cases h

set_option maxRecDepth 100000 in
theorem feabbbbaba_ok {m pc : Nat} {f : rI} (h : feabbbbaba m pc = some f) : decode (rB m) pc = .ok (f.1, f.2.1) ∧ rchk2 (rpool m) (rmaxl m) f.1 f.2.1 f.2.2 = true := by
  unfold feabbbbaba at h
  rcases rcond2 h with ⟨hm, h⟩ | ⟨-, h⟩
  · rw [Nat.eq_of_beq_eq_true hm]; exact rck_ok (tb := tr218) (fun _ => rfl) ck218 h
  · skip
    rcases rcond2 h with ⟨hm, h⟩ | ⟨-, h⟩
    · rw [Nat.eq_of_beq_eq_true hm]; exact rck_ok (tb := tr219) (fun _ => rfl) ck219 h
    · cases h

set_option maxRecDepth 100000 in
theorem feabbbbabb_ok {m pc : Nat} {f : rI} (h : feabbbbabb m pc = some f) : decode (rB m) pc = .ok (f.1, f.2.1) ∧ rchk2 (rpool m) (rmaxl m) f.1 f.2.1 f.2.2 = true := by
  unfold feabbbbabb at h
  rcases rcond2 h with ⟨hm, h⟩ | ⟨-, h⟩
  · rw [Nat.eq_of_beq_eq_true hm]; exact rck_ok (tb := tr220) (fun _ => rfl) ck220 h
  · skip
    rcases rcond2 h with ⟨hm, h⟩ | ⟨-, h⟩
    · rw [Nat.eq_of_beq_eq_true hm]; exact rck_ok (tb := tr221) (fun _ => rfl) ck221 h
    · cases h

set_option maxRecDepth 100000 in
theorem feabbbbab_ok {m pc : Nat} {f : rI} (h : feabbbbab m pc = some f) : decode (rB m) pc = .ok (f.1, f.2.1) ∧ rchk2 (rpool m) (rmaxl m) f.1 f.2.1 f.2.2 = true := by
  unfold feabbbbab at h
  rcases rcond2 h with ⟨-, h⟩ | ⟨-, h⟩
  · exact feabbbbaba_ok h
  · exact feabbbbabb_ok h

set_option maxRecDepth 100000 in
theorem feabbbba_ok {m pc : Nat} {f : rI} (h : feabbbba m pc = some f) : decode (rB m) pc = .ok (f.1, f.2.1) ∧ rchk2 (rpool m) (rmaxl m) f.1 f.2.1 f.2.2 = true := by
  unfold feabbbba at h
  rcases rcond2 h with ⟨-, h⟩ | ⟨-, h⟩
  · exact feabbbbaa_ok h
  · exact feabbbbab_ok h

set_option maxRecDepth 100000 in
theorem feabbbbbaa_ok {m pc : Nat} {f : rI} (h : feabbbbbaa m pc = some f) : decode (rB m) pc = .ok (f.1, f.2.1) ∧ rchk2 (rpool m) (rmaxl m) f.1 f.2.1 f.2.2 = true := by
  unfold feabbbbbaa at h
  rcases rcond2 h with ⟨hm, h⟩ | ⟨-, h⟩
  · rw [Nat.eq_of_beq_eq_true hm]; exact rck_ok (tb := tr222) (fun _ => rfl) ck222 h
  · skip
    rcases rcond2 h with ⟨hm, h⟩ | ⟨-, h⟩
    · rw [Nat.eq_of_beq_eq_true hm]; exact rck_ok (tb := tr223) (fun _ => rfl) ck223 h
    · cases h

set_option maxRecDepth 100000 in
theorem feabbbbbab_ok {m pc : Nat} {f : rI} (h : feabbbbbab m pc = some f) : decode (rB m) pc = .ok (f.1, f.2.1) ∧ rchk2 (rpool m) (rmaxl m) f.1 f.2.1 f.2.2 = true := by
  unfold feabbbbbab at h
  rcases rcond2 h with ⟨hm, h⟩ | ⟨-, h⟩
  · rw [Nat.eq_of_beq_eq_true hm]; exact rck_ok (tb := tr224) (fun _ => rfl) ck224 h
  · skip
    rcases rcond2 h with ⟨hm, h⟩ | ⟨-, h⟩
    · rw [Nat.eq_of_beq_eq_true hm]; exact rck_ok (tb := tr225) (fun _ => rfl) ck225 h
    · cases h

set_option maxRecDepth 100000 in
theorem feabbbbba_ok {m pc : Nat} {f : rI} (h : feabbbbba m pc = some f) : decode (rB m) pc = .ok (f.1, f.2.1) ∧ rchk2 (rpool m) (rmaxl m) f.1 f.2.1 f.2.2 = true := by
  unfold feabbbbba at h
  rcases rcond2 h with ⟨-, h⟩ | ⟨-, h⟩
  · exact feabbbbbaa_ok h
  · exact feabbbbbab_ok h

set_option maxRecDepth 100000 in
theorem feabbbbbba_ok {m pc : Nat} {f : rI} (h : feabbbbbba m pc = some f) : decode (rB m) pc = .ok (f.1, f.2.1) ∧ rchk2 (rpool m) (rmaxl m) f.1 f.2.1 f.2.2 = true := by
  unfold feabbbbbba at h
  rcases rcond2 h with ⟨hm, h⟩ | ⟨-, h⟩
  · rw [Nat.eq_of_beq_eq_true hm]; exact rck_ok (tb := tr226) (fun _ => rfl) ck226 h
  · skip
    rcases rcond2 h with ⟨hm, h⟩ | ⟨-, h⟩
    · rw [Nat.eq_of_beq_eq_true hm]; exact rck_ok (tb := tr227) (fun _ => rfl) ck227 h
    · cases h

set_option maxRecDepth 100000 in
theorem feabbbbbbb_ok {m pc : Nat} {f : rI} (h : feabbbbbbb m pc = some f) : decode (rB m) pc = .ok (f.1, f.2.1) ∧ rchk2 (rpool m) (rmaxl m) f.1 f.2.1 f.2.2 = true := by
  unfold feabbbbbbb at h
  rcases rcond2 h with ⟨hm, h⟩ | ⟨-, h⟩
  · rw [Nat.eq_of_beq_eq_true hm]; exact rck_ok (tb := tr228) (fun _ => rfl) ck228 h
  · skip
    rcases rcond2 h with ⟨hm, h⟩ | ⟨-, h⟩
    · rw [Nat.eq_of_beq_eq_true hm]; exact rck_ok (tb := tr229) (fun _ => rfl) ck229 h
    · cases h

set_option maxRecDepth 100000 in
theorem feabbbbbb_ok {m pc : Nat} {f : rI} (h : feabbbbbb m pc = some f) : decode (rB m) pc = .ok (f.1, f.2.1) ∧ rchk2 (rpool m) (rmaxl m) f.1 f.2.1 f.2.2 = true := by
  unfold feabbbbbb at h
  rcases rcond2 h with ⟨-, h⟩ | ⟨-, h⟩
  · exact feabbbbbba_ok h
  · exact feabbbbbbb_ok h

set_option maxRecDepth 100000 in
theorem feabbbbb_ok {m pc : Nat} {f : rI} (h : feabbbbb m pc = some f) : decode (rB m) pc = .ok (f.1, f.2.1) ∧ rchk2 (rpool m) (rmaxl m) f.1 f.2.1 f.2.2 = true := by
  unfold feabbbbb at h
  rcases rcond2 h with ⟨-, h⟩ | ⟨-, h⟩
  · exact feabbbbba_ok h
  · exact feabbbbbb_ok h

set_option maxRecDepth 100000 in
theorem feabbbb_ok {m pc : Nat} {f : rI} (h : feabbbb m pc = some f) : decode (rB m) pc = .ok (f.1, f.2.1) ∧ rchk2 (rpool m) (rmaxl m) f.1 f.2.1 f.2.2 = true := by
  unfold feabbbb at h
  rcases rcond2 h with ⟨-, h⟩ | ⟨-, h⟩
  · exact feabbbba_ok h
  · exact feabbbbb_ok h

set_option maxRecDepth 100000 in
theorem feabbb_ok {m pc : Nat} {f : rI} (h : feabbb m pc = some f) : decode (rB m) pc = .ok (f.1, f.2.1) ∧ rchk2 (rpool m) (rmaxl m) f.1 f.2.1 f.2.2 = true := by
  unfold feabbb at h
  rcases rcond2 h with ⟨-, h⟩ | ⟨-, h⟩
  · exact feabbba_ok h
  · exact feabbbb_ok h

set_option maxRecDepth 100000 in
theorem feabb_ok {m pc : Nat} {f : rI} (h : feabb m pc = some f) : decode (rB m) pc = .ok (f.1, f.2.1) ∧ rchk2 (rpool m) (rmaxl m) f.1 f.2.1 f.2.2 = true := by
  unfold feabb at h
  rcases rcond2 h with ⟨-, h⟩ | ⟨-, h⟩
  · exact feabba_ok h
  · exact feabbb_ok h

set_option maxRecDepth 100000 in
theorem feab_ok {m pc : Nat} {f : rI} (h : feab m pc = some f) : decode (rB m) pc = .ok (f.1, f.2.1) ∧ rchk2 (rpool m) (rmaxl m) f.1 f.2.1 f.2.2 = true := by
  unfold feab at h
  rcases rcond2 h with ⟨-, h⟩ | ⟨-, h⟩
  · exact feaba_ok h
  · exact feabb_ok h

set_option maxRecDepth 100000 in
theorem fea_ok {m pc : Nat} {f : rI} (h : fea m pc = some f) : decode (rB m) pc = .ok (f.1, f.2.1) ∧ rchk2 (rpool m) (rmaxl m) f.1 f.2.1 f.2.2 = true := by
  unfold fea at h
  rcases rcond2 h with ⟨-, h⟩ | ⟨-, h⟩
  · exact feaa_ok h
  · exact feab_ok h

set_option maxRecDepth 100000 in
theorem febaaaaaa_ok {m pc : Nat} {f : rI} (h : febaaaaaa m pc = some f) : decode (rB m) pc = .ok (f.1, f.2.1) ∧ rchk2 (rpool m) (rmaxl m) f.1 f.2.1 f.2.2 = true := by
  unfold febaaaaaa at h
  rcases rcond2 h with ⟨hm, h⟩ | ⟨-, h⟩
  · rw [Nat.eq_of_beq_eq_true hm]; exact rck_ok (tb := tr230) (fun _ => rfl) ck230 h
  · skip
    rcases rcond2 h with ⟨hm, h⟩ | ⟨-, h⟩
    · rw [Nat.eq_of_beq_eq_true hm]; exact rck_ok (tb := tr231) (fun _ => rfl) ck231 h
    · skip
      rcases rcond2 h with ⟨hm, h⟩ | ⟨-, h⟩
      · rw [Nat.eq_of_beq_eq_true hm]; exact rck_ok (tb := tr232) (fun _ => rfl) ck232 h
      · cases h

set_option maxRecDepth 100000 in
theorem febaaaaaba_ok {m pc : Nat} {f : rI} (h : febaaaaaba m pc = some f) : decode (rB m) pc = .ok (f.1, f.2.1) ∧ rchk2 (rpool m) (rmaxl m) f.1 f.2.1 f.2.2 = true := by
  unfold febaaaaaba at h
  rcases rcond2 h with ⟨hm, h⟩ | ⟨-, h⟩
  · rw [Nat.eq_of_beq_eq_true hm]; exact rck_ok (tb := tr233) (fun _ => rfl) ck233 h
  · skip
    rcases rcond2 h with ⟨hm, h⟩ | ⟨-, h⟩
    · rw [Nat.eq_of_beq_eq_true hm]; exact rck_ok (tb := tr234) (fun _ => rfl) ck234 h
    · cases h

set_option maxRecDepth 100000 in
theorem febaaaaabb_ok {m pc : Nat} {f : rI} (h : febaaaaabb m pc = some f) : decode (rB m) pc = .ok (f.1, f.2.1) ∧ rchk2 (rpool m) (rmaxl m) f.1 f.2.1 f.2.2 = true := by
  unfold febaaaaabb at h
  rcases rcond2 h with ⟨hm, h⟩ | ⟨-, h⟩
  · rw [Nat.eq_of_beq_eq_true hm]; exact rck_ok (tb := tr235) (fun _ => rfl) ck235 h
  · skip
    rcases rcond2 h with ⟨hm, h⟩ | ⟨-, h⟩
    · rw [Nat.eq_of_beq_eq_true hm]; exact rck_ok (tb := tr236) (fun _ => rfl) ck236 h
    · cases h

set_option maxRecDepth 100000 in
theorem febaaaaab_ok {m pc : Nat} {f : rI} (h : febaaaaab m pc = some f) : decode (rB m) pc = .ok (f.1, f.2.1) ∧ rchk2 (rpool m) (rmaxl m) f.1 f.2.1 f.2.2 = true := by
  unfold febaaaaab at h
  rcases rcond2 h with ⟨-, h⟩ | ⟨-, h⟩
  · exact febaaaaaba_ok h
  · exact febaaaaabb_ok h

set_option maxRecDepth 100000 in
theorem febaaaaa_ok {m pc : Nat} {f : rI} (h : febaaaaa m pc = some f) : decode (rB m) pc = .ok (f.1, f.2.1) ∧ rchk2 (rpool m) (rmaxl m) f.1 f.2.1 f.2.2 = true := by
  unfold febaaaaa at h
  rcases rcond2 h with ⟨-, h⟩ | ⟨-, h⟩
  · exact febaaaaaa_ok h
  · exact febaaaaab_ok h

set_option maxRecDepth 100000 in
theorem febaaaaba_ok {m pc : Nat} {f : rI} (h : febaaaaba m pc = some f) : decode (rB m) pc = .ok (f.1, f.2.1) ∧ rchk2 (rpool m) (rmaxl m) f.1 f.2.1 f.2.2 = true := by
  unfold febaaaaba at h
  rcases rcond2 h with ⟨hm, h⟩ | ⟨-, h⟩
  · rw [Nat.eq_of_beq_eq_true hm]; exact rck_ok (tb := tr237) (fun _ => rfl) ck237 h
  · skip
    rcases rcond2 h with ⟨hm, h⟩ | ⟨-, h⟩
    · rw [Nat.eq_of_beq_eq_true hm]; exact rck_ok (tb := tr238) (fun _ => rfl) ck238 h
    · skip
      rcases rcond2 h with ⟨hm, h⟩ | ⟨-, h⟩
      · rw [Nat.eq_of_beq_eq_true hm]; exact rck_ok (tb := tr239) (fun _ => rfl) ck239 h
      · cases h

set_option maxRecDepth 100000 in
theorem febaaaabba_ok {m pc : Nat} {f : rI} (h : febaaaabba m pc = some f) : decode (rB m) pc = .ok (f.1, f.2.1) ∧ rchk2 (rpool m) (rmaxl m) f.1 f.2.1 f.2.2 = true := by
  unfold febaaaabba at h
  rcases rcond2 h with ⟨hm, h⟩ | ⟨-, h⟩
  · rw [Nat.eq_of_beq_eq_true hm]; exact rck_ok (tb := tr240) (fun _ => rfl) ck240 h
  · skip
    rcases rcond2 h with ⟨hm, h⟩ | ⟨-, h⟩
    · rw [Nat.eq_of_beq_eq_true hm]; exact rck_ok (tb := tr241) (fun _ => rfl) ck241 h
    · cases h

set_option maxRecDepth 100000 in
theorem febaaaabbb_ok {m pc : Nat} {f : rI} (h : febaaaabbb m pc = some f) : decode (rB m) pc = .ok (f.1, f.2.1) ∧ rchk2 (rpool m) (rmaxl m) f.1 f.2.1 f.2.2 = true := by
  unfold febaaaabbb at h
  rcases rcond2 h with ⟨hm, h⟩ | ⟨-, h⟩
  · rw [Nat.eq_of_beq_eq_true hm]; exact rck_ok (tb := tr242) (fun _ => rfl) ck242 h
  · skip
    rcases rcond2 h with ⟨hm, h⟩ | ⟨-, h⟩
    · rw [Nat.eq_of_beq_eq_true hm]; exact rck_ok (tb := tr243) (fun _ => rfl) ck243 h
    · cases h

set_option maxRecDepth 100000 in
theorem febaaaabb_ok {m pc : Nat} {f : rI} (h : febaaaabb m pc = some f) : decode (rB m) pc = .ok (f.1, f.2.1) ∧ rchk2 (rpool m) (rmaxl m) f.1 f.2.1 f.2.2 = true := by
  unfold febaaaabb at h
  rcases rcond2 h with ⟨-, h⟩ | ⟨-, h⟩
  · exact febaaaabba_ok h
  · exact febaaaabbb_ok h

set_option maxRecDepth 100000 in
theorem febaaaab_ok {m pc : Nat} {f : rI} (h : febaaaab m pc = some f) : decode (rB m) pc = .ok (f.1, f.2.1) ∧ rchk2 (rpool m) (rmaxl m) f.1 f.2.1 f.2.2 = true := by
  unfold febaaaab at h
  rcases rcond2 h with ⟨-, h⟩ | ⟨-, h⟩
  · exact febaaaaba_ok h
  · exact febaaaabb_ok h

set_option maxRecDepth 100000 in
theorem febaaaa_ok {m pc : Nat} {f : rI} (h : febaaaa m pc = some f) : decode (rB m) pc = .ok (f.1, f.2.1) ∧ rchk2 (rpool m) (rmaxl m) f.1 f.2.1 f.2.2 = true := by
  unfold febaaaa at h
  rcases rcond2 h with ⟨-, h⟩ | ⟨-, h⟩
  · exact febaaaaa_ok h
  · exact febaaaab_ok h

set_option maxRecDepth 100000 in
theorem febaaabaa_ok {m pc : Nat} {f : rI} (h : febaaabaa m pc = some f) : decode (rB m) pc = .ok (f.1, f.2.1) ∧ rchk2 (rpool m) (rmaxl m) f.1 f.2.1 f.2.2 = true := by
  unfold febaaabaa at h
  rcases rcond2 h with ⟨hm, h⟩ | ⟨-, h⟩
  · rw [Nat.eq_of_beq_eq_true hm]; exact rck_ok (tb := tr244) (fun _ => rfl) ck244 h
  · skip
    rcases rcond2 h with ⟨hm, h⟩ | ⟨-, h⟩
    · rw [Nat.eq_of_beq_eq_true hm]; exact rck_ok (tb := tr245) (fun _ => rfl) ck245 h
    · skip
      rcases rcond2 h with ⟨hm, h⟩ | ⟨-, h⟩
      · rw [Nat.eq_of_beq_eq_true hm]; exact rck_ok (tb := tr246) (fun _ => rfl) ck246 h
      · cases h

set_option maxRecDepth 100000 in
theorem febaaababa_ok {m pc : Nat} {f : rI} (h : febaaababa m pc = some f) : decode (rB m) pc = .ok (f.1, f.2.1) ∧ rchk2 (rpool m) (rmaxl m) f.1 f.2.1 f.2.2 = true := by
  unfold febaaababa at h
  rcases rcond2 h with ⟨hm, h⟩ | ⟨-, h⟩
  · rw [Nat.eq_of_beq_eq_true hm]; exact rck_ok (tb := tr247) (fun _ => rfl) ck247 h
  · skip
    rcases rcond2 h with ⟨hm, h⟩ | ⟨-, h⟩
    · rw [Nat.eq_of_beq_eq_true hm]; exact rck_ok (tb := tr248) (fun _ => rfl) ck248 h
    · cases h

set_option maxRecDepth 100000 in
theorem febaaababb_ok {m pc : Nat} {f : rI} (h : febaaababb m pc = some f) : decode (rB m) pc = .ok (f.1, f.2.1) ∧ rchk2 (rpool m) (rmaxl m) f.1 f.2.1 f.2.2 = true := by
  unfold febaaababb at h
  rcases rcond2 h with ⟨hm, h⟩ | ⟨-, h⟩
  · rw [Nat.eq_of_beq_eq_true hm]; exact rck_ok (tb := tr249) (fun _ => rfl) ck249 h
  · skip
    rcases rcond2 h with ⟨hm, h⟩ | ⟨-, h⟩
    · rw [Nat.eq_of_beq_eq_true hm]; exact rck_ok (tb := tr250) (fun _ => rfl) ck250 h
    · cases h

set_option maxRecDepth 100000 in
theorem febaaabab_ok {m pc : Nat} {f : rI} (h : febaaabab m pc = some f) : decode (rB m) pc = .ok (f.1, f.2.1) ∧ rchk2 (rpool m) (rmaxl m) f.1 f.2.1 f.2.2 = true := by
  unfold febaaabab at h
  rcases rcond2 h with ⟨-, h⟩ | ⟨-, h⟩
  · exact febaaababa_ok h
  · exact febaaababb_ok h

set_option maxRecDepth 100000 in
theorem febaaaba_ok {m pc : Nat} {f : rI} (h : febaaaba m pc = some f) : decode (rB m) pc = .ok (f.1, f.2.1) ∧ rchk2 (rpool m) (rmaxl m) f.1 f.2.1 f.2.2 = true := by
  unfold febaaaba at h
  rcases rcond2 h with ⟨-, h⟩ | ⟨-, h⟩
  · exact febaaabaa_ok h
  · exact febaaabab_ok h

set_option maxRecDepth 100000 in
theorem febaaabba_ok {m pc : Nat} {f : rI} (h : febaaabba m pc = some f) : decode (rB m) pc = .ok (f.1, f.2.1) ∧ rchk2 (rpool m) (rmaxl m) f.1 f.2.1 f.2.2 = true := by
  unfold febaaabba at h
  rcases rcond2 h with ⟨hm, h⟩ | ⟨-, h⟩
  · rw [Nat.eq_of_beq_eq_true hm]; exact rck_ok (tb := tr251) (fun _ => rfl) ck251 h
  · skip
    rcases rcond2 h with ⟨hm, h⟩ | ⟨-, h⟩
    · rw [Nat.eq_of_beq_eq_true hm]; exact rck_ok (tb := tr252) (fun _ => rfl) ck252 h
    · skip
      rcases rcond2 h with ⟨hm, h⟩ | ⟨-, h⟩
      · rw [Nat.eq_of_beq_eq_true hm]; exact rck_ok (tb := tr253) (fun _ => rfl) ck253 h
      · cases h

set_option maxRecDepth 100000 in
theorem febaaabbba_ok {m pc : Nat} {f : rI} (h : febaaabbba m pc = some f) : decode (rB m) pc = .ok (f.1, f.2.1) ∧ rchk2 (rpool m) (rmaxl m) f.1 f.2.1 f.2.2 = true := by
  unfold febaaabbba at h
  rcases rcond2 h with ⟨hm, h⟩ | ⟨-, h⟩
  · rw [Nat.eq_of_beq_eq_true hm]; exact rck_ok (tb := tr254) (fun _ => rfl) ck254 h
  · skip
    rcases rcond2 h with ⟨hm, h⟩ | ⟨-, h⟩
    · rw [Nat.eq_of_beq_eq_true hm]; exact rck_ok (tb := tr255) (fun _ => rfl) ck255 h
    · cases h

set_option maxRecDepth 100000 in
theorem febaaabbbb_ok {m pc : Nat} {f : rI} (h : febaaabbbb m pc = some f) : decode (rB m) pc = .ok (f.1, f.2.1) ∧ rchk2 (rpool m) (rmaxl m) f.1 f.2.1 f.2.2 = true := by
  unfold febaaabbbb at h
  rcases rcond2 h with ⟨hm, h⟩ | ⟨-, h⟩
  · rw [Nat.eq_of_beq_eq_true hm]; exact rck_ok (tb := tr256) (fun _ => rfl) ck256 h
  · skip
    rcases rcond2 h with ⟨hm, h⟩ | ⟨-, h⟩
    · rw [Nat.eq_of_beq_eq_true hm]; exact rck_ok (tb := tr257) (fun _ => rfl) ck257 h
    · cases h

set_option maxRecDepth 100000 in
theorem febaaabbb_ok {m pc : Nat} {f : rI} (h : febaaabbb m pc = some f) : decode (rB m) pc = .ok (f.1, f.2.1) ∧ rchk2 (rpool m) (rmaxl m) f.1 f.2.1 f.2.2 = true := by
  unfold febaaabbb at h
  rcases rcond2 h with ⟨-, h⟩ | ⟨-, h⟩
  · exact febaaabbba_ok h
  · exact febaaabbbb_ok h

set_option maxRecDepth 100000 in
theorem febaaabb_ok {m pc : Nat} {f : rI} (h : febaaabb m pc = some f) : decode (rB m) pc = .ok (f.1, f.2.1) ∧ rchk2 (rpool m) (rmaxl m) f.1 f.2.1 f.2.2 = true := by
  unfold febaaabb at h
  rcases rcond2 h with ⟨-, h⟩ | ⟨-, h⟩
  · exact febaaabba_ok h
  · exact febaaabbb_ok h

set_option maxRecDepth 100000 in
theorem febaaab_ok {m pc : Nat} {f : rI} (h : febaaab m pc = some f) : decode (rB m) pc = .ok (f.1, f.2.1) ∧ rchk2 (rpool m) (rmaxl m) f.1 f.2.1 f.2.2 = true := by
  unfold febaaab at h
  rcases rcond2 h with ⟨-, h⟩ | ⟨-, h⟩
  · exact febaaaba_ok h
  · exact febaaabb_ok h

set_option maxRecDepth 100000 in
theorem febaaa_ok {m pc : Nat} {f : rI} (h : febaaa m pc = some f) : decode (rB m) pc = .ok (f.1, f.2.1) ∧ rchk2 (rpool m) (rmaxl m) f.1 f.2.1 f.2.2 = true := by
  unfold febaaa at h
  rcases rcond2 h with ⟨-, h⟩ | ⟨-, h⟩
  · exact febaaaa_ok h
  · exact febaaab_ok h

set_option maxRecDepth 100000 in
theorem febaabaaa_ok {m pc : Nat} {f : rI} (h : febaabaaa m pc = some f) : decode (rB m) pc = .ok (f.1, f.2.1) ∧ rchk2 (rpool m) (rmaxl m) f.1 f.2.1 f.2.2 = true := by
  unfold febaabaaa at h
  rcases rcond2 h with ⟨hm, h⟩ | ⟨-, h⟩
  · rw [Nat.eq_of_beq_eq_true hm]; exact rck_ok (tb := tr258) (fun _ => rfl) ck258 h
  · skip
    rcases rcond2 h with ⟨hm, h⟩ | ⟨-, h⟩
    · rw [Nat.eq_of_beq_eq_true hm]; exact rck_ok (tb := tr259) (fun _ => rfl) ck259 h
    · skip
      rcases rcond2 h with ⟨hm, h⟩ | ⟨-, h⟩
      · rw [Nat.eq_of_beq_eq_true hm]; exact rck_ok (tb := tr260) (fun _ => rfl) ck260 h
      · cases h

set_option maxRecDepth 100000 in
theorem febaabaaba_ok {m pc : Nat} {f : rI} (h : febaabaaba m pc = some f) : decode (rB m) pc = .ok (f.1, f.2.1) ∧ rchk2 (rpool m) (rmaxl m) f.1 f.2.1 f.2.2 = true := by
  unfold febaabaaba at h
  rcases rcond2 h with ⟨hm, h⟩ | ⟨-, h⟩
  · rw [Nat.eq_of_beq_eq_true hm]; exact rck_ok (tb := tr261) (fun _ => rfl) ck261 h
  · skip
    rcases rcond2 h with ⟨hm, h⟩ | ⟨-, h⟩
    · rw [Nat.eq_of_beq_eq_true hm]; exact rck_ok (tb := tr262) (fun _ => rfl) ck262 h
    · cases h

set_option maxRecDepth 100000 in
theorem febaabaabb_ok {m pc : Nat} {f : rI} (h : febaabaabb m pc = some f) : decode (rB m) pc = .ok (f.1, f.2.1) ∧ rchk2 (rpool m) (rmaxl m) f.1 f.2.1 f.2.2 = true := by
  unfold febaabaabb at h
  rcases rcond2 h with ⟨hm, h⟩ | ⟨-, h⟩
  · rw [Nat.eq_of_beq_eq_true hm]; exact rck_ok (tb := tr263) (fun _ => rfl) ck263 h
  · skip
    rcases rcond2 h with ⟨hm, h⟩ | ⟨-, h⟩
    · rw [Nat.eq_of_beq_eq_true hm]; exact rck_ok (tb := tr264) (fun _ => rfl) ck264 h
    · cases h

set_option maxRecDepth 100000 in
theorem febaabaab_ok {m pc : Nat} {f : rI} (h : febaabaab m pc = some f) : decode (rB m) pc = .ok (f.1, f.2.1) ∧ rchk2 (rpool m) (rmaxl m) f.1 f.2.1 f.2.2 = true := by
  unfold febaabaab at h
  rcases rcond2 h with ⟨-, h⟩ | ⟨-, h⟩
  · exact febaabaaba_ok h
  · exact febaabaabb_ok h

set_option maxRecDepth 100000 in
theorem febaabaa_ok {m pc : Nat} {f : rI} (h : febaabaa m pc = some f) : decode (rB m) pc = .ok (f.1, f.2.1) ∧ rchk2 (rpool m) (rmaxl m) f.1 f.2.1 f.2.2 = true := by
  unfold febaabaa at h
  rcases rcond2 h with ⟨-, h⟩ | ⟨-, h⟩
  · exact febaabaaa_ok h
  · exact febaabaab_ok h

set_option maxRecDepth 100000 in
theorem febaababa_ok {m pc : Nat} {f : rI} (h : febaababa m pc = some f) : decode (rB m) pc = .ok (f.1, f.2.1) ∧ rchk2 (rpool m) (rmaxl m) f.1 f.2.1 f.2.2 = true := by
  unfold febaababa at h
  rcases rcond2 h with ⟨hm, h⟩ | ⟨-, h⟩
  · rw [Nat.eq_of_beq_eq_true hm]; exact rck_ok (tb := tr265) (fun _ => rfl) ck265 h
  · skip
    rcases rcond2 h with ⟨hm, h⟩ | ⟨-, h⟩
    · rw [Nat.eq_of_beq_eq_true hm]; exact rck_ok (tb := tr266) (fun _ => rfl) ck266 h
    · skip
      rcases rcond2 h with ⟨hm, h⟩ | ⟨-, h⟩
      · rw [Nat.eq_of_beq_eq_true hm]; exact rck_ok (tb := tr267) (fun _ => rfl) ck267 h
      · cases h

set_option maxRecDepth 100000 in
theorem febaababba_ok {m pc : Nat} {f : rI} (h : febaababba m pc = some f) : decode (rB m) pc = .ok (f.1, f.2.1) ∧ rchk2 (rpool m) (rmaxl m) f.1 f.2.1 f.2.2 = true := by
  unfold febaababba at h
  rcases rcond2 h with ⟨hm, h⟩ | ⟨-, h⟩
  · rw [Nat.eq_of_beq_eq_true hm]; exact rck_ok (tb := tr268) (fun _ => rfl) ck268 h
  · skip
    rcases rcond2 h with ⟨hm, h⟩ | ⟨-, h⟩
    · rw [Nat.eq_of_beq_eq_true hm]; exact rck_ok (tb := tr269) (fun _ => rfl) ck269 h
    · cases h

set_option maxRecDepth 100000 in
theorem febaababbb_ok {m pc : Nat} {f : rI} (h : febaababbb m pc = some f) : decode (rB m) pc = .ok (f.1, f.2.1) ∧ rchk2 (rpool m) (rmaxl m) f.1 f.2.1 f.2.2 = true := by
  unfold febaababbb at h
  rcases rcond2 h with ⟨hm, h⟩ | ⟨-, h⟩
  · rw [Nat.eq_of_beq_eq_true hm]; exact rck_ok (tb := tr270) (fun _ => rfl) ck270 h
  · skip
    rcases rcond2 h with ⟨hm, h⟩ | ⟨-, h⟩
    · rw [Nat.eq_of_beq_eq_true hm]; exact rck_ok (tb := tr271) (fun _ => rfl) ck271 h
    · cases h

set_option maxRecDepth 100000 in
theorem febaababb_ok {m pc : Nat} {f : rI} (h : febaababb m pc = some f) : decode (rB m) pc = .ok (f.1, f.2.1) ∧ rchk2 (rpool m) (rmaxl m) f.1 f.2.1 f.2.2 = true := by
  unfold febaababb at h
  rcases rcond2 h with ⟨-, h⟩ | ⟨-, h⟩
  · exact febaababba_ok h
  · exact febaababbb_ok h

set_option maxRecDepth 100000 in
theorem febaabab_ok {m pc : Nat} {f : rI} (h : febaabab m pc = some f) : decode (rB m) pc = .ok (f.1, f.2.1) ∧ rchk2 (rpool m) (rmaxl m) f.1 f.2.1 f.2.2 = true := by
  unfold febaabab at h
  rcases rcond2 h with ⟨-, h⟩ | ⟨-, h⟩
  · exact febaababa_ok h
  · exact febaababb_ok h

set_option maxRecDepth 100000 in
theorem febaaba_ok {m pc : Nat} {f : rI} (h : febaaba m pc = some f) : decode (rB m) pc = .ok (f.1, f.2.1) ∧ rchk2 (rpool m) (rmaxl m) f.1 f.2.1 f.2.2 = true := by
  unfold febaaba at h
  rcases rcond2 h with ⟨-, h⟩ | ⟨-, h⟩
  · exact febaabaa_ok h
  · exact febaabab_ok h

set_option maxRecDepth 100000 in
theorem febaabbaa_ok {m pc : Nat} {f : rI} (h : febaabbaa m pc = some f) : decode (rB m) pc = .ok (f.1, f.2.1) ∧ rchk2 (rpool m) (rmaxl m) f.1 f.2.1 f.2.2 = true := by
  unfold febaabbaa at h
  rcases rcond2 h with ⟨hm, h⟩ | ⟨-, h⟩
  · rw [Nat.eq_of_beq_eq_true hm]; exact rck_ok (tb := tr272) (fun _ => rfl) ck272 h
  · skip
    rcases rcond2 h with ⟨hm, h⟩ | ⟨-, h⟩
    · rw [Nat.eq_of_beq_eq_true hm]; exact rck_ok (tb := tr273) (fun _ => rfl) ck273 h
    · skip
      rcases rcond2 h with ⟨hm, h⟩ | ⟨-, h⟩
      · rw [Nat.eq_of_beq_eq_true hm]; exact rck_ok (tb := tr274) (fun _ => rfl) ck274 h
      · cases h

set_option maxRecDepth 100000 in
theorem febaabbaba_ok {m pc : Nat} {f : rI} (h : febaabbaba m pc = some f) : decode (rB m) pc = .ok (f.1, f.2.1) ∧ rchk2 (rpool m) (rmaxl m) f.1 f.2.1 f.2.2 = true := by
  unfold febaabbaba at h
  rcases rcond2 h with ⟨hm, h⟩ | ⟨-, h⟩
  · rw [Nat.eq_of_beq_eq_true hm]; exact rck_ok (tb := tr275) (fun _ => rfl) ck275 h
  · skip
    rcases rcond2 h with ⟨hm, h⟩ | ⟨-, h⟩
    · rw [Nat.eq_of_beq_eq_true hm]; exact rck_ok (tb := tr276) (fun _ => rfl) ck276 h
    · cases h

set_option maxRecDepth 100000 in
theorem febaabbabb_ok {m pc : Nat} {f : rI} (h : febaabbabb m pc = some f) : decode (rB m) pc = .ok (f.1, f.2.1) ∧ rchk2 (rpool m) (rmaxl m) f.1 f.2.1 f.2.2 = true := by
  unfold febaabbabb at h
  rcases rcond2 h with ⟨hm, h⟩ | ⟨-, h⟩
  · rw [Nat.eq_of_beq_eq_true hm]; exact rck_ok (tb := tr277) (fun _ => rfl) ck277 h
  · skip
    rcases rcond2 h with ⟨hm, h⟩ | ⟨-, h⟩
    · rw [Nat.eq_of_beq_eq_true hm]; exact rck_ok (tb := tr278) (fun _ => rfl) ck278 h
    · cases h

set_option maxRecDepth 100000 in
theorem febaabbab_ok {m pc : Nat} {f : rI} (h : febaabbab m pc = some f) : decode (rB m) pc = .ok (f.1, f.2.1) ∧ rchk2 (rpool m) (rmaxl m) f.1 f.2.1 f.2.2 = true := by
  unfold febaabbab at h
  rcases rcond2 h with ⟨-, h⟩ | ⟨-, h⟩
  · exact febaabbaba_ok h
  · exact febaabbabb_ok h

set_option maxRecDepth 100000 in
theorem febaabba_ok {m pc : Nat} {f : rI} (h : febaabba m pc = some f) : decode (rB m) pc = .ok (f.1, f.2.1) ∧ rchk2 (rpool m) (rmaxl m) f.1 f.2.1 f.2.2 = true := by
  unfold febaabba at h
  rcases rcond2 h with ⟨-, h⟩ | ⟨-, h⟩
  · exact febaabbaa_ok h
  · exact febaabbab_ok h

set_option maxRecDepth 100000 in
theorem febaabbbaa_ok {m pc : Nat} {f : rI} (h : febaabbbaa m pc = some f) : decode (rB m) pc = .ok (f.1, f.2.1) ∧ rchk2 (rpool m) (rmaxl m) f.1 f.2.1 f.2.2 = true := by
  unfold febaabbbaa at h
  rcases rcond2 h with ⟨hm, h⟩ | ⟨-, h⟩
  · rw [Nat.eq_of_beq_eq_true hm]; exact rck_ok (tb := tr279) (fun _ => rfl) ck279 h
  · skip
    rcases rcond2 h with ⟨hm, h⟩ | ⟨-, h⟩
    · rw [Nat.eq_of_beq_eq_true hm]; exact rck_ok (tb := tr280) (fun _ => rfl) ck280 h
    · cases h

set_option maxRecDepth 100000 in
theorem febaabbbab_ok {m pc : Nat} {f : rI} (h : febaabbbab m pc = some f) : decode (rB m) pc = .ok (f.1, f.2.1) ∧ rchk2 (rpool m) (rmaxl m) f.1 f.2.1 f.2.2 = true := by
  unfold febaabbbab at h
  rcases rcond2 h with ⟨hm, h⟩ | ⟨-, h⟩
  · rw [Nat.eq_of_beq_eq_true hm]; exact rck_ok (tb := tr281) (fun _ => rfl) ck281 h
  · skip
    rcases rcond2 h with ⟨hm, h⟩ | ⟨-, h⟩
    · rw [Nat.eq_of_beq_eq_true hm]; exact rck_ok (tb := tr282) (fun _ => rfl) ck282 h
    · cases h

set_option maxRecDepth 100000 in
theorem febaabbba_ok {m pc : Nat} {f : rI} (h : febaabbba m pc = some f) : decode (rB m) pc = .ok (f.1, f.2.1) ∧ rchk2 (rpool m) (rmaxl m) f.1 f.2.1 f.2.2 = true := by
  unfold febaabbba at h
  rcases rcond2 h with ⟨-, h⟩ | ⟨-, h⟩
  · exact febaabbbaa_ok h
  · exact febaabbbab_ok h

set_option maxRecDepth 100000 in
theorem febaabbbba_ok {m pc : Nat} {f : rI} (h : febaabbbba m pc = some f) : decode (rB m) pc = .ok (f.1, f.2.1) ∧ rchk2 (rpool m) (rmaxl m) f.1 f.2.1 f.2.2 = true := by
  unfold febaabbbba at h
  rcases rcond2 h with ⟨hm, h⟩ | ⟨-, h⟩
  · rw [Nat.eq_of_beq_eq_true hm]; exact rck_ok (tb := tr283) (fun _ => rfl) ck283 h
  · skip
    rcases rcond2 h with ⟨hm, h⟩ | ⟨-, h⟩
    · rw [Nat.eq_of_beq_eq_true hm]; exact rck_ok (tb := tr284) (fun _ => rfl) ck284 h
    · cases h

set_option maxRecDepth 100000 in
theorem febaabbbbb_ok {m pc : Nat} {f : rI} (h : febaabbbbb m pc = some f) : decode (rB m) pc = .ok (f.1, f.2.1) ∧ rchk2 (rpool m) (rmaxl m) f.1 f.2.1 f.2.2 = true := by
  unfold febaabbbbb at h
  rcases rcond2 h with ⟨hm, h⟩ | ⟨-, h⟩
  · rw [Nat.eq_of_beq_eq_true hm]; exact rck_ok (tb := tr285) (fun _ => rfl) ck285 h
  · skip
    rcases rcond2 h with ⟨hm, h⟩ | ⟨-, h⟩
    · rw [Nat.eq_of_beq_eq_true hm]; exact rck_ok (tb := tr286) (fun _ => rfl) ck286 h
    · cases h

set_option maxRecDepth 100000 in
theorem febaabbbb_ok {m pc : Nat} {f : rI} (h : febaabbbb m pc = some f) : decode (rB m) pc = .ok (f.1, f.2.1) ∧ rchk2 (rpool m) (rmaxl m) f.1 f.2.1 f.2.2 = true := by
  unfold febaabbbb at h
  rcases rcond2 h with ⟨-, h⟩ | ⟨-, h⟩
  · exact febaabbbba_ok h
  · exact febaabbbbb_ok h

set_option maxRecDepth 100000 in
theorem febaabbb_ok {m pc : Nat} {f : rI} (h : febaabbb m pc = some f) : decode (rB m) pc = .ok (f.1, f.2.1) ∧ rchk2 (rpool m) (rmaxl m) f.1 f.2.1 f.2.2 = true := by
  unfold febaabbb at h
  rcases rcond2 h with ⟨-, h⟩ | ⟨-, h⟩
  · exact febaabbba_ok h
  · exact febaabbbb_ok h

set_option maxRecDepth 100000 in
theorem febaabb_ok {m pc : Nat} {f : rI} (h : febaabb m pc = some f) : decode (rB m) pc = .ok (f.1, f.2.1) ∧ rchk2 (rpool m) (rmaxl m) f.1 f.2.1 f.2.2 = true := by
  unfold febaabb at h
  rcases rcond2 h with ⟨-, h⟩ | ⟨-, h⟩
  · exact febaabba_ok h
  · exact febaabbb_ok h

set_option maxRecDepth 100000 in
theorem febaab_ok {m pc : Nat} {f : rI} (h : febaab m pc = some f) : decode (rB m) pc = .ok (f.1, f.2.1) ∧ rchk2 (rpool m) (rmaxl m) f.1 f.2.1 f.2.2 = true := by
  unfold febaab at h
  rcases rcond2 h with ⟨-, h⟩ | ⟨-, h⟩
  · exact febaaba_ok h
  · exact febaabb_ok h

set_option maxRecDepth 100000 in
theorem febaa_ok {m pc : Nat} {f : rI} (h : febaa m pc = some f) : decode (rB m) pc = .ok (f.1, f.2.1) ∧ rchk2 (rpool m) (rmaxl m) f.1 f.2.1 f.2.2 = true := by
  unfold febaa at h
  rcases rcond2 h with ⟨-, h⟩ | ⟨-, h⟩
  · exact febaaa_ok h
  · exact febaab_ok h

set_option maxRecDepth 100000 in
theorem febabaaaa_ok {m pc : Nat} {f : rI} (h : febabaaaa m pc = some f) : decode (rB m) pc = .ok (f.1, f.2.1) ∧ rchk2 (rpool m) (rmaxl m) f.1 f.2.1 f.2.2 = true := by
  unfold febabaaaa at h
  rcases rcond2 h with ⟨hm, h⟩ | ⟨-, h⟩
  · rw [Nat.eq_of_beq_eq_true hm]; exact rck_ok (tb := tr287) (fun _ => rfl) ck287 h
  · skip
    rcases rcond2 h with ⟨hm, h⟩ | ⟨-, h⟩
    · rw [Nat.eq_of_beq_eq_true hm]; exact rck_ok (tb := tr288) (fun _ => rfl) ck288 h
    · skip
      rcases rcond2 h with ⟨hm, h⟩ | ⟨-, h⟩
      · rw [Nat.eq_of_beq_eq_true hm]; exact rck_ok (tb := tr289) (fun _ => rfl) ck289 h
      · cases h

set_option maxRecDepth 100000 in
theorem febabaaaba_ok {m pc : Nat} {f : rI} (h : febabaaaba m pc = some f) : decode (rB m) pc = .ok (f.1, f.2.1) ∧ rchk2 (rpool m) (rmaxl m) f.1 f.2.1 f.2.2 = true := by
  unfold febabaaaba at h
  rcases rcond2 h with ⟨hm, h⟩ | ⟨-, h⟩
  · rw [Nat.eq_of_beq_eq_true hm]; exact rck_ok (tb := tr290) (fun _ => rfl) ck290 h
  · skip
    rcases rcond2 h with ⟨hm, h⟩ | ⟨-, h⟩
    · rw [Nat.eq_of_beq_eq_true hm]; exact rck_ok (tb := tr291) (fun _ => rfl) ck291 h
    · cases h

set_option maxRecDepth 100000 in
theorem febabaaabb_ok {m pc : Nat} {f : rI} (h : febabaaabb m pc = some f) : decode (rB m) pc = .ok (f.1, f.2.1) ∧ rchk2 (rpool m) (rmaxl m) f.1 f.2.1 f.2.2 = true := by
  unfold febabaaabb at h
  rcases rcond2 h with ⟨hm, h⟩ | ⟨-, h⟩
  · rw [Nat.eq_of_beq_eq_true hm]; exact rck_ok (tb := tr292) (fun _ => rfl) ck292 h
  · skip
    rcases rcond2 h with ⟨hm, h⟩ | ⟨-, h⟩
    · rw [Nat.eq_of_beq_eq_true hm]; exact rck_ok (tb := tr293) (fun _ => rfl) ck293 h
    · cases h

set_option maxRecDepth 100000 in
theorem febabaaab_ok {m pc : Nat} {f : rI} (h : febabaaab m pc = some f) : decode (rB m) pc = .ok (f.1, f.2.1) ∧ rchk2 (rpool m) (rmaxl m) f.1 f.2.1 f.2.2 = true := by
  unfold febabaaab at h
  rcases rcond2 h with ⟨-, h⟩ | ⟨-, h⟩
  · exact febabaaaba_ok h
  · exact febabaaabb_ok h

set_option maxRecDepth 100000 in
theorem febabaaa_ok {m pc : Nat} {f : rI} (h : febabaaa m pc = some f) : decode (rB m) pc = .ok (f.1, f.2.1) ∧ rchk2 (rpool m) (rmaxl m) f.1 f.2.1 f.2.2 = true := by
  unfold febabaaa at h
  rcases rcond2 h with ⟨-, h⟩ | ⟨-, h⟩
  · exact febabaaaa_ok h
  · exact febabaaab_ok h

set_option maxRecDepth 100000 in
theorem febabaaba_ok {m pc : Nat} {f : rI} (h : febabaaba m pc = some f) : decode (rB m) pc = .ok (f.1, f.2.1) ∧ rchk2 (rpool m) (rmaxl m) f.1 f.2.1 f.2.2 = true := by
  unfold febabaaba at h
  rcases rcond2 h with ⟨hm, h⟩ | ⟨-, h⟩
  · rw [Nat.eq_of_beq_eq_true hm]; exact rck_ok (tb := tr294) (fun _ => rfl) ck294 h
  · skip
    rcases rcond2 h with ⟨hm, h⟩ | ⟨-, h⟩
    · rw [Nat.eq_of_beq_eq_true hm]; exact rck_ok (tb := tr295) (fun _ => rfl) ck295 h
    · skip
      rcases rcond2 h with ⟨hm, h⟩ | ⟨-, h⟩
      · rw [Nat.eq_of_beq_eq_true hm]; exact rck_ok (tb := tr296) (fun _ => rfl) ck296 h
      · cases h

set_option maxRecDepth 100000 in
theorem febabaabba_ok {m pc : Nat} {f : rI} (h : febabaabba m pc = some f) : decode (rB m) pc = .ok (f.1, f.2.1) ∧ rchk2 (rpool m) (rmaxl m) f.1 f.2.1 f.2.2 = true := by
  unfold febabaabba at h
  rcases rcond2 h with ⟨hm, h⟩ | ⟨-, h⟩
  · rw [Nat.eq_of_beq_eq_true hm]; exact rck_ok (tb := tr297) (fun _ => rfl) ck297 h
  · skip
    rcases rcond2 h with ⟨hm, h⟩ | ⟨-, h⟩
    · rw [Nat.eq_of_beq_eq_true hm]; exact rck_ok (tb := tr298) (fun _ => rfl) ck298 h
    · cases h

set_option maxRecDepth 100000 in
theorem febabaabbb_ok {m pc : Nat} {f : rI} (h : febabaabbb m pc = some f) : decode (rB m) pc = .ok (f.1, f.2.1) ∧ rchk2 (rpool m) (rmaxl m) f.1 f.2.1 f.2.2 = true := by
  unfold febabaabbb at h
  rcases rcond2 h with ⟨hm, h⟩ | ⟨-, h⟩
  · rw [Nat.eq_of_beq_eq_true hm]; exact rck_ok (tb := tr299) (fun _ => rfl) ck299 h
  · skip
    rcases rcond2 h with ⟨hm, h⟩ | ⟨-, h⟩
    · rw [Nat.eq_of_beq_eq_true hm]; exact rck_ok (tb := tr300) (fun _ => rfl) ck300 h
    · cases h

set_option maxRecDepth 100000 in
theorem febabaabb_ok {m pc : Nat} {f : rI} (h : febabaabb m pc = some f) : decode (rB m) pc = .ok (f.1, f.2.1) ∧ rchk2 (rpool m) (rmaxl m) f.1 f.2.1 f.2.2 = true := by
  unfold febabaabb at h
  rcases rcond2 h with ⟨-, h⟩ | ⟨-, h⟩
  · exact febabaabba_ok h
  · exact febabaabbb_ok h

set_option maxRecDepth 100000 in
theorem febabaab_ok {m pc : Nat} {f : rI} (h : febabaab m pc = some f) : decode (rB m) pc = .ok (f.1, f.2.1) ∧ rchk2 (rpool m) (rmaxl m) f.1 f.2.1 f.2.2 = true := by
  unfold febabaab at h
  rcases rcond2 h with ⟨-, h⟩ | ⟨-, h⟩
  · exact febabaaba_ok h
  · exact febabaabb_ok h

set_option maxRecDepth 100000 in
theorem febabaa_ok {m pc : Nat} {f : rI} (h : febabaa m pc = some f) : decode (rB m) pc = .ok (f.1, f.2.1) ∧ rchk2 (rpool m) (rmaxl m) f.1 f.2.1 f.2.2 = true := by
  unfold febabaa at h
  rcases rcond2 h with ⟨-, h⟩ | ⟨-, h⟩
  · exact febabaaa_ok h
  · exact febabaab_ok h

set_option maxRecDepth 100000 in
theorem febababaa_ok {m pc : Nat} {f : rI} (h : febababaa m pc = some f) : decode (rB m) pc = .ok (f.1, f.2.1) ∧ rchk2 (rpool m) (rmaxl m) f.1 f.2.1 f.2.2 = true := by
  unfold febababaa at h
  rcases rcond2 h with ⟨hm, h⟩ | ⟨-, h⟩
  · rw [Nat.eq_of_beq_eq_true hm]; exact rck_ok (tb := tr301) (fun _ => rfl) ck301 h
  · skip
    rcases rcond2 h with ⟨hm, h⟩ | ⟨-, h⟩
    · rw [Nat.eq_of_beq_eq_true hm]; exact rck_ok (tb := tr302) (fun _ => rfl) ck302 h
    · skip
      rcases rcond2 h with ⟨hm, h⟩ | ⟨-, h⟩
      · rw [Nat.eq_of_beq_eq_true hm]; exact rck_ok (tb := tr303) (fun _ => rfl) ck303 h
      · cases h

set_option maxRecDepth 100000 in
theorem febabababa_ok {m pc : Nat} {f : rI} (h : febabababa m pc = some f) : decode (rB m) pc = .ok (f.1, f.2.1) ∧ rchk2 (rpool m) (rmaxl m) f.1 f.2.1 f.2.2 = true := by
  unfold febabababa at h
  rcases rcond2 h with ⟨hm, h⟩ | ⟨-, h⟩
  · rw [Nat.eq_of_beq_eq_true hm]; exact rck_ok (tb := tr304) (fun _ => rfl) ck304 h
  · skip
    rcases rcond2 h with ⟨hm, h⟩ | ⟨-, h⟩
    · rw [Nat.eq_of_beq_eq_true hm]; exact rck_ok (tb := tr305) (fun _ => rfl) ck305 h
    · cases h

set_option maxRecDepth 100000 in
theorem febabababb_ok {m pc : Nat} {f : rI} (h : febabababb m pc = some f) : decode (rB m) pc = .ok (f.1, f.2.1) ∧ rchk2 (rpool m) (rmaxl m) f.1 f.2.1 f.2.2 = true := by
  unfold febabababb at h
  rcases rcond2 h with ⟨hm, h⟩ | ⟨-, h⟩
  · rw [Nat.eq_of_beq_eq_true hm]; exact rck_ok (tb := tr306) (fun _ => rfl) ck306 h
  · skip
    rcases rcond2 h with ⟨hm, h⟩ | ⟨-, h⟩
    · rw [Nat.eq_of_beq_eq_true hm]; exact rck_ok (tb := tr307) (fun _ => rfl) ck307 h
    · cases h

set_option maxRecDepth 100000 in
theorem febababab_ok {m pc : Nat} {f : rI} (h : febababab m pc = some f) : decode (rB m) pc = .ok (f.1, f.2.1) ∧ rchk2 (rpool m) (rmaxl m) f.1 f.2.1 f.2.2 = true := by
  unfold febababab at h
  rcases rcond2 h with ⟨-, h⟩ | ⟨-, h⟩
  · exact febabababa_ok h
  · exact febabababb_ok h

set_option maxRecDepth 100000 in
theorem febababa_ok {m pc : Nat} {f : rI} (h : febababa m pc = some f) : decode (rB m) pc = .ok (f.1, f.2.1) ∧ rchk2 (rpool m) (rmaxl m) f.1 f.2.1 f.2.2 = true := by
  unfold febababa at h
  rcases rcond2 h with ⟨-, h⟩ | ⟨-, h⟩
  · exact febababaa_ok h
  · exact febababab_ok h

set_option maxRecDepth 100000 in
theorem febababbaa_ok {m pc : Nat} {f : rI} (h : febababbaa m pc = some f) : decode (rB m) pc = .ok (f.1, f.2.1) ∧ rchk2 (rpool m) (rmaxl m) f.1 f.2.1 f.2.2 = true := by
  unfold febababbaa at h
  rcases rcond2 h with ⟨hm, h⟩ | ⟨-, h⟩
  · rw [Nat.eq_of_beq_eq_true hm]; exact rck_ok (tb := tr308) (fun _ => rfl) ck308 h
  · skip
    rcases rcond2 h with ⟨hm, h⟩ | ⟨-, h⟩
    · rw [Nat.eq_of_beq_eq_true hm]; exact rck_ok (tb := tr309) (fun _ => rfl) ck309 h
    · cases h

set_option maxRecDepth 100000 in
theorem febababbab_ok {m pc : Nat} {f : rI} (h : febababbab m pc = some f) : decode (rB m) pc = .ok (f.1, f.2.1) ∧ rchk2 (rpool m) (rmaxl m) f.1 f.2.1 f.2.2 = true := by
  unfold febababbab at h
  rcases rcond2 h with ⟨hm, h⟩ | ⟨-, h⟩
  · rw [Nat.eq_of_beq_eq_true hm]; exact rck_ok (tb := tr310) (fun _ => rfl) ck310 h
  · skip
    rcases rcond2 h with ⟨hm, h⟩ | ⟨-, h⟩
    · rw [Nat.eq_of_beq_eq_true hm]; exact rck_ok (tb := tr311) (fun _ => rfl) ck311 h
    · cases h

set_option maxRecDepth 100000 in
theorem febababba_ok {m pc : Nat} {f : rI} (h : febababba m pc = some f) : decode (rB m) pc = .ok (f.1, f.2.1) ∧ rchk2 (rpool m) (rmaxl m) f.1 f.2.1 f.2.2 = true := by
  unfold febababba at h
  rcases rcond2 h with ⟨-, h⟩ | ⟨-, h⟩
  · exact febababbaa_ok h
  · exact febababbab_ok h

set_option maxRecDepth 100000 in
theorem febababbba_ok {m pc : Nat} {f : rI} (h : febababbba m pc = some f) : decode (rB m) pc = .ok (f.1, f.2.1) ∧ rchk2 (rpool m) (rmaxl m) f.1 f.2.1 f.2.2 = true := by
  unfold febababbba at h
  rcases rcond2 h with ⟨hm, h⟩ | ⟨-, h⟩
  · rw [Nat.eq_of_beq_eq_true hm]; exact rck_ok (tb := tr312) (fun _ => rfl) ck312 h
  · skip
    rcases rcond2 h with ⟨hm, h⟩ | ⟨-, h⟩
    · rw [Nat.eq_of_beq_eq_true hm]; exact rck_ok (tb := tr313) (fun _ => rfl) ck313 h
    · cases h

set_option maxRecDepth 100000 in
theorem febababbbb_ok {m pc : Nat} {f : rI} (h : febababbbb m pc = some f) : decode (rB m) pc = .ok (f.1, f.2.1) ∧ rchk2 (rpool m) (rmaxl m) f.1 f.2.1 f.2.2 = true := by
  unfold febababbbb at h
  rcases rcond2 h with ⟨hm, h⟩ | ⟨-, h⟩
  · rw [Nat.eq_of_beq_eq_true hm]; exact rck_ok (tb := tr314) (fun _ => rfl) ck314 h
  · skip
    rcases rcond2 h with ⟨hm, h⟩ | ⟨-, h⟩
    · rw [Nat.eq_of_beq_eq_true hm]; exact rck_ok (tb := tr315) (fun _ => rfl) ck315 h
    · cases h

set_option maxRecDepth 100000 in
theorem febababbb_ok {m pc : Nat} {f : rI} (h : febababbb m pc = some f) : decode (rB m) pc = .ok (f.1, f.2.1) ∧ rchk2 (rpool m) (rmaxl m) f.1 f.2.1 f.2.2 = true := by
  unfold febababbb at h
  rcases rcond2 h with ⟨-, h⟩ | ⟨-, h⟩
  · exact febababbba_ok h
  · exact febababbbb_ok h

set_option maxRecDepth 100000 in
theorem febababb_ok {m pc : Nat} {f : rI} (h : febababb m pc = some f) : decode (rB m) pc = .ok (f.1, f.2.1) ∧ rchk2 (rpool m) (rmaxl m) f.1 f.2.1 f.2.2 = true := by
  unfold febababb at h
  rcases rcond2 h with ⟨-, h⟩ | ⟨-, h⟩
  · exact febababba_ok h
  · exact febababbb_ok h

set_option maxRecDepth 100000 in
theorem febabab_ok {m pc : Nat} {f : rI} (h : febabab m pc = some f) : decode (rB m) pc = .ok (f.1, f.2.1) ∧ rchk2 (rpool m) (rmaxl m) f.1 f.2.1 f.2.2 = true := by
  unfold febabab at h
  rcases rcond2 h with ⟨-, h⟩ | ⟨-, h⟩
  · exact febababa_ok h
  · exact febababb_ok h

set_option maxRecDepth 100000 in
theorem febaba_ok {m pc : Nat} {f : rI} (h : febaba m pc = some f) : decode (rB m) pc = .ok (f.1, f.2.1) ∧ rchk2 (rpool m) (rmaxl m) f.1 f.2.1 f.2.2 = true := by
  unfold febaba at h
  rcases rcond2 h with ⟨-, h⟩ | ⟨-, h⟩
  · exact febabaa_ok h
  · exact febabab_ok h

set_option maxRecDepth 100000 in
theorem febabbaaa_ok {m pc : Nat} {f : rI} (h : febabbaaa m pc = some f) : decode (rB m) pc = .ok (f.1, f.2.1) ∧ rchk2 (rpool m) (rmaxl m) f.1 f.2.1 f.2.2 = true := by
  unfold febabbaaa at h
  rcases rcond2 h with ⟨hm, h⟩ | ⟨-, h⟩
  · rw [Nat.eq_of_beq_eq_true hm]; exact rck_ok (tb := tr316) (fun _ => rfl) ck316 h
  · skip
    rcases rcond2 h with ⟨hm, h⟩ | ⟨-, h⟩
    · rw [Nat.eq_of_beq_eq_true hm]; exact rck_ok (tb := tr317) (fun _ => rfl) ck317 h
    · skip
      rcases rcond2 h with ⟨hm, h⟩ | ⟨-, h⟩
      · rw [Nat.eq_of_beq_eq_true hm]; exact rck_ok (tb := tr318) (fun _ => rfl) ck318 h
      · cases h

set_option maxRecDepth 100000 in
theorem febabbaaba_ok {m pc : Nat} {f : rI} (h : febabbaaba m pc = some f) : decode (rB m) pc = .ok (f.1, f.2.1) ∧ rchk2 (rpool m) (rmaxl m) f.1 f.2.1 f.2.2 = true := by
  unfold febabbaaba at h
  rcases rcond2 h with ⟨hm, h⟩ | ⟨-, h⟩
  · rw [Nat.eq_of_beq_eq_true hm]; exact rck_ok (tb := tr319) (fun _ => rfl) ck319 h
  · skip
    rcases rcond2 h with ⟨hm, h⟩ | ⟨-, h⟩
    · rw [Nat.eq_of_beq_eq_true hm]; exact rck_ok (tb := tr320) (fun _ => rfl) ck320 h
    · cases h

set_option maxRecDepth 100000 in
theorem febabbaabb_ok {m pc : Nat} {f : rI} (h : febabbaabb m pc = some f) : decode (rB m) pc = .ok (f.1, f.2.1) ∧ rchk2 (rpool m) (rmaxl m) f.1 f.2.1 f.2.2 = true := by
  unfold febabbaabb at h
  rcases rcond2 h with ⟨hm, h⟩ | ⟨-, h⟩
  · rw [Nat.eq_of_beq_eq_true hm]; exact rck_ok (tb := tr321) (fun _ => rfl) ck321 h
  · skip
    rcases rcond2 h with ⟨hm, h⟩ | ⟨-, h⟩
    · rw [Nat.eq_of_beq_eq_true hm]; exact rck_ok (tb := tr322) (fun _ => rfl) ck322 h
    · cases h

set_option maxRecDepth 100000 in
theorem febabbaab_ok {m pc : Nat} {f : rI} (h : febabbaab m pc = some f) : decode (rB m) pc = .ok (f.1, f.2.1) ∧ rchk2 (rpool m) (rmaxl m) f.1 f.2.1 f.2.2 = true := by
  unfold febabbaab at h
  rcases rcond2 h with ⟨-, h⟩ | ⟨-, h⟩
  · exact febabbaaba_ok h
  · exact febabbaabb_ok h

set_option maxRecDepth 100000 in
theorem febabbaa_ok {m pc : Nat} {f : rI} (h : febabbaa m pc = some f) : decode (rB m) pc = .ok (f.1, f.2.1) ∧ rchk2 (rpool m) (rmaxl m) f.1 f.2.1 f.2.2 = true := by
  unfold febabbaa at h
  rcases rcond2 h with ⟨-, h⟩ | ⟨-, h⟩
  · exact febabbaaa_ok h
  · exact febabbaab_ok h

set_option maxRecDepth 100000 in
theorem febabbaba_ok {m pc : Nat} {f : rI} (h : febabbaba m pc = some f) : decode (rB m) pc = .ok (f.1, f.2.1) ∧ rchk2 (rpool m) (rmaxl m) f.1 f.2.1 f.2.2 = true := by
  unfold febabbaba at h
  rcases rcond2 h with ⟨hm, h⟩ | ⟨-, h⟩
  · rw [Nat.eq_of_beq_eq_true hm]; exact rck_ok (tb := tr323) (fun _ => rfl) ck323 h
  · skip
    rcases rcond2 h with ⟨hm, h⟩ | ⟨-, h⟩
    · rw [Nat.eq_of_beq_eq_true hm]; exact rck_ok (tb := tr324) (fun _ => rfl) ck324 h
    · skip
      rcases rcond2 h with ⟨hm, h⟩ | ⟨-, h⟩
      · rw [Nat.eq_of_beq_eq_true hm]; exact rck_ok (tb := tr325) (fun _ => rfl) ck325 h
      · cases h

set_option maxRecDepth 100000 in
theorem febabbabba_ok {m pc : Nat} {f : rI} (h : febabbabba m pc = some f) : decode (rB m) pc = .ok (f.1, f.2.1) ∧ rchk2 (rpool m) (rmaxl m) f.1 f.2.1 f.2.2 = true := by
  unfold febabbabba at h
  rcases rcond2 h with ⟨hm, h⟩ | ⟨-, h⟩
  · rw [Nat.eq_of_beq_eq_true hm]; exact rck_ok (tb := tr326) (fun _ => rfl) ck326 h
  · skip
    rcases rcond2 h with ⟨hm, h⟩ | ⟨-, h⟩
    · rw [Nat.eq_of_beq_eq_true hm]; exact rck_ok (tb := tr327) (fun _ => rfl) ck327 h
    · cases h

set_option maxRecDepth 100000 in
theorem febabbabbb_ok {m pc : Nat} {f : rI} (h : febabbabbb m pc = some f) : decode (rB m) pc = .ok (f.1, f.2.1) ∧ rchk2 (rpool m) (rmaxl m) f.1 f.2.1 f.2.2 = true := by
  unfold febabbabbb at h
  rcases rcond2 h with ⟨hm, h⟩ | ⟨-, h⟩
  · rw [Nat.eq_of_beq_eq_true hm]; exact rck_ok (tb := tr328) (fun _ => rfl) ck328 h
  · skip
    rcases rcond2 h with ⟨hm, h⟩ | ⟨-, h⟩
    · rw [Nat.eq_of_beq_eq_true hm]; exact rck_ok (tb := tr329) (fun _ => rfl) ck329 h
    · cases h

set_option maxRecDepth 100000 in
theorem febabbabb_ok {m pc : Nat} {f : rI} (h : febabbabb m pc = some f) : decode (rB m) pc = .ok (f.1, f.2.1) ∧ rchk2 (rpool m) (rmaxl m) f.1 f.2.1 f.2.2 = true := by
  unfold febabbabb at h
  rcases rcond2 h with ⟨-, h⟩ | ⟨-, h⟩
  · exact febabbabba_ok h
  · exact febabbabbb_ok h

set_option maxRecDepth 100000 in
theorem febabbab_ok {m pc : Nat} {f : rI} (h : febabbab m pc = some f) : decode (rB m) pc = .ok (f.1, f.2.1) ∧ rchk2 (rpool m) (rmaxl m) f.1 f.2.1 f.2.2 = true := by
  unfold febabbab at h
  rcases rcond2 h with ⟨-, h⟩ | ⟨-, h⟩
  · exact febabbaba_ok h
  · exact febabbabb_ok h

set_option maxRecDepth 100000 in
theorem febabba_ok {m pc : Nat} {f : rI} (h : febabba m pc = some f) : decode (rB m) pc = .ok (f.1, f.2.1) ∧ rchk2 (rpool m) (rmaxl m) f.1 f.2.1 f.2.2 = true := by
  unfold febabba at h
  rcases rcond2 h with ⟨-, h⟩ | ⟨-, h⟩
  · exact febabbaa_ok h
  · exact febabbab_ok h

set_option maxRecDepth 100000 in
theorem febabbbaa_ok {m pc : Nat} {f : rI} (h : febabbbaa m pc = some f) : decode (rB m) pc = .ok (f.1, f.2.1) ∧ rchk2 (rpool m) (rmaxl m) f.1 f.2.1 f.2.2 = true := by
  unfold febabbbaa at h
  rcases rcond2 h with ⟨hm, h⟩ | ⟨-, h⟩
  · rw [Nat.eq_of_beq_eq_true hm]; exact rck_ok (tb := tr330) (fun _ => rfl) ck330 h
  · skip
    rcases rcond2 h with ⟨hm, h⟩ | ⟨-, h⟩
    · rw [Nat.eq_of_beq_eq_true hm]; exact rck_ok (tb := tr331) (fun _ => rfl) ck331 h
    · skip
      rcases rcond2 h with ⟨hm, h⟩ | ⟨-, h⟩
      · rw [Nat.eq_of_beq_eq_true hm]; exact rck_ok (tb := tr332) (fun _ => rfl) ck332 h
      · cases h

set_option maxRecDepth 100000 in
theorem febabbbaba_ok {m pc : Nat} {f : rI} (h : febabbbaba m pc = some f) : decode (rB m) pc = .ok (f.1, f.2.1) ∧ rchk2 (rpool m) (rmaxl m) f.1 f.2.1 f.2.2 = true := by
  unfold febabbbaba at h
  rcases rcond2 h with ⟨hm, h⟩ | ⟨-, h⟩
  · rw [Nat.eq_of_beq_eq_true hm]; exact rck_ok (tb := tr333) (fun _ => rfl) ck333 h
  · skip
    rcases rcond2 h with ⟨hm, h⟩ | ⟨-, h⟩
    · rw [Nat.eq_of_beq_eq_true hm]; exact rck_ok (tb := tr334) (fun _ => rfl) ck334 h
    · cases h

set_option maxRecDepth 100000 in
theorem febabbbabb_ok {m pc : Nat} {f : rI} (h : febabbbabb m pc = some f) : decode (rB m) pc = .ok (f.1, f.2.1) ∧ rchk2 (rpool m) (rmaxl m) f.1 f.2.1 f.2.2 = true := by
  unfold febabbbabb at h
  rcases rcond2 h with ⟨hm, h⟩ | ⟨-, h⟩
  · rw [Nat.eq_of_beq_eq_true hm]; exact rck_ok (tb := tr335) (fun _ => rfl) ck335 h
  · skip
    rcases rcond2 h with ⟨hm, h⟩ | ⟨-, h⟩
    · rw [Nat.eq_of_beq_eq_true hm]; exact rck_ok (tb := tr336) (fun _ => rfl) ck336 h
    · cases h

set_option maxRecDepth 100000 in
theorem febabbbab_ok {m pc : Nat} {f : rI} (h : febabbbab m pc = some f) : decode (rB m) pc = .ok (f.1, f.2.1) ∧ rchk2 (rpool m) (rmaxl m) f.1 f.2.1 f.2.2 = true := by
  unfold febabbbab at h
  rcases rcond2 h with ⟨-, h⟩ | ⟨-, h⟩
  · exact febabbbaba_ok h
  · exact febabbbabb_ok h

set_option maxRecDepth 100000 in
theorem febabbba_ok {m pc : Nat} {f : rI} (h : febabbba m pc = some f) : decode (rB m) pc = .ok (f.1, f.2.1) ∧ rchk2 (rpool m) (rmaxl m) f.1 f.2.1 f.2.2 = true := by
  unfold febabbba at h
  rcases rcond2 h with ⟨-, h⟩ | ⟨-, h⟩
  · exact febabbbaa_ok h
  · exact febabbbab_ok h

set_option maxRecDepth 100000 in
theorem febabbbbaa_ok {m pc : Nat} {f : rI} (h : febabbbbaa m pc = some f) : decode (rB m) pc = .ok (f.1, f.2.1) ∧ rchk2 (rpool m) (rmaxl m) f.1 f.2.1 f.2.2 = true := by
  unfold febabbbbaa at h
  rcases rcond2 h with ⟨hm, h⟩ | ⟨-, h⟩
  · rw [Nat.eq_of_beq_eq_true hm]; exact rck_ok (tb := tr337) (fun _ => rfl) ck337 h
  · skip
    rcases rcond2 h with ⟨hm, h⟩ | ⟨-, h⟩
    · rw [Nat.eq_of_beq_eq_true hm]; exact rck_ok (tb := tr338) (fun _ => rfl) ck338 h
    · cases h

set_option maxRecDepth 100000 in
theorem febabbbbab_ok {m pc : Nat} {f : rI} (h : febabbbbab m pc = some f) : decode (rB m) pc = .ok (f.1, f.2.1) ∧ rchk2 (rpool m) (rmaxl m) f.1 f.2.1 f.2.2 = true := by
  unfold febabbbbab at h
  rcases rcond2 h with ⟨hm, h⟩ | ⟨-, h⟩
  · rw [Nat.eq_of_beq_eq_true hm]; exact rck_ok (tb := tr339) (fun _ => rfl) ck339 h
  · skip
    rcases rcond2 h with ⟨hm, h⟩ | ⟨-, h⟩
    · rw [Nat.eq_of_beq_eq_true hm]; exact rck_ok (tb := tr340) (fun _ => rfl) ck340 h
    · cases h

set_option maxRecDepth 100000 in
theorem febabbbba_ok {m pc : Nat} {f : rI} (h : febabbbba m pc = some f) : decode (rB m) pc = .ok (f.1, f.2.1) ∧ rchk2 (rpool m) (rmaxl m) f.1 f.2.1 f.2.2 = true := by
  unfold febabbbba at h
  rcases rcond2 h with ⟨-, h⟩ | ⟨-, h⟩
  · exact febabbbbaa_ok h
  · exact febabbbbab_ok h

set_option maxRecDepth 100000 in
theorem febabbbbba_ok {m pc : Nat} {f : rI} (h : febabbbbba m pc = some f) : decode (rB m) pc = .ok (f.1, f.2.1) ∧ rchk2 (rpool m) (rmaxl m) f.1 f.2.1 f.2.2 = true := by
  unfold febabbbbba at h
  rcases rcond2 h with ⟨hm, h⟩ | ⟨-, h⟩
  · rw [Nat.eq_of_beq_eq_true hm]; exact rck_ok (tb := tr341) (fun _ => rfl) ck341 h
  · skip
    rcases rcond2 h with ⟨hm, h⟩ | ⟨-, h⟩
    · rw [Nat.eq_of_beq_eq_true hm]; exact rck_ok (tb := tr342) (fun _ => rfl) ck342 h
    · cases h

set_option maxRecDepth 100000 in
theorem febabbbbbb_ok {m pc : Nat} {f : rI} (h : febabbbbbb m pc = some f) : decode (rB m) pc = .ok (f.1, f.2.1) ∧ rchk2 (rpool m) (rmaxl m) f.1 f.2.1 f.2.2 = true := by
  unfold febabbbbbb at h
  rcases rcond2 h with ⟨hm, h⟩ | ⟨-, h⟩
  · rw [Nat.eq_of_beq_eq_true hm]; exact rck_ok (tb := tr343) (fun _ => rfl) ck343 h
  · skip
    rcases rcond2 h with ⟨hm, h⟩ | ⟨-, h⟩
    · rw [Nat.eq_of_beq_eq_true hm]; exact rck_ok (tb := tr344) (fun _ => rfl) ck344 h
    · cases h

set_option maxRecDepth 100000 in
theorem febabbbbb_ok {m pc : Nat} {f : rI} (h : febabbbbb m pc = some f) : decode (rB m) pc = .ok (f.1, f.2.1) ∧ rchk2 (rpool m) (rmaxl m) f.1 f.2.1 f.2.2 = true := by
  unfold febabbbbb at h
  rcases rcond2 h with ⟨-, h⟩ | ⟨-, h⟩
  · exact febabbbbba_ok h
  · exact febabbbbbb_ok h

set_option maxRecDepth 100000 in
theorem febabbbb_ok {m pc : Nat} {f : rI} (h : febabbbb m pc = some f) : decode (rB m) pc = .ok (f.1, f.2.1) ∧ rchk2 (rpool m) (rmaxl m) f.1 f.2.1 f.2.2 = true := by
  unfold febabbbb at h
  rcases rcond2 h with ⟨-, h⟩ | ⟨-, h⟩
  · exact febabbbba_ok h
  · exact febabbbbb_ok h

set_option maxRecDepth 100000 in
theorem febabbb_ok {m pc : Nat} {f : rI} (h : febabbb m pc = some f) : decode (rB m) pc = .ok (f.1, f.2.1) ∧ rchk2 (rpool m) (rmaxl m) f.1 f.2.1 f.2.2 = true := by
  unfold febabbb at h
  rcases rcond2 h with ⟨-, h⟩ | ⟨-, h⟩
  · exact febabbba_ok h
  · exact febabbbb_ok h

set_option maxRecDepth 100000 in
theorem febabb_ok {m pc : Nat} {f : rI} (h : febabb m pc = some f) : decode (rB m) pc = .ok (f.1, f.2.1) ∧ rchk2 (rpool m) (rmaxl m) f.1 f.2.1 f.2.2 = true := by
  unfold febabb at h
  rcases rcond2 h with ⟨-, h⟩ | ⟨-, h⟩
  · exact febabba_ok h
  · exact febabbb_ok h

set_option maxRecDepth 100000 in
theorem febab_ok {m pc : Nat} {f : rI} (h : febab m pc = some f) : decode (rB m) pc = .ok (f.1, f.2.1) ∧ rchk2 (rpool m) (rmaxl m) f.1 f.2.1 f.2.2 = true := by
  unfold febab at h
  rcases rcond2 h with ⟨-, h⟩ | ⟨-, h⟩
  · exact febaba_ok h
  · exact febabb_ok h

set_option maxRecDepth 100000 in
theorem feba_ok {m pc : Nat} {f : rI} (h : feba m pc = some f) : decode (rB m) pc = .ok (f.1, f.2.1) ∧ rchk2 (rpool m) (rmaxl m) f.1 f.2.1 f.2.2 = true := by
  unfold feba at h
  rcases rcond2 h with ⟨-, h⟩ | ⟨-, h⟩
  · exact febaa_ok h
  · exact febab_ok h

set_option maxRecDepth 100000 in
theorem febbaaaaa_ok {m pc : Nat} {f : rI} (h : febbaaaaa m pc = some f) : decode (rB m) pc = .ok (f.1, f.2.1) ∧ rchk2 (rpool m) (rmaxl m) f.1 f.2.1 f.2.2 = true := by
  unfold febbaaaaa at h
  rcases rcond2 h with ⟨hm, h⟩ | ⟨-, h⟩
  · rw [Nat.eq_of_beq_eq_true hm]; exact rck_ok (tb := tr345) (fun _ => rfl) ck345 h
  · skip
    rcases rcond2 h with ⟨hm, h⟩ | ⟨-, h⟩
    · rw [Nat.eq_of_beq_eq_true hm]; exact rck_ok (tb := tr346) (fun _ => rfl) ck346 h
    · skip
      rcases rcond2 h with ⟨hm, h⟩ | ⟨-, h⟩
      · rw [Nat.eq_of_beq_eq_true hm]; exact rck_ok (tb := tr347) (fun _ => rfl) ck347 h
      · cases h

set_option maxRecDepth 100000 in
theorem febbaaaaba_ok {m pc : Nat} {f : rI} (h : febbaaaaba m pc = some f) : decode (rB m) pc = .ok (f.1, f.2.1) ∧ rchk2 (rpool m) (rmaxl m) f.1 f.2.1 f.2.2 = true := by
  unfold febbaaaaba at h
  rcases rcond2 h with ⟨hm, h⟩ | ⟨-, h⟩
  · rw [Nat.eq_of_beq_eq_true hm]; exact rck_ok (tb := tr348) (fun _ => rfl) ck348 h
  · skip
    rcases rcond2 h with ⟨hm, h⟩ | ⟨-, h⟩
    · rw [Nat.eq_of_beq_eq_true hm]; exact rck_ok (tb := tr349) (fun _ => rfl) ck349 h
    · cases h

set_option maxRecDepth 100000 in
theorem febbaaaabb_ok {m pc : Nat} {f : rI} (h : febbaaaabb m pc = some f) : decode (rB m) pc = .ok (f.1, f.2.1) ∧ rchk2 (rpool m) (rmaxl m) f.1 f.2.1 f.2.2 = true := by
  unfold febbaaaabb at h
  rcases rcond2 h with ⟨hm, h⟩ | ⟨-, h⟩
  · rw [Nat.eq_of_beq_eq_true hm]; exact rck_ok (tb := tr350) (fun _ => rfl) ck350 h
  · skip
    rcases rcond2 h with ⟨hm, h⟩ | ⟨-, h⟩
    · rw [Nat.eq_of_beq_eq_true hm]; exact rck_ok (tb := tr351) (fun _ => rfl) ck351 h
    · cases h

set_option maxRecDepth 100000 in
theorem febbaaaab_ok {m pc : Nat} {f : rI} (h : febbaaaab m pc = some f) : decode (rB m) pc = .ok (f.1, f.2.1) ∧ rchk2 (rpool m) (rmaxl m) f.1 f.2.1 f.2.2 = true := by
  unfold febbaaaab at h
  rcases rcond2 h with ⟨-, h⟩ | ⟨-, h⟩
  · exact febbaaaaba_ok h
  · exact febbaaaabb_ok h

set_option maxRecDepth 100000 in
theorem febbaaaa_ok {m pc : Nat} {f : rI} (h : febbaaaa m pc = some f) : decode (rB m) pc = .ok (f.1, f.2.1) ∧ rchk2 (rpool m) (rmaxl m) f.1 f.2.1 f.2.2 = true := by
  unfold febbaaaa at h
  rcases rcond2 h with ⟨-, h⟩ | ⟨-, h⟩
  · exact febbaaaaa_ok h
  · exact febbaaaab_ok h

set_option maxRecDepth 100000 in
theorem febbaaaba_ok {m pc : Nat} {f : rI} (h : febbaaaba m pc = some f) : decode (rB m) pc = .ok (f.1, f.2.1) ∧ rchk2 (rpool m) (rmaxl m) f.1 f.2.1 f.2.2 = true := by
  unfold febbaaaba at h
  rcases rcond2 h with ⟨hm, h⟩ | ⟨-, h⟩
  · rw [Nat.eq_of_beq_eq_true hm]; exact rck_ok (tb := tr352) (fun _ => rfl) ck352 h
  · skip
    rcases rcond2 h with ⟨hm, h⟩ | ⟨-, h⟩
    · rw [Nat.eq_of_beq_eq_true hm]; exact rck_ok (tb := tr353) (fun _ => rfl) ck353 h
    · skip
      rcases rcond2 h with ⟨hm, h⟩ | ⟨-, h⟩
      · rw [Nat.eq_of_beq_eq_true hm]; exact rck_ok (tb := tr354) (fun _ => rfl) ck354 h
      · cases h

set_option maxRecDepth 100000 in
theorem febbaaabba_ok {m pc : Nat} {f : rI} (h : febbaaabba m pc = some f) : decode (rB m) pc = .ok (f.1, f.2.1) ∧ rchk2 (rpool m) (rmaxl m) f.1 f.2.1 f.2.2 = true := by
  unfold febbaaabba at h
  rcases rcond2 h with ⟨hm, h⟩ | ⟨-, h⟩
  · rw [Nat.eq_of_beq_eq_true hm]; exact rck_ok (tb := tr355) (fun _ => rfl) ck355 h
  · skip
    rcases rcond2 h with ⟨hm, h⟩ | ⟨-, h⟩
    · rw [Nat.eq_of_beq_eq_true hm]; exact rck_ok (tb := tr356) (fun _ => rfl) ck356 h
    · cases h

set_option maxRecDepth 100000 in
theorem febbaaabbb_ok {m pc : Nat} {f : rI} (h : febbaaabbb m pc = some f) : decode (rB m) pc = .ok (f.1, f.2.1) ∧ rchk2 (rpool m) (rmaxl m) f.1 f.2.1 f.2.2 = true := by
  unfold febbaaabbb at h
  rcases rcond2 h with ⟨hm, h⟩ | ⟨-, h⟩
  · rw [Nat.eq_of_beq_eq_true hm]; exact rck_ok (tb := tr357) (fun _ => rfl) ck357 h
  · skip
    rcases rcond2 h with ⟨hm, h⟩ | ⟨-, h⟩
    · rw [Nat.eq_of_beq_eq_true hm]; exact rck_ok (tb := tr358) (fun _ => rfl) ck358 h
    · cases h

set_option maxRecDepth 100000 in
theorem febbaaabb_ok {m pc : Nat} {f : rI} (h : febbaaabb m pc = some f) : decode (rB m) pc = .ok (f.1, f.2.1) ∧ rchk2 (rpool m) (rmaxl m) f.1 f.2.1 f.2.2 = true := by
  unfold febbaaabb at h
  rcases rcond2 h with ⟨-, h⟩ | ⟨-, h⟩
  · exact febbaaabba_ok h
  · exact febbaaabbb_ok h

set_option maxRecDepth 100000 in
theorem febbaaab_ok {m pc : Nat} {f : rI} (h : febbaaab m pc = some f) : decode (rB m) pc = .ok (f.1, f.2.1) ∧ rchk2 (rpool m) (rmaxl m) f.1 f.2.1 f.2.2 = true := by
  unfold febbaaab at h
  rcases rcond2 h with ⟨-, h⟩ | ⟨-, h⟩
  · exact febbaaaba_ok h
  · exact febbaaabb_ok h

set_option maxRecDepth 100000 in
theorem febbaaa_ok {m pc : Nat} {f : rI} (h : febbaaa m pc = some f) : decode (rB m) pc = .ok (f.1, f.2.1) ∧ rchk2 (rpool m) (rmaxl m) f.1 f.2.1 f.2.2 = true := by
  unfold febbaaa at h
  rcases rcond2 h with ⟨-, h⟩ | ⟨-, h⟩
  · exact febbaaaa_ok h
  · exact febbaaab_ok h

set_option maxRecDepth 100000 in
theorem febbaabaa_ok {m pc : Nat} {f : rI} (h : febbaabaa m pc = some f) : decode (rB m) pc = .ok (f.1, f.2.1) ∧ rchk2 (rpool m) (rmaxl m) f.1 f.2.1 f.2.2 = true := by
  unfold febbaabaa at h
  rcases rcond2 h with ⟨hm, h⟩ | ⟨-, h⟩
  · rw [Nat.eq_of_beq_eq_true hm]; exact rck_ok (tb := tr359) (fun _ => rfl) ck359 h
  · skip
    rcases rcond2 h with ⟨hm, h⟩ | ⟨-, h⟩
    · rw [Nat.eq_of_beq_eq_true hm]; exact rck_ok (tb := tr360) (fun _ => rfl) ck360 h
    · skip
      rcases rcond2 h with ⟨hm, h⟩ | ⟨-, h⟩
      · rw [Nat.eq_of_beq_eq_true hm]; exact rck_ok (tb := tr361) (fun _ => rfl) ck361 h
      · cases h

set_option maxRecDepth 100000 in
theorem febbaababa_ok {m pc : Nat} {f : rI} (h : febbaababa m pc = some f) : decode (rB m) pc = .ok (f.1, f.2.1) ∧ rchk2 (rpool m) (rmaxl m) f.1 f.2.1 f.2.2 = true := by
  unfold febbaababa at h
  rcases rcond2 h with ⟨hm, h⟩ | ⟨-, h⟩
  · rw [Nat.eq_of_beq_eq_true hm]; exact rck_ok (tb := tr362) (fun _ => rfl) ck362 h
  · skip
    rcases rcond2 h with ⟨hm, h⟩ | ⟨-, h⟩
    · rw [Nat.eq_of_beq_eq_true hm]; exact rck_ok (tb := tr363) (fun _ => rfl) ck363 h
    · cases h

set_option maxRecDepth 100000 in
theorem febbaababb_ok {m pc : Nat} {f : rI} (h : febbaababb m pc = some f) : decode (rB m) pc = .ok (f.1, f.2.1) ∧ rchk2 (rpool m) (rmaxl m) f.1 f.2.1 f.2.2 = true := by
  unfold febbaababb at h
  rcases rcond2 h with ⟨hm, h⟩ | ⟨-, h⟩
  · rw [Nat.eq_of_beq_eq_true hm]; exact rck_ok (tb := tr364) (fun _ => rfl) ck364 h
  · skip
    rcases rcond2 h with ⟨hm, h⟩ | ⟨-, h⟩
    · rw [Nat.eq_of_beq_eq_true hm]; exact rck_ok (tb := tr365) (fun _ => rfl) ck365 h
    · cases h

set_option maxRecDepth 100000 in
theorem febbaabab_ok {m pc : Nat} {f : rI} (h : febbaabab m pc = some f) : decode (rB m) pc = .ok (f.1, f.2.1) ∧ rchk2 (rpool m) (rmaxl m) f.1 f.2.1 f.2.2 = true := by
  unfold febbaabab at h
  rcases rcond2 h with ⟨-, h⟩ | ⟨-, h⟩
  · exact febbaababa_ok h
  · exact febbaababb_ok h

set_option maxRecDepth 100000 in
theorem febbaaba_ok {m pc : Nat} {f : rI} (h : febbaaba m pc = some f) : decode (rB m) pc = .ok (f.1, f.2.1) ∧ rchk2 (rpool m) (rmaxl m) f.1 f.2.1 f.2.2 = true := by
  unfold febbaaba at h
  rcases rcond2 h with ⟨-, h⟩ | ⟨-, h⟩
  · exact febbaabaa_ok h
  · exact febbaabab_ok h

set_option maxRecDepth 100000 in
theorem febbaabbaa_ok {m pc : Nat} {f : rI} (h : febbaabbaa m pc = some f) : decode (rB m) pc = .ok (f.1, f.2.1) ∧ rchk2 (rpool m) (rmaxl m) f.1 f.2.1 f.2.2 = true := by
  unfold febbaabbaa at h
  rcases rcond2 h with ⟨hm, h⟩ | ⟨-, h⟩
  · rw [Nat.eq_of_beq_eq_true hm]; exact rck_ok (tb := tr366) (fun _ => rfl) ck366 h
  · skip
    rcases rcond2 h with ⟨hm, h⟩ | ⟨-, h⟩
    · rw [Nat.eq_of_beq_eq_true hm]; exact rck_ok (tb := tr367) (fun _ => rfl) ck367 h
    · cases h

set_option maxRecDepth 100000 in
theorem febbaabbab_ok {m pc : Nat} {f : rI} (h : febbaabbab m pc = some f) : decode (rB m) pc = .ok (f.1, f.2.1) ∧ rchk2 (rpool m) (rmaxl m) f.1 f.2.1 f.2.2 = true := by
  unfold febbaabbab at h
  rcases rcond2 h with ⟨hm, h⟩ | ⟨-, h⟩
  · rw [Nat.eq_of_beq_eq_true hm]; exact rck_ok (tb := tr368) (fun _ => rfl) ck368 h
  · skip
    rcases rcond2 h with ⟨hm, h⟩ | ⟨-, h⟩
    · rw [Nat.eq_of_beq_eq_true hm]; exact rck_ok (tb := tr369) (fun _ => rfl) ck369 h
    · cases h

set_option maxRecDepth 100000 in
theorem febbaabba_ok {m pc : Nat} {f : rI} (h : febbaabba m pc = some f) : decode (rB m) pc = .ok (f.1, f.2.1) ∧ rchk2 (rpool m) (rmaxl m) f.1 f.2.1 f.2.2 = true := by
  unfold febbaabba at h
  rcases rcond2 h with ⟨-, h⟩ | ⟨-, h⟩
  · exact febbaabbaa_ok h
  · exact febbaabbab_ok h

set_option maxRecDepth 100000 in
theorem febbaabbba_ok {m pc : Nat} {f : rI} (h : febbaabbba m pc = some f) : decode (rB m) pc = .ok (f.1, f.2.1) ∧ rchk2 (rpool m) (rmaxl m) f.1 f.2.1 f.2.2 = true := by
  unfold febbaabbba at h
  rcases rcond2 h with ⟨hm, h⟩ | ⟨-, h⟩
  · rw [Nat.eq_of_beq_eq_true hm]; exact rck_ok (tb := tr370) (fun _ => rfl) ck370 h
  · skip
    rcases rcond2 h with ⟨hm, h⟩ | ⟨-, h⟩
    · rw [Nat.eq_of_beq_eq_true hm]; exact rck_ok (tb := tr371) (fun _ => rfl) ck371 h
    · cases h

set_option maxRecDepth 100000 in
theorem febbaabbbb_ok {m pc : Nat} {f : rI} (h : febbaabbbb m pc = some f) : decode (rB m) pc = .ok (f.1, f.2.1) ∧ rchk2 (rpool m) (rmaxl m) f.1 f.2.1 f.2.2 = true := by
  unfold febbaabbbb at h
  rcases rcond2 h with ⟨hm, h⟩ | ⟨-, h⟩
  · rw [Nat.eq_of_beq_eq_true hm]; exact rck_ok (tb := tr372) (fun _ => rfl) ck372 h
  · skip
    rcases rcond2 h with ⟨hm, h⟩ | ⟨-, h⟩
    · rw [Nat.eq_of_beq_eq_true hm]; exact rck_ok (tb := tr373) (fun _ => rfl) ck373 h
    · cases h

set_option maxRecDepth 100000 in
theorem febbaabbb_ok {m pc : Nat} {f : rI} (h : febbaabbb m pc = some f) : decode (rB m) pc = .ok (f.1, f.2.1) ∧ rchk2 (rpool m) (rmaxl m) f.1 f.2.1 f.2.2 = true := by
  unfold febbaabbb at h
  rcases rcond2 h with ⟨-, h⟩ | ⟨-, h⟩
  · exact febbaabbba_ok h
  · exact febbaabbbb_ok h

set_option maxRecDepth 100000 in
theorem febbaabb_ok {m pc : Nat} {f : rI} (h : febbaabb m pc = some f) : decode (rB m) pc = .ok (f.1, f.2.1) ∧ rchk2 (rpool m) (rmaxl m) f.1 f.2.1 f.2.2 = true := by
  unfold febbaabb at h
  rcases rcond2 h with ⟨-, h⟩ | ⟨-, h⟩
  · exact febbaabba_ok h
  · exact febbaabbb_ok h

set_option maxRecDepth 100000 in
theorem febbaab_ok {m pc : Nat} {f : rI} (h : febbaab m pc = some f) : decode (rB m) pc = .ok (f.1, f.2.1) ∧ rchk2 (rpool m) (rmaxl m) f.1 f.2.1 f.2.2 = true := by
  unfold febbaab at h
  rcases rcond2 h with ⟨-, h⟩ | ⟨-, h⟩
  · exact febbaaba_ok h
  · exact febbaabb_ok h

set_option maxRecDepth 100000 in
theorem febbaa_ok {m pc : Nat} {f : rI} (h : febbaa m pc = some f) : decode (rB m) pc = .ok (f.1, f.2.1) ∧ rchk2 (rpool m) (rmaxl m) f.1 f.2.1 f.2.2 = true := by
  unfold febbaa at h
  rcases rcond2 h with ⟨-, h⟩ | ⟨-, h⟩
  · exact febbaaa_ok h
  · exact febbaab_ok h

set_option maxRecDepth 100000 in
theorem febbabaaa_ok {m pc : Nat} {f : rI} (h : febbabaaa m pc = some f) : decode (rB m) pc = .ok (f.1, f.2.1) ∧ rchk2 (rpool m) (rmaxl m) f.1 f.2.1 f.2.2 = true := by
  unfold febbabaaa at h
  rcases rcond2 h with ⟨hm, h⟩ | ⟨-, h⟩
  · rw [Nat.eq_of_beq_eq_true hm]; exact rck_ok (tb := tr374) (fun _ => rfl) ck374 h
  · skip
    rcases rcond2 h with ⟨hm, h⟩ | ⟨-, h⟩
    · rw [Nat.eq_of_beq_eq_true hm]; exact rck_ok (tb := tr375) (fun _ => rfl) ck375 h
    · skip
      rcases rcond2 h with ⟨hm, h⟩ | ⟨-, h⟩
      · rw [Nat.eq_of_beq_eq_true hm]; exact rck_ok (tb := tr376) (fun _ => rfl) ck376 h
      · cases h

set_option maxRecDepth 100000 in
theorem febbabaaba_ok {m pc : Nat} {f : rI} (h : febbabaaba m pc = some f) : decode (rB m) pc = .ok (f.1, f.2.1) ∧ rchk2 (rpool m) (rmaxl m) f.1 f.2.1 f.2.2 = true := by
  unfold febbabaaba at h
  rcases rcond2 h with ⟨hm, h⟩ | ⟨-, h⟩
  · rw [Nat.eq_of_beq_eq_true hm]; exact rck_ok (tb := tr377) (fun _ => rfl) ck377 h
  · skip
    rcases rcond2 h with ⟨hm, h⟩ | ⟨-, h⟩
    · rw [Nat.eq_of_beq_eq_true hm]; exact rck_ok (tb := tr378) (fun _ => rfl) ck378 h
    · cases h

set_option maxRecDepth 100000 in
theorem febbabaabb_ok {m pc : Nat} {f : rI} (h : febbabaabb m pc = some f) : decode (rB m) pc = .ok (f.1, f.2.1) ∧ rchk2 (rpool m) (rmaxl m) f.1 f.2.1 f.2.2 = true := by
  unfold febbabaabb at h
  rcases rcond2 h with ⟨hm, h⟩ | ⟨-, h⟩
  · rw [Nat.eq_of_beq_eq_true hm]; exact rck_ok (tb := tr379) (fun _ => rfl) ck379 h
  · skip
    rcases rcond2 h with ⟨hm, h⟩ | ⟨-, h⟩
    · rw [Nat.eq_of_beq_eq_true hm]; exact rck_ok (tb := tr380) (fun _ => rfl) ck380 h
    · cases h

set_option maxRecDepth 100000 in
theorem febbabaab_ok {m pc : Nat} {f : rI} (h : febbabaab m pc = some f) : decode (rB m) pc = .ok (f.1, f.2.1) ∧ rchk2 (rpool m) (rmaxl m) f.1 f.2.1 f.2.2 = true := by
  unfold febbabaab at h
  rcases rcond2 h with ⟨-, h⟩ | ⟨-, h⟩
  · exact febbabaaba_ok h
  · exact febbabaabb_ok h

set_option maxRecDepth 100000 in
theorem febbabaa_ok {m pc : Nat} {f : rI} (h : febbabaa m pc = some f) : decode (rB m) pc = .ok (f.1, f.2.1) ∧ rchk2 (rpool m) (rmaxl m) f.1 f.2.1 f.2.2 = true := by
  unfold febbabaa at h
  rcases rcond2 h with ⟨-, h⟩ | ⟨-, h⟩
  · exact febbabaaa_ok h
  · exact febbabaab_ok h

set_option maxRecDepth 100000 in
theorem febbababa_ok {m pc : Nat} {f : rI} (h : febbababa m pc = some f) : decode (rB m) pc = .ok (f.1, f.2.1) ∧ rchk2 (rpool m) (rmaxl m) f.1 f.2.1 f.2.2 = true := by
  unfold febbababa at h
  rcases rcond2 h with ⟨hm, h⟩ | ⟨-, h⟩
  · rw [Nat.eq_of_beq_eq_true hm]; exact rck_ok (tb := tr381) (fun _ => rfl) ck381 h
  · skip
    rcases rcond2 h with ⟨hm, h⟩ | ⟨-, h⟩
    · rw [Nat.eq_of_beq_eq_true hm]; exact rck_ok (tb := tr382) (fun _ => rfl) ck382 h
    · skip
      rcases rcond2 h with ⟨hm, h⟩ | ⟨-, h⟩
      · rw [Nat.eq_of_beq_eq_true hm]; exact rck_ok (tb := tr383) (fun _ => rfl) ck383 h
      · cases h

set_option maxRecDepth 100000 in
theorem febbababba_ok {m pc : Nat} {f : rI} (h : febbababba m pc = some f) : decode (rB m) pc = .ok (f.1, f.2.1) ∧ rchk2 (rpool m) (rmaxl m) f.1 f.2.1 f.2.2 = true := by
  unfold febbababba at h
  rcases rcond2 h with ⟨hm, h⟩ | ⟨-, h⟩
  · rw [Nat.eq_of_beq_eq_true hm]; exact rck_ok (tb := tr384) (fun _ => rfl) ck384 h
  · skip
    rcases rcond2 h with ⟨hm, h⟩ | ⟨-, h⟩
    · rw [Nat.eq_of_beq_eq_true hm]; exact rck_ok (tb := tr385) (fun _ => rfl) ck385 h
    · cases h

set_option maxRecDepth 100000 in
theorem febbababbb_ok {m pc : Nat} {f : rI} (h : febbababbb m pc = some f) : decode (rB m) pc = .ok (f.1, f.2.1) ∧ rchk2 (rpool m) (rmaxl m) f.1 f.2.1 f.2.2 = true := by
  unfold febbababbb at h
  rcases rcond2 h with ⟨hm, h⟩ | ⟨-, h⟩
  · rw [Nat.eq_of_beq_eq_true hm]; exact rck_ok (tb := tr386) (fun _ => rfl) ck386 h
  · skip
    rcases rcond2 h with ⟨hm, h⟩ | ⟨-, h⟩
    · rw [Nat.eq_of_beq_eq_true hm]; exact rck_ok (tb := tr387) (fun _ => rfl) ck387 h
    · cases h

set_option maxRecDepth 100000 in
theorem febbababb_ok {m pc : Nat} {f : rI} (h : febbababb m pc = some f) : decode (rB m) pc = .ok (f.1, f.2.1) ∧ rchk2 (rpool m) (rmaxl m) f.1 f.2.1 f.2.2 = true := by
  unfold febbababb at h
  rcases rcond2 h with ⟨-, h⟩ | ⟨-, h⟩
  · exact febbababba_ok h
  · exact febbababbb_ok h

set_option maxRecDepth 100000 in
theorem febbabab_ok {m pc : Nat} {f : rI} (h : febbabab m pc = some f) : decode (rB m) pc = .ok (f.1, f.2.1) ∧ rchk2 (rpool m) (rmaxl m) f.1 f.2.1 f.2.2 = true := by
  unfold febbabab at h
  rcases rcond2 h with ⟨-, h⟩ | ⟨-, h⟩
  · exact febbababa_ok h
  · exact febbababb_ok h

set_option maxRecDepth 100000 in
theorem febbaba_ok {m pc : Nat} {f : rI} (h : febbaba m pc = some f) : decode (rB m) pc = .ok (f.1, f.2.1) ∧ rchk2 (rpool m) (rmaxl m) f.1 f.2.1 f.2.2 = true := by
  unfold febbaba at h
  rcases rcond2 h with ⟨-, h⟩ | ⟨-, h⟩
  · exact febbabaa_ok h
  · exact febbabab_ok h

set_option maxRecDepth 100000 in
theorem febbabbaa_ok {m pc : Nat} {f : rI} (h : febbabbaa m pc = some f) : decode (rB m) pc = .ok (f.1, f.2.1) ∧ rchk2 (rpool m) (rmaxl m) f.1 f.2.1 f.2.2 = true := by
  unfold febbabbaa at h
  rcases rcond2 h with ⟨hm, h⟩ | ⟨-, h⟩
  · rw [Nat.eq_of_beq_eq_true hm]; exact rck_ok (tb := tr388) (fun _ => rfl) ck388 h
  · skip
    rcases rcond2 h with ⟨hm, h⟩ | ⟨-, h⟩
    · rw [Nat.eq_of_beq_eq_true hm]; exact rck_ok (tb := tr389) (fun _ => rfl) ck389 h
    · skip
      rcases rcond2 h with ⟨hm, h⟩ | ⟨-, h⟩
      · rw [Nat.eq_of_beq_eq_true hm]; exact rck_ok (tb := tr390) (fun _ => rfl) ck390 h
      · cases h

set_option maxRecDepth 100000 in
theorem febbabbaba_ok {m pc : Nat} {f : rI} (h : febbabbaba m pc = some f) : decode (rB m) pc = .ok (f.1, f.2.1) ∧ rchk2 (rpool m) (rmaxl m) f.1 f.2.1 f.2.2 = true := by
  unfold febbabbaba at h
  rcases rcond2 h with ⟨hm, h⟩ | ⟨-, h⟩
  · rw [Nat.eq_of_beq_eq_true hm]; exact rck_ok (tb := tr391) (fun _ => rfl) ck391 h
  · skip
    rcases rcond2 h with ⟨hm, h⟩ | ⟨-, h⟩
    · rw [Nat.eq_of_beq_eq_true hm]; exact rck_ok (tb := tr392) (fun _ => rfl) ck392 h
    · cases h

set_option maxRecDepth 100000 in
theorem febbabbabb_ok {m pc : Nat} {f : rI} (h : febbabbabb m pc = some f) : decode (rB m) pc = .ok (f.1, f.2.1) ∧ rchk2 (rpool m) (rmaxl m) f.1 f.2.1 f.2.2 = true := by
  unfold febbabbabb at h
  rcases rcond2 h with ⟨hm, h⟩ | ⟨-, h⟩
  · rw [Nat.eq_of_beq_eq_true hm]; exact rck_ok (tb := tr393) (fun _ => rfl) ck393 h
  · skip
    rcases rcond2 h with ⟨hm, h⟩ | ⟨-, h⟩
    · rw [Nat.eq_of_beq_eq_true hm]; exact rck_ok (tb := tr394) (fun _ => rfl) ck394 h
    · cases h

set_option maxRecDepth 100000 in
theorem febbabbab_ok {m pc : Nat} {f : rI} (h : febbabbab m pc = some f) : decode (rB m) pc = .ok (f.1, f.2.1) ∧ rchk2 (rpool m) (rmaxl m) f.1 f.2.1 f.2.2 = true := by
  unfold febbabbab at h
  rcases rcond2 h with ⟨-, h⟩ | ⟨-, h⟩
  · exact febbabbaba_ok h
  · exact febbabbabb_ok h

set_option maxRecDepth 100000 in
theorem febbabba_ok {m pc : Nat} {f : rI} (h : febbabba m pc = some f) : decode (rB m) pc = .ok (f.1, f.2.1) ∧ rchk2 (rpool m) (rmaxl m) f.1 f.2.1 f.2.2 = true := by
  unfold febbabba at h
  rcases rcond2 h with ⟨-, h⟩ | ⟨-, h⟩
  · exact febbabbaa_ok h
  · exact febbabbab_ok h

set_option maxRecDepth 100000 in
theorem febbabbbaa_ok {m pc : Nat} {f : rI} (h : febbabbbaa m pc = some f) : decode (rB m) pc = .ok (f.1, f.2.1) ∧ rchk2 (rpool m) (rmaxl m) f.1 f.2.1 f.2.2 = true := by
  unfold febbabbbaa at h
  rcases rcond2 h with ⟨hm, h⟩ | ⟨-, h⟩
  · rw [Nat.eq_of_beq_eq_true hm]; exact rck_ok (tb := tr395) (fun _ => rfl) ck395 h
  · skip
    rcases rcond2 h with ⟨hm, h⟩ | ⟨-, h⟩
    · rw [Nat.eq_of_beq_eq_true hm]; exact rck_ok (tb := tr396) (fun _ => rfl) ck396 h
    · cases h

set_option maxRecDepth 100000 in
theorem febbabbbab_ok {m pc : Nat} {f : rI} (h : febbabbbab m pc = some f) : decode (rB m) pc = .ok (f.1, f.2.1) ∧ rchk2 (rpool m) (rmaxl m) f.1 f.2.1 f.2.2 = true := by
  unfold febbabbbab at h
  rcases rcond2 h with ⟨hm, h⟩ | ⟨-, h⟩
  · rw [Nat.eq_of_beq_eq_true hm]; exact rck_ok (tb := tr397) (fun _ => rfl) ck397 h
  · skip
    rcases rcond2 h with ⟨hm, h⟩ | ⟨-, h⟩
    · rw [Nat.eq_of_beq_eq_true hm]; exact rck_ok (tb := tr398) (fun _ => rfl) ck398 h
    · cases h

set_option maxRecDepth 100000 in
theorem febbabbba_ok {m pc : Nat} {f : rI} (h : febbabbba m pc = some f) : decode (rB m) pc = .ok (f.1, f.2.1) ∧ rchk2 (rpool m) (rmaxl m) f.1 f.2.1 f.2.2 = true := by
  unfold febbabbba at h
  rcases rcond2 h with ⟨-, h⟩ | ⟨-, h⟩
  · exact febbabbbaa_ok h
  · exact febbabbbab_ok h

set_option maxRecDepth 100000 in
theorem febbabbbba_ok {m pc : Nat} {f : rI} (h : febbabbbba m pc = some f) : decode (rB m) pc = .ok (f.1, f.2.1) ∧ rchk2 (rpool m) (rmaxl m) f.1 f.2.1 f.2.2 = true := by
  unfold febbabbbba at h
  rcases rcond2 h with ⟨hm, h⟩ | ⟨-, h⟩
  · rw [Nat.eq_of_beq_eq_true hm]; exact rck_ok (tb := tr399) (fun _ => rfl) ck399 h
  · skip
    rcases rcond2 h with ⟨hm, h⟩ | ⟨-, h⟩
    · rw [Nat.eq_of_beq_eq_true hm]; exact rck_ok (tb := tr400) (fun _ => rfl) ck400 h
    · cases h

set_option maxRecDepth 100000 in
theorem febbabbbbb_ok {m pc : Nat} {f : rI} (h : febbabbbbb m pc = some f) : decode (rB m) pc = .ok (f.1, f.2.1) ∧ rchk2 (rpool m) (rmaxl m) f.1 f.2.1 f.2.2 = true := by
  unfold febbabbbbb at h
  rcases rcond2 h with ⟨hm, h⟩ | ⟨-, h⟩
  · rw [Nat.eq_of_beq_eq_true hm]; exact rck_ok (tb := tr401) (fun _ => rfl) ck401 h
  · skip
    rcases rcond2 h with ⟨hm, h⟩ | ⟨-, h⟩
    · rw [Nat.eq_of_beq_eq_true hm]; exact rck_ok (tb := tr402) (fun _ => rfl) ck402 h
    · cases h

set_option maxRecDepth 100000 in
theorem febbabbbb_ok {m pc : Nat} {f : rI} (h : febbabbbb m pc = some f) : decode (rB m) pc = .ok (f.1, f.2.1) ∧ rchk2 (rpool m) (rmaxl m) f.1 f.2.1 f.2.2 = true := by
  unfold febbabbbb at h
  rcases rcond2 h with ⟨-, h⟩ | ⟨-, h⟩
  · exact febbabbbba_ok h
  · exact febbabbbbb_ok h

set_option maxRecDepth 100000 in
theorem febbabbb_ok {m pc : Nat} {f : rI} (h : febbabbb m pc = some f) : decode (rB m) pc = .ok (f.1, f.2.1) ∧ rchk2 (rpool m) (rmaxl m) f.1 f.2.1 f.2.2 = true := by
  unfold febbabbb at h
  rcases rcond2 h with ⟨-, h⟩ | ⟨-, h⟩
  · exact febbabbba_ok h
  · exact febbabbbb_ok h

set_option maxRecDepth 100000 in
theorem febbabb_ok {m pc : Nat} {f : rI} (h : febbabb m pc = some f) : decode (rB m) pc = .ok (f.1, f.2.1) ∧ rchk2 (rpool m) (rmaxl m) f.1 f.2.1 f.2.2 = true := by
  unfold febbabb at h
  rcases rcond2 h with ⟨-, h⟩ | ⟨-, h⟩
  · exact febbabba_ok h
  · exact febbabbb_ok h

set_option maxRecDepth 100000 in
theorem febbab_ok {m pc : Nat} {f : rI} (h : febbab m pc = some f) : decode (rB m) pc = .ok (f.1, f.2.1) ∧ rchk2 (rpool m) (rmaxl m) f.1 f.2.1 f.2.2 = true := by
  unfold febbab at h
  rcases rcond2 h with ⟨-, h⟩ | ⟨-, h⟩
  · exact febbaba_ok h
  · exact febbabb_ok h

set_option maxRecDepth 100000 in
theorem febba_ok {m pc : Nat} {f : rI} (h : febba m pc = some f) : decode (rB m) pc = .ok (f.1, f.2.1) ∧ rchk2 (rpool m) (rmaxl m) f.1 f.2.1 f.2.2 = true := by
  unfold febba at h
  rcases rcond2 h with ⟨-, h⟩ | ⟨-, h⟩
  · exact febbaa_ok h
  · exact febbab_ok h

set_option maxRecDepth 100000 in
theorem febbbaaaa_ok {m pc : Nat} {f : rI} (h : febbbaaaa m pc = some f) : decode (rB m) pc = .ok (f.1, f.2.1) ∧ rchk2 (rpool m) (rmaxl m) f.1 f.2.1 f.2.2 = true := by
  unfold febbbaaaa at h
  rcases rcond2 h with ⟨hm, h⟩ | ⟨-, h⟩
  · rw [Nat.eq_of_beq_eq_true hm]; exact rck_ok (tb := tr403) (fun _ => rfl) ck403 h
  · skip
    rcases rcond2 h with ⟨hm, h⟩ | ⟨-, h⟩
    · rw [Nat.eq_of_beq_eq_true hm]; exact rck_ok (tb := tr404) (fun _ => rfl) ck404 h
    · skip
      rcases rcond2 h with ⟨hm, h⟩ | ⟨-, h⟩
      · rw [Nat.eq_of_beq_eq_true hm]; exact rck_ok (tb := tr405) (fun _ => rfl) ck405 h
      · cases h

set_option maxRecDepth 100000 in
theorem febbbaaaba_ok {m pc : Nat} {f : rI} (h : febbbaaaba m pc = some f) : decode (rB m) pc = .ok (f.1, f.2.1) ∧ rchk2 (rpool m) (rmaxl m) f.1 f.2.1 f.2.2 = true := by
  unfold febbbaaaba at h
  rcases rcond2 h with ⟨hm, h⟩ | ⟨-, h⟩
  · rw [Nat.eq_of_beq_eq_true hm]; exact rck_ok (tb := tr406) (fun _ => rfl) ck406 h
  · skip
    rcases rcond2 h with ⟨hm, h⟩ | ⟨-, h⟩
    · rw [Nat.eq_of_beq_eq_true hm]; exact rck_ok (tb := tr407) (fun _ => rfl) ck407 h
    · cases h

set_option maxRecDepth 100000 in
theorem febbbaaabb_ok {m pc : Nat} {f : rI} (h : febbbaaabb m pc = some f) : decode (rB m) pc = .ok (f.1, f.2.1) ∧ rchk2 (rpool m) (rmaxl m) f.1 f.2.1 f.2.2 = true := by
  unfold febbbaaabb at h
  rcases rcond2 h with ⟨hm, h⟩ | ⟨-, h⟩
  · rw [Nat.eq_of_beq_eq_true hm]; exact rck_ok (tb := tr408) (fun _ => rfl) ck408 h
  · skip
    rcases rcond2 h with ⟨hm, h⟩ | ⟨-, h⟩
    · rw [Nat.eq_of_beq_eq_true hm]; exact rck_ok (tb := tr409) (fun _ => rfl) ck409 h
    · cases h

set_option maxRecDepth 100000 in
theorem febbbaaab_ok {m pc : Nat} {f : rI} (h : febbbaaab m pc = some f) : decode (rB m) pc = .ok (f.1, f.2.1) ∧ rchk2 (rpool m) (rmaxl m) f.1 f.2.1 f.2.2 = true := by
  unfold febbbaaab at h
  rcases rcond2 h with ⟨-, h⟩ | ⟨-, h⟩
  · exact febbbaaaba_ok h
  · exact febbbaaabb_ok h

set_option maxRecDepth 100000 in
theorem febbbaaa_ok {m pc : Nat} {f : rI} (h : febbbaaa m pc = some f) : decode (rB m) pc = .ok (f.1, f.2.1) ∧ rchk2 (rpool m) (rmaxl m) f.1 f.2.1 f.2.2 = true := by
  unfold febbbaaa at h
  rcases rcond2 h with ⟨-, h⟩ | ⟨-, h⟩
  · exact febbbaaaa_ok h
  · exact febbbaaab_ok h

set_option maxRecDepth 100000 in
theorem febbbaaba_ok {m pc : Nat} {f : rI} (h : febbbaaba m pc = some f) : decode (rB m) pc = .ok (f.1, f.2.1) ∧ rchk2 (rpool m) (rmaxl m) f.1 f.2.1 f.2.2 = true := by
  unfold febbbaaba at h
  rcases rcond2 h with ⟨hm, h⟩ | ⟨-, h⟩
  · rw [Nat.eq_of_beq_eq_true hm]; exact rck_ok (tb := tr410) (fun _ => rfl) ck410 h
  · skip
    rcases rcond2 h with ⟨hm, h⟩ | ⟨-, h⟩
    · rw [Nat.eq_of_beq_eq_true hm]; exact rck_ok (tb := tr411) (fun _ => rfl) ck411 h
    · skip
      rcases rcond2 h with ⟨hm, h⟩ | ⟨-, h⟩
      · rw [Nat.eq_of_beq_eq_true hm]; exact rck_ok (tb := tr412) (fun _ => rfl) ck412 h
      · cases h

set_option maxRecDepth 100000 in
theorem febbbaabba_ok {m pc : Nat} {f : rI} (h : febbbaabba m pc = some f) : decode (rB m) pc = .ok (f.1, f.2.1) ∧ rchk2 (rpool m) (rmaxl m) f.1 f.2.1 f.2.2 = true := by
  unfold febbbaabba at h
  rcases rcond2 h with ⟨hm, h⟩ | ⟨-, h⟩
  · rw [Nat.eq_of_beq_eq_true hm]; exact rck_ok (tb := tr413) (fun _ => rfl) ck413 h
  · skip
    rcases rcond2 h with ⟨hm, h⟩ | ⟨-, h⟩
    · rw [Nat.eq_of_beq_eq_true hm]; exact rck_ok (tb := tr414) (fun _ => rfl) ck414 h
    · cases h

set_option maxRecDepth 100000 in
theorem febbbaabbb_ok {m pc : Nat} {f : rI} (h : febbbaabbb m pc = some f) : decode (rB m) pc = .ok (f.1, f.2.1) ∧ rchk2 (rpool m) (rmaxl m) f.1 f.2.1 f.2.2 = true := by
  unfold febbbaabbb at h
  rcases rcond2 h with ⟨hm, h⟩ | ⟨-, h⟩
  · rw [Nat.eq_of_beq_eq_true hm]; exact rck_ok (tb := tr415) (fun _ => rfl) ck415 h
  · skip
    rcases rcond2 h with ⟨hm, h⟩ | ⟨-, h⟩
    · rw [Nat.eq_of_beq_eq_true hm]; exact rck_ok (tb := tr416) (fun _ => rfl) ck416 h
    · cases h

set_option maxRecDepth 100000 in
theorem febbbaabb_ok {m pc : Nat} {f : rI} (h : febbbaabb m pc = some f) : decode (rB m) pc = .ok (f.1, f.2.1) ∧ rchk2 (rpool m) (rmaxl m) f.1 f.2.1 f.2.2 = true := by
  unfold febbbaabb at h
  rcases rcond2 h with ⟨-, h⟩ | ⟨-, h⟩
  · exact febbbaabba_ok h
  · exact febbbaabbb_ok h

set_option maxRecDepth 100000 in
theorem febbbaab_ok {m pc : Nat} {f : rI} (h : febbbaab m pc = some f) : decode (rB m) pc = .ok (f.1, f.2.1) ∧ rchk2 (rpool m) (rmaxl m) f.1 f.2.1 f.2.2 = true := by
  unfold febbbaab at h
  rcases rcond2 h with ⟨-, h⟩ | ⟨-, h⟩
  · exact febbbaaba_ok h
  · exact febbbaabb_ok h

set_option maxRecDepth 100000 in
theorem febbbaa_ok {m pc : Nat} {f : rI} (h : febbbaa m pc = some f) : decode (rB m) pc = .ok (f.1, f.2.1) ∧ rchk2 (rpool m) (rmaxl m) f.1 f.2.1 f.2.2 = true := by
  unfold febbbaa at h
  rcases rcond2 h with ⟨-, h⟩ | ⟨-, h⟩
  · exact febbbaaa_ok h
  · exact febbbaab_ok h

set_option maxRecDepth 100000 in
theorem febbbabaa_ok {m pc : Nat} {f : rI} (h : febbbabaa m pc = some f) : decode (rB m) pc = .ok (f.1, f.2.1) ∧ rchk2 (rpool m) (rmaxl m) f.1 f.2.1 f.2.2 = true := by
  unfold febbbabaa at h
  rcases rcond2 h with ⟨hm, h⟩ | ⟨-, h⟩
  · rw [Nat.eq_of_beq_eq_true hm]; exact rck_ok (tb := tr417) (fun _ => rfl) ck417 h
  · skip
    rcases rcond2 h with ⟨hm, h⟩ | ⟨-, h⟩
    · rw [Nat.eq_of_beq_eq_true hm]; exact rck_ok (tb := tr418) (fun _ => rfl) ck418 h
    · skip
      rcases rcond2 h with ⟨hm, h⟩ | ⟨-, h⟩
      · rw [Nat.eq_of_beq_eq_true hm]; exact rck_ok (tb := tr419) (fun _ => rfl) ck419 h
      · cases h

set_option maxRecDepth 100000 in
theorem febbbababa_ok {m pc : Nat} {f : rI} (h : febbbababa m pc = some f) : decode (rB m) pc = .ok (f.1, f.2.1) ∧ rchk2 (rpool m) (rmaxl m) f.1 f.2.1 f.2.2 = true := by
  unfold febbbababa at h
  rcases rcond2 h with ⟨hm, h⟩ | ⟨-, h⟩
  · rw [Nat.eq_of_beq_eq_true hm]; exact rck_ok (tb := tr420) (fun _ => rfl) ck420 h
  · skip
    rcases rcond2 h with ⟨hm, h⟩ | ⟨-, h⟩
    · rw [Nat.eq_of_beq_eq_true hm]; exact rck_ok (tb := tr421) (fun _ => rfl) ck421 h
    · cases h

set_option maxRecDepth 100000 in
theorem febbbababb_ok {m pc : Nat} {f : rI} (h : febbbababb m pc = some f) : decode (rB m) pc = .ok (f.1, f.2.1) ∧ rchk2 (rpool m) (rmaxl m) f.1 f.2.1 f.2.2 = true := by
  unfold febbbababb at h
  rcases rcond2 h with ⟨hm, h⟩ | ⟨-, h⟩
  · rw [Nat.eq_of_beq_eq_true hm]; exact rck_ok (tb := tr422) (fun _ => rfl) ck422 h
  · skip
    rcases rcond2 h with ⟨hm, h⟩ | ⟨-, h⟩
    · rw [Nat.eq_of_beq_eq_true hm]; exact rck_ok (tb := tr423) (fun _ => rfl) ck423 h
    · cases h

set_option maxRecDepth 100000 in
theorem febbbabab_ok {m pc : Nat} {f : rI} (h : febbbabab m pc = some f) : decode (rB m) pc = .ok (f.1, f.2.1) ∧ rchk2 (rpool m) (rmaxl m) f.1 f.2.1 f.2.2 = true := by
  unfold febbbabab at h
  rcases rcond2 h with ⟨-, h⟩ | ⟨-, h⟩
  · exact febbbababa_ok h
  · exact febbbababb_ok h

set_option maxRecDepth 100000 in
theorem febbbaba_ok {m pc : Nat} {f : rI} (h : febbbaba m pc = some f) : decode (rB m) pc = .ok (f.1, f.2.1) ∧ rchk2 (rpool m) (rmaxl m) f.1 f.2.1 f.2.2 = true := by
  unfold febbbaba at h
  rcases rcond2 h with ⟨-, h⟩ | ⟨-, h⟩
  · exact febbbabaa_ok h
  · exact febbbabab_ok h

set_option maxRecDepth 100000 in
theorem febbbabbaa_ok {m pc : Nat} {f : rI} (h : febbbabbaa m pc = some f) : decode (rB m) pc = .ok (f.1, f.2.1) ∧ rchk2 (rpool m) (rmaxl m) f.1 f.2.1 f.2.2 = true := by
  unfold febbbabbaa at h
  rcases rcond2 h with ⟨hm, h⟩ | ⟨-, h⟩
  · rw [Nat.eq_of_beq_eq_true hm]; exact rck_ok (tb := tr424) (fun _ => rfl) ck424 h
  · skip
    rcases rcond2 h with ⟨hm, h⟩ | ⟨-, h⟩
    · rw [Nat.eq_of_beq_eq_true hm]; exact rck_ok (tb := tr425) (fun _ => rfl) ck425 h
    · cases h

set_option maxRecDepth 100000 in
theorem febbbabbab_ok {m pc : Nat} {f : rI} (h : febbbabbab m pc = some f) : decode (rB m) pc = .ok (f.1, f.2.1) ∧ rchk2 (rpool m) (rmaxl m) f.1 f.2.1 f.2.2 = true := by
  unfold febbbabbab at h
  rcases rcond2 h with ⟨hm, h⟩ | ⟨-, h⟩
  · rw [Nat.eq_of_beq_eq_true hm]; exact rck_ok (tb := tr426) (fun _ => rfl) ck426 h
  · skip
    rcases rcond2 h with ⟨hm, h⟩ | ⟨-, h⟩
    · rw [Nat.eq_of_beq_eq_true hm]; exact rck_ok (tb := tr427) (fun _ => rfl) ck427 h
    · cases h

set_option maxRecDepth 100000 in
theorem febbbabba_ok {m pc : Nat} {f : rI} (h : febbbabba m pc = some f) : decode (rB m) pc = .ok (f.1, f.2.1) ∧ rchk2 (rpool m) (rmaxl m) f.1 f.2.1 f.2.2 = true := by
  unfold febbbabba at h
  rcases rcond2 h with ⟨-, h⟩ | ⟨-, h⟩
  · exact febbbabbaa_ok h
  · exact febbbabbab_ok h

set_option maxRecDepth 100000 in
theorem febbbabbba_ok {m pc : Nat} {f : rI} (h : febbbabbba m pc = some f) : decode (rB m) pc = .ok (f.1, f.2.1) ∧ rchk2 (rpool m) (rmaxl m) f.1 f.2.1 f.2.2 = true := by
  unfold febbbabbba at h
  rcases rcond2 h with ⟨hm, h⟩ | ⟨-, h⟩
  · rw [Nat.eq_of_beq_eq_true hm]; exact rck_ok (tb := tr428) (fun _ => rfl) ck428 h
  · skip
    rcases rcond2 h with ⟨hm, h⟩ | ⟨-, h⟩
    · rw [Nat.eq_of_beq_eq_true hm]; exact rck_ok (tb := tr429) (fun _ => rfl) ck429 h
    · cases h

set_option maxRecDepth 100000 in
theorem febbbabbbb_ok {m pc : Nat} {f : rI} (h : febbbabbbb m pc = some f) : decode (rB m) pc = .ok (f.1, f.2.1) ∧ rchk2 (rpool m) (rmaxl m) f.1 f.2.1 f.2.2 = true := by
  unfold febbbabbbb at h
  rcases rcond2 h with ⟨hm, h⟩ | ⟨-, h⟩
  · rw [Nat.eq_of_beq_eq_true hm]; exact rck_ok (tb := tr430) (fun _ => rfl) ck430 h
  · skip
    rcases rcond2 h with ⟨hm, h⟩ | ⟨-, h⟩
    · rw [Nat.eq_of_beq_eq_true hm]; exact rck_ok (tb := tr431) (fun _ => rfl) ck431 h
    · cases h

set_option maxRecDepth 100000 in
theorem febbbabbb_ok {m pc : Nat} {f : rI} (h : febbbabbb m pc = some f) : decode (rB m) pc = .ok (f.1, f.2.1) ∧ rchk2 (rpool m) (rmaxl m) f.1 f.2.1 f.2.2 = true := by
  unfold febbbabbb at h
  rcases rcond2 h with ⟨-, h⟩ | ⟨-, h⟩
  · exact febbbabbba_ok h
  · exact febbbabbbb_ok h

set_option maxRecDepth 100000 in
theorem febbbabb_ok {m pc : Nat} {f : rI} (h : febbbabb m pc = some f) : decode (rB m) pc = .ok (f.1, f.2.1) ∧ rchk2 (rpool m) (rmaxl m) f.1 f.2.1 f.2.2 = true := by
  unfold febbbabb at h
  rcases rcond2 h with ⟨-, h⟩ | ⟨-, h⟩
  · exact febbbabba_ok h
  · exact febbbabbb_ok h

set_option maxRecDepth 100000 in
theorem febbbab_ok {m pc : Nat} {f : rI} (h : febbbab m pc = some f) : decode (rB m) pc = .ok (f.1, f.2.1) ∧ rchk2 (rpool m) (rmaxl m) f.1 f.2.1 f.2.2 = true := by
  unfold febbbab at h
  rcases rcond2 h with ⟨-, h⟩ | ⟨-, h⟩
  · exact febbbaba_ok h
  · exact febbbabb_ok h

set_option maxRecDepth 100000 in
theorem febbba_ok {m pc : Nat} {f : rI} (h : febbba m pc = some f) : decode (rB m) pc = .ok (f.1, f.2.1) ∧ rchk2 (rpool m) (rmaxl m) f.1 f.2.1 f.2.2 = true := by
  unfold febbba at h
  rcases rcond2 h with ⟨-, h⟩ | ⟨-, h⟩
  · exact febbbaa_ok h
  · exact febbbab_ok h

set_option maxRecDepth 100000 in
theorem febbbbaaa_ok {m pc : Nat} {f : rI} (h : febbbbaaa m pc = some f) : decode (rB m) pc = .ok (f.1, f.2.1) ∧ rchk2 (rpool m) (rmaxl m) f.1 f.2.1 f.2.2 = true := by
  unfold febbbbaaa at h
  rcases rcond2 h with ⟨hm, h⟩ | ⟨-, h⟩
  · rw [Nat.eq_of_beq_eq_true hm]; exact rck_ok (tb := tr432) (fun _ => rfl) ck432 h
  · skip
    rcases rcond2 h with ⟨hm, h⟩ | ⟨-, h⟩
    · rw [Nat.eq_of_beq_eq_true hm]; exact rck_ok (tb := tr433) (fun _ => rfl) ck433 h
    · skip
      rcases rcond2 h with ⟨hm, h⟩ | ⟨-, h⟩
      · rw [Nat.eq_of_beq_eq_true hm]; exact rck_ok (tb := tr434) (fun _ => rfl) ck434 h
      · cases h

set_option maxRecDepth 100000 in
theorem febbbbaaba_ok {m pc : Nat} {f : rI} (h : febbbbaaba m pc = some f) : decode (rB m) pc = .ok (f.1, f.2.1) ∧ rchk2 (rpool m) (rmaxl m) f.1 f.2.1 f.2.2 = true := by
  unfold febbbbaaba at h
  rcases rcond2 h with ⟨hm, h⟩ | ⟨-, h⟩
  · rw [Nat.eq_of_beq_eq_true hm]; exact rck_ok (tb := tr435) (fun _ => rfl) ck435 h
  · skip
    rcases rcond2 h with ⟨hm, h⟩ | ⟨-, h⟩
    · rw [Nat.eq_of_beq_eq_true hm]; exact rck_ok (tb := tr436) (fun _ => rfl) ck436 h
    · cases h

set_option maxRecDepth 100000 in
theorem febbbbaabb_ok {m pc : Nat} {f : rI} (h : febbbbaabb m pc = some f) : decode (rB m) pc = .ok (f.1, f.2.1) ∧ rchk2 (rpool m) (rmaxl m) f.1 f.2.1 f.2.2 = true := by
  unfold febbbbaabb at h
  rcases rcond2 h with ⟨hm, h⟩ | ⟨-, h⟩
  · rw [Nat.eq_of_beq_eq_true hm]; exact rck_ok (tb := tr437) (fun _ => rfl) ck437 h
  · skip
    rcases rcond2 h with ⟨hm, h⟩ | ⟨-, h⟩
    · rw [Nat.eq_of_beq_eq_true hm]; exact rck_ok (tb := tr438) (fun _ => rfl) ck438 h
    · cases h

set_option maxRecDepth 100000 in
theorem febbbbaab_ok {m pc : Nat} {f : rI} (h : febbbbaab m pc = some f) : decode (rB m) pc = .ok (f.1, f.2.1) ∧ rchk2 (rpool m) (rmaxl m) f.1 f.2.1 f.2.2 = true := by
  unfold febbbbaab at h
  rcases rcond2 h with ⟨-, h⟩ | ⟨-, h⟩
  · exact febbbbaaba_ok h
  · exact febbbbaabb_ok h

set_option maxRecDepth 100000 in
theorem febbbbaa_ok {m pc : Nat} {f : rI} (h : febbbbaa m pc = some f) : decode (rB m) pc = .ok (f.1, f.2.1) ∧ rchk2 (rpool m) (rmaxl m) f.1 f.2.1 f.2.2 = true := by
  unfold febbbbaa at h
  rcases rcond2 h with ⟨-, h⟩ | ⟨-, h⟩
  · exact febbbbaaa_ok h
  · exact febbbbaab_ok h

set_option maxRecDepth 100000 in
theorem febbbbaba_ok {m pc : Nat} {f : rI} (h : febbbbaba m pc = some f) : decode (rB m) pc = .ok (f.1, f.2.1) ∧ rchk2 (rpool m) (rmaxl m) f.1 f.2.1 f.2.2 = true := by
  unfold febbbbaba at h
  rcases rcond2 h with ⟨hm, h⟩ | ⟨-, h⟩
  · rw [Nat.eq_of_beq_eq_true hm]; exact rck_ok (tb := tr439) (fun _ => rfl) ck439 h
  · skip
    rcases rcond2 h with ⟨hm, h⟩ | ⟨-, h⟩
    · rw [Nat.eq_of_beq_eq_true hm]; exact rck_ok (tb := tr440) (fun _ => rfl) ck440 h
    · skip
      rcases rcond2 h with ⟨hm, h⟩ | ⟨-, h⟩
      · rw [Nat.eq_of_beq_eq_true hm]; exact rck_ok (tb := tr441) (fun _ => rfl) ck441 h
      · cases h

set_option maxRecDepth 100000 in
theorem febbbbabba_ok {m pc : Nat} {f : rI} (h : febbbbabba m pc = some f) : decode (rB m) pc = .ok (f.1, f.2.1) ∧ rchk2 (rpool m) (rmaxl m) f.1 f.2.1 f.2.2 = true := by
  unfold febbbbabba at h
  rcases rcond2 h with ⟨hm, h⟩ | ⟨-, h⟩
  · rw [Nat.eq_of_beq_eq_true hm]; exact rck_ok (tb := tr442) (fun _ => rfl) ck442 h
  · skip
    rcases rcond2 h with ⟨hm, h⟩ | ⟨-, h⟩
    · rw [Nat.eq_of_beq_eq_true hm]; exact rck_ok (tb := tr443) (fun _ => rfl) ck443 h
    · cases h

set_option maxRecDepth 100000 in
theorem febbbbabbb_ok {m pc : Nat} {f : rI} (h : febbbbabbb m pc = some f) : decode (rB m) pc = .ok (f.1, f.2.1) ∧ rchk2 (rpool m) (rmaxl m) f.1 f.2.1 f.2.2 = true := by
  unfold febbbbabbb at h
  rcases rcond2 h with ⟨hm, h⟩ | ⟨-, h⟩
  · rw [Nat.eq_of_beq_eq_true hm]; exact rck_ok (tb := tr444) (fun _ => rfl) ck444 h
  · skip
    rcases rcond2 h with ⟨hm, h⟩ | ⟨-, h⟩
    · rw [Nat.eq_of_beq_eq_true hm]; exact rck_ok (tb := tr445) (fun _ => rfl) ck445 h
    · cases h

set_option maxRecDepth 100000 in
theorem febbbbabb_ok {m pc : Nat} {f : rI} (h : febbbbabb m pc = some f) : decode (rB m) pc = .ok (f.1, f.2.1) ∧ rchk2 (rpool m) (rmaxl m) f.1 f.2.1 f.2.2 = true := by
  unfold febbbbabb at h
  rcases rcond2 h with ⟨-, h⟩ | ⟨-, h⟩
  · exact febbbbabba_ok h
  · exact febbbbabbb_ok h

set_option maxRecDepth 100000 in
theorem febbbbab_ok {m pc : Nat} {f : rI} (h : febbbbab m pc = some f) : decode (rB m) pc = .ok (f.1, f.2.1) ∧ rchk2 (rpool m) (rmaxl m) f.1 f.2.1 f.2.2 = true := by
  unfold febbbbab at h
  rcases rcond2 h with ⟨-, h⟩ | ⟨-, h⟩
  · exact febbbbaba_ok h
  · exact febbbbabb_ok h

set_option maxRecDepth 100000 in
theorem febbbba_ok {m pc : Nat} {f : rI} (h : febbbba m pc = some f) : decode (rB m) pc = .ok (f.1, f.2.1) ∧ rchk2 (rpool m) (rmaxl m) f.1 f.2.1 f.2.2 = true := by
  unfold febbbba at h
  rcases rcond2 h with ⟨-, h⟩ | ⟨-, h⟩
  · exact febbbbaa_ok h
  · exact febbbbab_ok h

set_option maxRecDepth 100000 in
theorem febbbbbaa_ok {m pc : Nat} {f : rI} (h : febbbbbaa m pc = some f) : decode (rB m) pc = .ok (f.1, f.2.1) ∧ rchk2 (rpool m) (rmaxl m) f.1 f.2.1 f.2.2 = true := by
  unfold febbbbbaa at h
  rcases rcond2 h with ⟨hm, h⟩ | ⟨-, h⟩
  · rw [Nat.eq_of_beq_eq_true hm]; exact rck_ok (tb := tr446) (fun _ => rfl) ck446 h
  · skip
    rcases rcond2 h with ⟨hm, h⟩ | ⟨-, h⟩
    · rw [Nat.eq_of_beq_eq_true hm]; exact rck_ok (tb := tr447) (fun _ => rfl) ck447 h
    · skip
      rcases rcond2 h with ⟨hm, h⟩ | ⟨-, h⟩
      · rw [Nat.eq_of_beq_eq_true hm]; exact rck_ok (tb := tr448) (fun _ => rfl) ck448 h
      · cases h

set_option maxRecDepth 100000 in
theorem febbbbbaba_ok {m pc : Nat} {f : rI} (h : febbbbbaba m pc = some f) : decode (rB m) pc = .ok (f.1, f.2.1) ∧ rchk2 (rpool m) (rmaxl m) f.1 f.2.1 f.2.2 = true := by
  unfold febbbbbaba at h
  rcases rcond2 h with ⟨hm, h⟩ | ⟨-, h⟩
  · rw [Nat.eq_of_beq_eq_true hm]; exact rck_ok (tb := tr449) (fun _ => rfl) ck449 h
  · skip
    rcases rcond2 h with ⟨hm, h⟩ | ⟨-, h⟩
    · rw [Nat.eq_of_beq_eq_true hm]; exact rck_ok (tb := tr450) (fun _ => rfl) ck450 h
    · cases h

set_option maxRecDepth 100000 in
theorem febbbbbabb_ok {m pc : Nat} {f : rI} (h : febbbbbabb m pc = some f) : decode (rB m) pc = .ok (f.1, f.2.1) ∧ rchk2 (rpool m) (rmaxl m) f.1 f.2.1 f.2.2 = true := by
  unfold febbbbbabb at h
  rcases rcond2 h with ⟨hm, h⟩ | ⟨-, h⟩
  · rw [Nat.eq_of_beq_eq_true hm]; exact rck_ok (tb := tr451) (fun _ => rfl) ck451 h
  · skip
    rcases rcond2 h with ⟨hm, h⟩ | ⟨-, h⟩
    · rw [Nat.eq_of_beq_eq_true hm]; exact rck_ok (tb := tr452) (fun _ => rfl) ck452 h
    · cases h

set_option maxRecDepth 100000 in
theorem febbbbbab_ok {m pc : Nat} {f : rI} (h : febbbbbab m pc = some f) : decode (rB m) pc = .ok (f.1, f.2.1) ∧ rchk2 (rpool m) (rmaxl m) f.1 f.2.1 f.2.2 = true := by
  unfold febbbbbab at h
  rcases rcond2 h with ⟨-, h⟩ | ⟨-, h⟩
  · exact febbbbbaba_ok h
  · exact febbbbbabb_ok h

set_option maxRecDepth 100000 in
theorem febbbbba_ok {m pc : Nat} {f : rI} (h : febbbbba m pc = some f) : decode (rB m) pc = .ok (f.1, f.2.1) ∧ rchk2 (rpool m) (rmaxl m) f.1 f.2.1 f.2.2 = true := by
  unfold febbbbba at h
  rcases rcond2 h with ⟨-, h⟩ | ⟨-, h⟩
  · exact febbbbbaa_ok h
  · exact febbbbbab_ok h

set_option maxRecDepth 100000 in
theorem febbbbbbaa_ok {m pc : Nat} {f : rI} (h : febbbbbbaa m pc = some f) : decode (rB m) pc = .ok (f.1, f.2.1) ∧ rchk2 (rpool m) (rmaxl m) f.1 f.2.1 f.2.2 = true := by
  unfold febbbbbbaa at h
  rcases rcond2 h with ⟨hm, h⟩ | ⟨-, h⟩
  · rw [Nat.eq_of_beq_eq_true hm]; exact rck_ok (tb := tr453) (fun _ => rfl) ck453 h
  · skip
    rcases rcond2 h with ⟨hm, h⟩ | ⟨-, h⟩
    · rw [Nat.eq_of_beq_eq_true hm]; exact rck_ok (tb := tr454) (fun _ => rfl) ck454 h
    · cases h

set_option maxRecDepth 100000 in
theorem febbbbbbab_ok {m pc : Nat} {f : rI} (h : febbbbbbab m pc = some f) : decode (rB m) pc = .ok (f.1, f.2.1) ∧ rchk2 (rpool m) (rmaxl m) f.1 f.2.1 f.2.2 = true := by
  unfold febbbbbbab at h
  rcases rcond2 h with ⟨hm, h⟩ | ⟨-, h⟩
  · rw [Nat.eq_of_beq_eq_true hm]; exact rck_ok (tb := tr455) (fun _ => rfl) ck455 h
  · skip
    rcases rcond2 h with ⟨hm, h⟩ | ⟨-, h⟩
    · rw [Nat.eq_of_beq_eq_true hm]; exact rck_ok (tb := tr456) (fun _ => rfl) ck456 h
    · cases h

set_option maxRecDepth 100000 in
theorem febbbbbba_ok {m pc : Nat} {f : rI} (h : febbbbbba m pc = some f) : decode (rB m) pc = .ok (f.1, f.2.1) ∧ rchk2 (rpool m) (rmaxl m) f.1 f.2.1 f.2.2 = true := by
  unfold febbbbbba at h
  rcases rcond2 h with ⟨-, h⟩ | ⟨-, h⟩
  · exact febbbbbbaa_ok h
  · exact febbbbbbab_ok h

set_option maxRecDepth 100000 in
theorem febbbbbbba_ok {m pc : Nat} {f : rI} (h : febbbbbbba m pc = some f) : decode (rB m) pc = .ok (f.1, f.2.1) ∧ rchk2 (rpool m) (rmaxl m) f.1 f.2.1 f.2.2 = true := by
  unfold febbbbbbba at h
  rcases rcond2 h with ⟨hm, h⟩ | ⟨-, h⟩
  · rw [Nat.eq_of_beq_eq_true hm]; exact rck_ok (tb := tr457) (fun _ => rfl) ck457 h
  · skip
    rcases rcond2 h with ⟨hm, h⟩ | ⟨-, h⟩
    · rw [Nat.eq_of_beq_eq_true hm]; exact rck_ok (tb := tr458) (fun _ => rfl) ck458 h
    · cases h

set_option maxRecDepth 100000 in
theorem febbbbbbbb_ok {m pc : Nat} {f : rI} (h : febbbbbbbb m pc = some f) : decode (rB m) pc = .ok (f.1, f.2.1) ∧ rchk2 (rpool m) (rmaxl m) f.1 f.2.1 f.2.2 = true := by
  unfold febbbbbbbb at h
  rcases rcond2 h with ⟨hm, h⟩ | ⟨-, h⟩
  · rw [Nat.eq_of_beq_eq_true hm]; exact rck_ok (tb := tr459) (fun _ => rfl) ck459 h
  · skip
    rcases rcond2 h with ⟨hm, h⟩ | ⟨-, h⟩
    · rw [Nat.eq_of_beq_eq_true hm]; exact rck_ok (tb := tr460) (fun _ => rfl) ck460 h
    · cases h

set_option maxRecDepth 100000 in
theorem febbbbbbb_ok {m pc : Nat} {f : rI} (h : febbbbbbb m pc = some f) : decode (rB m) pc = .ok (f.1, f.2.1) ∧ rchk2 (rpool m) (rmaxl m) f.1 f.2.1 f.2.2 = true := by
  unfold febbbbbbb at h
  rcases rcond2 h with ⟨-, h⟩ | ⟨-, h⟩
  · exact febbbbbbba_ok h
  · exact febbbbbbbb_ok h

set_option maxRecDepth 100000 in
theorem febbbbbb_ok {m pc : Nat} {f : rI} (h : febbbbbb m pc = some f) : decode (rB m) pc = .ok (f.1, f.2.1) ∧ rchk2 (rpool m) (rmaxl m) f.1 f.2.1 f.2.2 = true := by
  unfold febbbbbb at h
  rcases rcond2 h with ⟨-, h⟩ | ⟨-, h⟩
  · exact febbbbbba_ok h
  · exact febbbbbbb_ok h

set_option maxRecDepth 100000 in
theorem febbbbb_ok {m pc : Nat} {f : rI} (h : febbbbb m pc = some f) : decode (rB m) pc = .ok (f.1, f.2.1) ∧ rchk2 (rpool m) (rmaxl m) f.1 f.2.1 f.2.2 = true := by
  unfold febbbbb at h
  rcases rcond2 h with ⟨-, h⟩ | ⟨-, h⟩
  · exact febbbbba_ok h
  · exact febbbbbb_ok h

set_option maxRecDepth 100000 in
theorem febbbb_ok {m pc : Nat} {f : rI} (h : febbbb m pc = some f) : decode (rB m) pc = .ok (f.1, f.2.1) ∧ rchk2 (rpool m) (rmaxl m) f.1 f.2.1 f.2.2 = true := by
  unfold febbbb at h
  rcases rcond2 h with ⟨-, h⟩ | ⟨-, h⟩
  · exact febbbba_ok h
  · exact febbbbb_ok h

set_option maxRecDepth 100000 in
theorem febbb_ok {m pc : Nat} {f : rI} (h : febbb m pc = some f) : decode (rB m) pc = .ok (f.1, f.2.1) ∧ rchk2 (rpool m) (rmaxl m) f.1 f.2.1 f.2.2 = true := by
  unfold febbb at h
  rcases rcond2 h with ⟨-, h⟩ | ⟨-, h⟩
  · exact febbba_ok h
  · exact febbbb_ok h

set_option maxRecDepth 100000 in
theorem febb_ok {m pc : Nat} {f : rI} (h : febb m pc = some f) : decode (rB m) pc = .ok (f.1, f.2.1) ∧ rchk2 (rpool m) (rmaxl m) f.1 f.2.1 f.2.2 = true := by
  unfold febb at h
  rcases rcond2 h with ⟨-, h⟩ | ⟨-, h⟩
  · exact febba_ok h
  · exact febbb_ok h

set_option maxRecDepth 100000 in
theorem feb_ok {m pc : Nat} {f : rI} (h : feb m pc = some f) : decode (rB m) pc = .ok (f.1, f.2.1) ∧ rchk2 (rpool m) (rmaxl m) f.1 f.2.1 f.2.2 = true := by
  unfold feb at h
  rcases rcond2 h with ⟨-, h⟩ | ⟨-, h⟩
  · exact feba_ok h
  · exact febb_ok h

set_option maxRecDepth 100000 in
theorem fe_ok {m pc : Nat} {f : rI} (h : fe m pc = some f) : decode (rB m) pc = .ok (f.1, f.2.1) ∧ rchk2 (rpool m) (rmaxl m) f.1 f.2.1 f.2.2 = true := by
  unfold fe at h
  rcases rcond2 h with ⟨-, h⟩ | ⟨-, h⟩
  · exact fea_ok h
  · exact feb_ok h

theorem rfetch_ok {m pc : Nat} {f : rI} (h : rfetch m pc = some f) : decode (rB m) pc = .ok (f.1, f.2.1) ∧ rchk2 (rpool m) (rmaxl m) f.1 f.2.1 f.2.2 = true := fe_ok h
