/-! the listing as a whole -/
def feaaaaaa (m pc : Nat) : Option rI := bif Nat.beq m 0 then tb0 pc else (bif Nat.beq m 1 then tb1 pc else (bif Nat.beq m 2 then tb2 pc else none))
set_option maxRecDepth 100000 in
theorem feaaaaaa_ok {m pc : Nat} {f : rI} (h : feaaaaaa m pc = some f) : decode (rB m) pc = .ok (f.1, f.2.1) ∧ rchk (rpool m) (rmaxl m) f.1 f.2.1 f.2.2 = true := by
  unfold feaaaaaa at h
  rcases rcond2 h with ⟨hm, h⟩ | ⟨-, h⟩
  · rw [Nat.eq_of_beq_eq_true hm]; exact rck_ok (tb := tr0) (fun _ => rfl) ck0 h
  · skip
    rcases rcond2 h with ⟨hm, h⟩ | ⟨-, h⟩
    · rw [Nat.eq_of_beq_eq_true hm]; exact rck_ok (tb := tr1) (fun _ => rfl) ck1 h
    · skip
      rcases rcond2 h with ⟨hm, h⟩ | ⟨-, h⟩
      · rw [Nat.eq_of_beq_eq_true hm]; exact rck_ok (tb := tr2) (fun _ => rfl) ck2 h
      · cases h

def feaaaaaba (m pc : Nat) : Option rI := bif Nat.beq m 3 then tb3 pc else (bif Nat.beq m 4 then tb4 pc else none)
set_option maxRecDepth 100000 in
theorem feaaaaaba_ok {m pc : Nat} {f : rI} (h : feaaaaaba m pc = some f) : decode (rB m) pc = .ok (f.1, f.2.1) ∧ rchk (rpool m) (rmaxl m) f.1 f.2.1 f.2.2 = true := by
  unfold feaaaaaba at h
  rcases rcond2 h with ⟨hm, h⟩ | ⟨-, h⟩
  · rw [Nat.eq_of_beq_eq_true hm]; exact rck_ok (tb := tr3) (fun _ => rfl) ck3 h
  · skip
    rcases rcond2 h with ⟨hm, h⟩ | ⟨-, h⟩
    · rw [Nat.eq_of_beq_eq_true hm]; exact rck_ok (tb := tr4) (fun _ => rfl) ck4 h
    · cases h

def feaaaaabb (m pc : Nat) : Option rI := bif Nat.beq m 5 then tb5 pc else (bif Nat.beq m 6 then tb6 pc else none)
set_option maxRecDepth 100000 in
theorem feaaaaabb_ok {m pc : Nat} {f : rI} (h : feaaaaabb m pc = some f) : decode (rB m) pc = .ok (f.1, f.2.1) ∧ rchk (rpool m) (rmaxl m) f.1 f.2.1 f.2.2 = true := by
  unfold feaaaaabb at h
  rcases rcond2 h with ⟨hm, h⟩ | ⟨-, h⟩
  · rw [Nat.eq_of_beq_eq_true hm]; exact rck_ok (tb := tr5) (fun _ => rfl) ck5 h
  · skip
    rcases rcond2 h with ⟨hm, h⟩ | ⟨-, h⟩
    · rw [Nat.eq_of_beq_eq_true hm]; exact rck_ok (tb := tr6) (fun _ => rfl) ck6 h
    · cases h

def feaaaaab (m pc : Nat) : Option rI := bif Nat.blt m 5 then feaaaaaba m pc else feaaaaabb m pc
set_option maxRecDepth 100000 in
theorem feaaaaab_ok {m pc : Nat} {f : rI} (h : feaaaaab m pc = some f) : decode (rB m) pc = .ok (f.1, f.2.1) ∧ rchk (rpool m) (rmaxl m) f.1 f.2.1 f.2.2 = true := by
  unfold feaaaaab at h
  rcases rcond2 h with ⟨-, h⟩ | ⟨-, h⟩
  · exact feaaaaaba_ok h
  · exact feaaaaabb_ok h

def feaaaaa (m pc : Nat) : Option rI := bif Nat.blt m 3 then feaaaaaa m pc else feaaaaab m pc
set_option maxRecDepth 100000 in
theorem feaaaaa_ok {m pc : Nat} {f : rI} (h : feaaaaa m pc = some f) : decode (rB m) pc = .ok (f.1, f.2.1) ∧ rchk (rpool m) (rmaxl m) f.1 f.2.1 f.2.2 = true := by
  unfold feaaaaa at h
  rcases rcond2 h with ⟨-, h⟩ | ⟨-, h⟩
  · exact feaaaaaa_ok h
  · exact feaaaaab_ok h

def feaaaabaa (m pc : Nat) : Option rI := bif Nat.beq m 7 then tb7 pc else (bif Nat.beq m 8 then tb8 pc else none)
set_option maxRecDepth 100000 in
theorem feaaaabaa_ok {m pc : Nat} {f : rI} (h : feaaaabaa m pc = some f) : decode (rB m) pc = .ok (f.1, f.2.1) ∧ rchk (rpool m) (rmaxl m) f.1 f.2.1 f.2.2 = true := by
  unfold feaaaabaa at h
  rcases rcond2 h with ⟨hm, h⟩ | ⟨-, h⟩
  · rw [Nat.eq_of_beq_eq_true hm]; exact rck_ok (tb := tr7) (fun _ => rfl) ck7 h
  · skip
    rcases rcond2 h with ⟨hm, h⟩ | ⟨-, h⟩
    · rw [Nat.eq_of_beq_eq_true hm]; exact rck_ok (tb := tr8) (fun _ => rfl) ck8 h
    · cases h

def feaaaabab (m pc : Nat) : Option rI := bif Nat.beq m 9 then tb9 pc else (bif Nat.beq m 10 then tb10 pc else none)
set_option maxRecDepth 100000 in
theorem feaaaabab_ok {m pc : Nat} {f : rI} (h : feaaaabab m pc = some f) : decode (rB m) pc = .ok (f.1, f.2.1) ∧ rchk (rpool m) (rmaxl m) f.1 f.2.1 f.2.2 = true := by
  unfold feaaaabab at h
  rcases rcond2 h with ⟨hm, h⟩ | ⟨-, h⟩
  · rw [Nat.eq_of_beq_eq_true hm]; exact rck_ok (tb := tr9) (fun _ => rfl) ck9 h
  · skip
    rcases rcond2 h with ⟨hm, h⟩ | ⟨-, h⟩
    · rw [Nat.eq_of_beq_eq_true hm]; exact rck_ok (tb := tr10) (fun _ => rfl) ck10 h
    · cases h

def feaaaaba (m pc : Nat) : Option rI := bif Nat.blt m 9 then feaaaabaa m pc else feaaaabab m pc
set_option maxRecDepth 100000 in
theorem feaaaaba_ok {m pc : Nat} {f : rI} (h : feaaaaba m pc = some f) : decode (rB m) pc = .ok (f.1, f.2.1) ∧ rchk (rpool m) (rmaxl m) f.1 f.2.1 f.2.2 = true := by
  unfold feaaaaba at h
  rcases rcond2 h with ⟨-, h⟩ | ⟨-, h⟩
  · exact feaaaabaa_ok h
  · exact feaaaabab_ok h

def feaaaabba (m pc : Nat) : Option rI := bif Nat.beq m 11 then tb11 pc else (bif Nat.beq m 12 then tb12 pc else none)
set_option maxRecDepth 100000 in
theorem feaaaabba_ok {m pc : Nat} {f : rI} (h : feaaaabba m pc = some f) : decode (rB m) pc = .ok (f.1, f.2.1) ∧ rchk (rpool m) (rmaxl m) f.1 f.2.1 f.2.2 = true := by
  unfold feaaaabba at h
  rcases rcond2 h with ⟨hm, h⟩ | ⟨-, h⟩
  · rw [Nat.eq_of_beq_eq_true hm]; exact rck_ok (tb := tr11) (fun _ => rfl) ck11 h
  · skip
    rcases rcond2 h with ⟨hm, h⟩ | ⟨-, h⟩
    · rw [Nat.eq_of_beq_eq_true hm]; exact rck_ok (tb := tr12) (fun _ => rfl) ck12 h
    · cases h

def feaaaabbb (m pc : Nat) : Option rI := bif Nat.beq m 13 then tb13 pc else (bif Nat.beq m 14 then tb14 pc else none)
set_option maxRecDepth 100000 in
theorem feaaaabbb_ok {m pc : Nat} {f : rI} (h : feaaaabbb m pc = some f) : decode (rB m) pc = .ok (f.1, f.2.1) ∧ rchk (rpool m) (rmaxl m) f.1 f.2.1 f.2.2 = true := by
  unfold feaaaabbb at h
  rcases rcond2 h with ⟨hm, h⟩ | ⟨-, h⟩
  · rw [Nat.eq_of_beq_eq_true hm]; exact rck_ok (tb := tr13) (fun _ => rfl) ck13 h
  · skip
    rcases rcond2 h with ⟨hm, h⟩ | ⟨-, h⟩
    · rw [Nat.eq_of_beq_eq_true hm]; exact rck_ok (tb := tr14) (fun _ => rfl) ck14 h
    · cases h

def feaaaabb (m pc : Nat) : Option rI := bif Nat.blt m 13 then feaaaabba m pc else feaaaabbb m pc
set_option maxRecDepth 100000 in
theorem feaaaabb_ok {m pc : Nat} {f : rI} (h : feaaaabb m pc = some f) : decode (rB m) pc = .ok (f.1, f.2.1) ∧ rchk (rpool m) (rmaxl m) f.1 f.2.1 f.2.2 = true := by
  unfold feaaaabb at h
  rcases rcond2 h with ⟨-, h⟩ | ⟨-, h⟩
  · exact feaaaabba_ok h
  · exact feaaaabbb_ok h

def feaaaab (m pc : Nat) : Option rI := bif Nat.blt m 11 then feaaaaba m pc else feaaaabb m pc
set_option maxRecDepth 100000 in
theorem feaaaab_ok {m pc : Nat} {f : rI} (h : feaaaab m pc = some f) : decode (rB m) pc = .ok (f.1, f.2.1) ∧ rchk (rpool m) (rmaxl m) f.1 f.2.1 f.2.2 = true := by
  unfold feaaaab at h
  rcases rcond2 h with ⟨-, h⟩ | ⟨-, h⟩
  · exact feaaaaba_ok h
  · exact feaaaabb_ok h

def feaaaa (m pc : Nat) : Option rI := bif Nat.blt m 7 then feaaaaa m pc else feaaaab m pc
set_option maxRecDepth 100000 in
theorem feaaaa_ok {m pc : Nat} {f : rI} (h : feaaaa m pc = some f) : decode (rB m) pc = .ok (f.1, f.2.1) ∧ rchk (rpool m) (rmaxl m) f.1 f.2.1 f.2.2 = true := by
  unfold feaaaa at h
  rcases rcond2 h with ⟨-, h⟩ | ⟨-, h⟩
  · exact feaaaaa_ok h
  · exact feaaaab_ok h

def feaaabaaa (m pc : Nat) : Option rI := bif Nat.beq m 15 then tb15 pc else (bif Nat.beq m 16 then tb16 pc else none)
set_option maxRecDepth 100000 in
theorem feaaabaaa_ok {m pc : Nat} {f : rI} (h : feaaabaaa m pc = some f) : decode (rB m) pc = .ok (f.1, f.2.1) ∧ rchk (rpool m) (rmaxl m) f.1 f.2.1 f.2.2 = true := by
  unfold feaaabaaa at h
  rcases rcond2 h with ⟨hm, h⟩ | ⟨-, h⟩
  · rw [Nat.eq_of_beq_eq_true hm]; exact rck_ok (tb := tr15) (fun _ => rfl) ck15 h
  · skip
    rcases rcond2 h with ⟨hm, h⟩ | ⟨-, h⟩
    · rw [Nat.eq_of_beq_eq_true hm]; exact rck_ok (tb := tr16) (fun _ => rfl) ck16 h
    · cases h

def feaaabaab (m pc : Nat) : Option rI := bif Nat.beq m 17 then tb17 pc else (bif Nat.beq m 18 then tb18 pc else none)
set_option maxRecDepth 100000 in
theorem feaaabaab_ok {m pc : Nat} {f : rI} (h : feaaabaab m pc = some f) : decode (rB m) pc = .ok (f.1, f.2.1) ∧ rchk (rpool m) (rmaxl m) f.1 f.2.1 f.2.2 = true := by
  unfold feaaabaab at h
  rcases rcond2 h with ⟨hm, h⟩ | ⟨-, h⟩
  · rw [Nat.eq_of_beq_eq_true hm]; exact rck_ok (tb := tr17) (fun _ => rfl) ck17 h
  · skip
    rcases rcond2 h with ⟨hm, h⟩ | ⟨-, h⟩
    · rw [Nat.eq_of_beq_eq_true hm]; exact rck_ok (tb := tr18) (fun _ => rfl) ck18 h
    · cases h

def feaaabaa (m pc : Nat) : Option rI := bif Nat.blt m 17 then feaaabaaa m pc else feaaabaab m pc
set_option maxRecDepth 100000 in
theorem feaaabaa_ok {m pc : Nat} {f : rI} (h : feaaabaa m pc = some f) : decode (rB m) pc = .ok (f.1, f.2.1) ∧ rchk (rpool m) (rmaxl m) f.1 f.2.1 f.2.2 = true := by
  unfold feaaabaa at h
  rcases rcond2 h with ⟨-, h⟩ | ⟨-, h⟩
  · exact feaaabaaa_ok h
  · exact feaaabaab_ok h

def feaaababa (m pc : Nat) : Option rI := bif Nat.beq m 19 then tb19 pc else (bif Nat.beq m 20 then tb20 pc else none)
set_option maxRecDepth 100000 in
theorem feaaababa_ok {m pc : Nat} {f : rI} (h : feaaababa m pc = some f) : decode (rB m) pc = .ok (f.1, f.2.1) ∧ rchk (rpool m) (rmaxl m) f.1 f.2.1 f.2.2 = true := by
  unfold feaaababa at h
  rcases rcond2 h with ⟨hm, h⟩ | ⟨-, h⟩
  · rw [Nat.eq_of_beq_eq_true hm]; exact rck_ok (tb := tr19) (fun _ => rfl) ck19 h
  · skip
    rcases rcond2 h with ⟨hm, h⟩ | ⟨-, h⟩
    · rw [Nat.eq_of_beq_eq_true hm]; exact rck_ok (tb := tr20) (fun _ => rfl) ck20 h
    · cases h

def feaaababb (m pc : Nat) : Option rI := bif Nat.beq m 21 then tb21 pc else (bif Nat.beq m 22 then tb22 pc else none)
set_option maxRecDepth 100000 in
theorem feaaababb_ok {m pc : Nat} {f : rI} (h : feaaababb m pc = some f) : decode (rB m) pc = .ok (f.1, f.2.1) ∧ rchk (rpool m) (rmaxl m) f.1 f.2.1 f.2.2 = true := by
  unfold feaaababb at h
  rcases rcond2 h with ⟨hm, h⟩ | ⟨-, h⟩
  · rw [Nat.eq_of_beq_eq_true hm]; exact rck_ok (tb := tr21) (fun _ => rfl) ck21 h
  · skip
    rcases rcond2 h with ⟨hm, h⟩ | ⟨-, h⟩
    · rw [Nat.eq_of_beq_eq_true hm]; exact rck_ok (tb := tr22) (fun _ => rfl) ck22 h
    · cases h

def feaaabab (m pc : Nat) : Option rI := bif Nat.blt m 21 then feaaababa m pc else feaaababb m pc
set_option maxRecDepth 100000 in
theorem feaaabab_ok {m pc : Nat} {f : rI} (h : feaaabab m pc = some f) : decode (rB m) pc = .ok (f.1, f.2.1) ∧ rchk (rpool m) (rmaxl m) f.1 f.2.1 f.2.2 = true := by
  unfold feaaabab at h
  rcases rcond2 h with ⟨-, h⟩ | ⟨-, h⟩
  · exact feaaababa_ok h
  · exact feaaababb_ok h

def feaaaba (m pc : Nat) : Option rI := bif Nat.blt m 19 then feaaabaa m pc else feaaabab m pc
set_option maxRecDepth 100000 in
theorem feaaaba_ok {m pc : Nat} {f : rI} (h : feaaaba m pc = some f) : decode (rB m) pc = .ok (f.1, f.2.1) ∧ rchk (rpool m) (rmaxl m) f.1 f.2.1 f.2.2 = true := by
  unfold feaaaba at h
  rcases rcond2 h with ⟨-, h⟩ | ⟨-, h⟩
  · exact feaaabaa_ok h
  · exact feaaabab_ok h

def feaaabbaa (m pc : Nat) : Option rI := bif Nat.beq m 23 then tb23 pc else (bif Nat.beq m 24 then tb24 pc else none)
set_option maxRecDepth 100000 in
theorem feaaabbaa_ok {m pc : Nat} {f : rI} (h : feaaabbaa m pc = some f) : decode (rB m) pc = .ok (f.1, f.2.1) ∧ rchk (rpool m) (rmaxl m) f.1 f.2.1 f.2.2 = true := by
  unfold feaaabbaa at h
  rcases rcond2 h with ⟨hm, h⟩ | ⟨-, h⟩
  · rw [Nat.eq_of_beq_eq_true hm]; exact rck_ok (tb := tr23) (fun _ => rfl) ck23 h
  · skip
    rcases rcond2 h with ⟨hm, h⟩ | ⟨-, h⟩
    · rw [Nat.eq_of_beq_eq_true hm]; exact rck_ok (tb := tr24) (fun _ => rfl) ck24 h
    · cases h

def feaaabbab (m pc : Nat) : Option rI := bif Nat.beq m 25 then tb25 pc else (bif Nat.beq m 26 then tb26 pc else none)
set_option maxRecDepth 100000 in
theorem feaaabbab_ok {m pc : Nat} {f : rI} (h : feaaabbab m pc = some f) : decode (rB m) pc = .ok (f.1, f.2.1) ∧ rchk (rpool m) (rmaxl m) f.1 f.2.1 f.2.2 = true := by
  unfold feaaabbab at h
  rcases rcond2 h with ⟨hm, h⟩ | ⟨-, h⟩
  · rw [Nat.eq_of_beq_eq_true hm]; exact rck_ok (tb := tr25) (fun _ => rfl) ck25 h
  · skip
    rcases rcond2 h with ⟨hm, h⟩ | ⟨-, h⟩
    · rw [Nat.eq_of_beq_eq_true hm]; exact rck_ok (tb := tr26) (fun _ => rfl) ck26 h
    · cases h

def feaaabba (m pc : Nat) : Option rI := bif Nat.blt m 25 then feaaabbaa m pc else feaaabbab m pc
set_option maxRecDepth 100000 in
theorem feaaabba_ok {m pc : Nat} {f : rI} (h : feaaabba m pc = some f) : decode (rB m) pc = .ok (f.1, f.2.1) ∧ rchk (rpool m) (rmaxl m) f.1 f.2.1 f.2.2 = true := by
  unfold feaaabba at h
  rcases rcond2 h with ⟨-, h⟩ | ⟨-, h⟩
  · exact feaaabbaa_ok h
  · exact feaaabbab_ok h

def feaaabbba (m pc : Nat) : Option rI := bif Nat.beq m 27 then tb27 pc else (bif Nat.beq m 28 then tb28 pc else none)
set_option maxRecDepth 100000 in
theorem feaaabbba_ok {m pc : Nat} {f : rI} (h : feaaabbba m pc = some f) : decode (rB m) pc = .ok (f.1, f.2.1) ∧ rchk (rpool m) (rmaxl m) f.1 f.2.1 f.2.2 = true := by
  unfold feaaabbba at h
  rcases rcond2 h with ⟨hm, h⟩ | ⟨-, h⟩
  · rw [Nat.eq_of_beq_eq_true hm]; exact rck_ok (tb := tr27) (fun _ => rfl) ck27 h
  · skip
    rcases rcond2 h with ⟨hm, h⟩ | ⟨-, h⟩
    · rw [Nat.eq_of_beq_eq_true hm]; exact rck_ok (tb := tr28) (fun _ => rfl) ck28 h
    · cases h

def feaaabbbb (m pc : Nat) : Option rI := bif Nat.beq m 29 then tb29 pc else (bif Nat.beq m 30 then tb30 pc else none)
set_option maxRecDepth 100000 in
theorem feaaabbbb_ok {m pc : Nat} {f : rI} (h : feaaabbbb m pc = some f) : decode (rB m) pc = .ok (f.1, f.2.1) ∧ rchk (rpool m) (rmaxl m) f.1 f.2.1 f.2.2 = true := by
  unfold feaaabbbb at h
  rcases rcond2 h with ⟨hm, h⟩ | ⟨-, h⟩
  · rw [Nat.eq_of_beq_eq_true hm]; exact rck_ok (tb := tr29) (fun _ => rfl) ck29 h
  · skip
    rcases rcond2 h with ⟨hm, h⟩ | ⟨-, h⟩
    · rw [Nat.eq_of_beq_eq_true hm]; exact rck_ok (tb := tr30) (fun _ => rfl) ck30 h
    · cases h

def feaaabbb (m pc : Nat) : Option rI := bif Nat.blt m 29 then feaaabbba m pc else feaaabbbb m pc
set_option maxRecDepth 100000 in
theorem feaaabbb_ok {m pc : Nat} {f : rI} (h : feaaabbb m pc = some f) : decode (rB m) pc = .ok (f.1, f.2.1) ∧ rchk (rpool m) (rmaxl m) f.1 f.2.1 f.2.2 = true := by
  unfold feaaabbb at h
  rcases rcond2 h with ⟨-, h⟩ | ⟨-, h⟩
  · exact feaaabbba_ok h
  · exact feaaabbbb_ok h

def feaaabb (m pc : Nat) : Option rI := bif Nat.blt m 27 then feaaabba m pc else feaaabbb m pc
set_option maxRecDepth 100000 in
theorem feaaabb_ok {m pc : Nat} {f : rI} (h : feaaabb m pc = some f) : decode (rB m) pc = .ok (f.1, f.2.1) ∧ rchk (rpool m) (rmaxl m) f.1 f.2.1 f.2.2 = true := by
  unfold feaaabb at h
  rcases rcond2 h with ⟨-, h⟩ | ⟨-, h⟩
  · exact feaaabba_ok h
  · exact feaaabbb_ok h

def feaaab (m pc : Nat) : Option rI := bif Nat.blt m 23 then feaaaba m pc else feaaabb m pc
set_option maxRecDepth 100000 in
theorem feaaab_ok {m pc : Nat} {f : rI} (h : feaaab m pc = some f) : decode (rB m) pc = .ok (f.1, f.2.1) ∧ rchk (rpool m) (rmaxl m) f.1 f.2.1 f.2.2 = true := by
  unfold feaaab at h
  rcases rcond2 h with ⟨-, h⟩ | ⟨-, h⟩
  · exact feaaaba_ok h
  · exact feaaabb_ok h

def feaaa (m pc : Nat) : Option rI := bif Nat.blt m 15 then feaaaa m pc else feaaab m pc
set_option maxRecDepth 100000 in
theorem feaaa_ok {m pc : Nat} {f : rI} (h : feaaa m pc = some f) : decode (rB m) pc = .ok (f.1, f.2.1) ∧ rchk (rpool m) (rmaxl m) f.1 f.2.1 f.2.2 = true := by
  unfold feaaa at h
  rcases rcond2 h with ⟨-, h⟩ | ⟨-, h⟩
  · exact feaaaa_ok h
  · exact feaaab_ok h

def feaabaaa (m pc : Nat) : Option rI := bif Nat.beq m 31 then tb31 pc else (bif Nat.beq m 32 then tb32 pc else (bif Nat.beq m 33 then tb33 pc else none))
set_option maxRecDepth 100000 in
theorem feaabaaa_ok {m pc : Nat} {f : rI} (h : feaabaaa m pc = some f) : decode (rB m) pc = .ok (f.1, f.2.1) ∧ rchk (rpool m) (rmaxl m) f.1 f.2.1 f.2.2 = true := by
  unfold feaabaaa at h
  rcases rcond2 h with ⟨hm, h⟩ | ⟨-, h⟩
  · rw [Nat.eq_of_beq_eq_true hm]; exact rck_ok (tb := tr31) (fun _ => rfl) ck31 h
  · skip
    rcases rcond2 h with ⟨hm, h⟩ | ⟨-, h⟩
    · rw [Nat.eq_of_beq_eq_true hm]; exact rck_ok (tb := tr32) (fun _ => rfl) ck32 h
    · skip
      rcases rcond2 h with ⟨hm, h⟩ | ⟨-, h⟩
      · rw [Nat.eq_of_beq_eq_true hm]; exact rck_ok (tb := tr33) (fun _ => rfl) ck33 h
      · cases h

def feaabaaba (m pc : Nat) : Option rI := bif Nat.beq m 34 then tb34 pc else (bif Nat.beq m 35 then tb35 pc else none)
set_option maxRecDepth 100000 in
theorem feaabaaba_ok {m pc : Nat} {f : rI} (h : feaabaaba m pc = some f) : decode (rB m) pc = .ok (f.1, f.2.1) ∧ rchk (rpool m) (rmaxl m) f.1 f.2.1 f.2.2 = true := by
  unfold feaabaaba at h
  rcases rcond2 h with ⟨hm, h⟩ | ⟨-, h⟩
  · rw [Nat.eq_of_beq_eq_true hm]; exact rck_ok (tb := tr34) (fun _ => rfl) ck34 h
  · skip
    rcases rcond2 h with ⟨hm, h⟩ | ⟨-, h⟩
    · rw [Nat.eq_of_beq_eq_true hm]; exact rck_ok (tb := tr35) (fun _ => rfl) ck35 h
    · cases h

def feaabaabb (m pc : Nat) : Option rI := bif Nat.beq m 36 then tb36 pc else (bif Nat.beq m 37 then tb37 pc else none)
set_option maxRecDepth 100000 in
theorem feaabaabb_ok {m pc : Nat} {f : rI} (h : feaabaabb m pc = some f) : decode (rB m) pc = .ok (f.1, f.2.1) ∧ rchk (rpool m) (rmaxl m) f.1 f.2.1 f.2.2 = true := by
  unfold feaabaabb at h
  rcases rcond2 h with ⟨hm, h⟩ | ⟨-, h⟩
  · rw [Nat.eq_of_beq_eq_true hm]; exact rck_ok (tb := tr36) (fun _ => rfl) ck36 h
  · skip
    rcases rcond2 h with ⟨hm, h⟩ | ⟨-, h⟩
    · rw [Nat.eq_of_beq_eq_true hm]; exact rck_ok (tb := tr37) (fun _ => rfl) ck37 h
    · cases h

def feaabaab (m pc : Nat) : Option rI := bif Nat.blt m 36 then feaabaaba m pc else feaabaabb m pc
set_option maxRecDepth 100000 in
theorem feaabaab_ok {m pc : Nat} {f : rI} (h : feaabaab m pc = some f) : decode (rB m) pc = .ok (f.1, f.2.1) ∧ rchk (rpool m) (rmaxl m) f.1 f.2.1 f.2.2 = true := by
  unfold feaabaab at h
  rcases rcond2 h with ⟨-, h⟩ | ⟨-, h⟩
  · exact feaabaaba_ok h
  · exact feaabaabb_ok h

def feaabaa (m pc : Nat) : Option rI := bif Nat.blt m 34 then feaabaaa m pc else feaabaab m pc
set_option maxRecDepth 100000 in
theorem feaabaa_ok {m pc : Nat} {f : rI} (h : feaabaa m pc = some f) : decode (rB m) pc = .ok (f.1, f.2.1) ∧ rchk (rpool m) (rmaxl m) f.1 f.2.1 f.2.2 = true := by
  unfold feaabaa at h
  rcases rcond2 h with ⟨-, h⟩ | ⟨-, h⟩
  · exact feaabaaa_ok h
  · exact feaabaab_ok h

def feaababaa (m pc : Nat) : Option rI := bif Nat.beq m 38 then tb38 pc else (bif Nat.beq m 39 then tb39 pc else none)
set_option maxRecDepth 100000 in
theorem feaababaa_ok {m pc : Nat} {f : rI} (h : feaababaa m pc = some f) : decode (rB m) pc = .ok (f.1, f.2.1) ∧ rchk (rpool m) (rmaxl m) f.1 f.2.1 f.2.2 = true := by
  unfold feaababaa at h
  rcases rcond2 h with ⟨hm, h⟩ | ⟨-, h⟩
  · rw [Nat.eq_of_beq_eq_true hm]; exact rck_ok (tb := tr38) (fun _ => rfl) ck38 h
  · skip
    rcases rcond2 h with ⟨hm, h⟩ | ⟨-, h⟩
    · rw [Nat.eq_of_beq_eq_true hm]; exact rck_ok (tb := tr39) (fun _ => rfl) ck39 h
    · cases h

def feaababab (m pc : Nat) : Option rI := bif Nat.beq m 40 then tb40 pc else (bif Nat.beq m 41 then tb41 pc else none)
set_option maxRecDepth 100000 in
theorem feaababab_ok {m pc : Nat} {f : rI} (h : feaababab m pc = some f) : decode (rB m) pc = .ok (f.1, f.2.1) ∧ rchk (rpool m) (rmaxl m) f.1 f.2.1 f.2.2 = true := by
  unfold feaababab at h
  rcases rcond2 h with ⟨hm, h⟩ | ⟨-, h⟩
  · rw [Nat.eq_of_beq_eq_true hm]; exact rck_ok (tb := tr40) (fun _ => rfl) ck40 h
  · skip
    rcases rcond2 h with ⟨hm, h⟩ | ⟨-, h⟩
    · rw [Nat.eq_of_beq_eq_true hm]; exact rck_ok (tb := tr41) (fun _ => rfl) ck41 h
    · cases h

def feaababa (m pc : Nat) : Option rI := bif Nat.blt m 40 then feaababaa m pc else feaababab m pc
set_option maxRecDepth 100000 in
theorem feaababa_ok {m pc : Nat} {f : rI} (h : feaababa m pc = some f) : decode (rB m) pc = .ok (f.1, f.2.1) ∧ rchk (rpool m) (rmaxl m) f.1 f.2.1 f.2.2 = true := by
  unfold feaababa at h
  rcases rcond2 h with ⟨-, h⟩ | ⟨-, h⟩
  · exact feaababaa_ok h
  · exact feaababab_ok h

def feaababba (m pc : Nat) : Option rI := bif Nat.beq m 42 then tb42 pc else (bif Nat.beq m 43 then tb43 pc else none)
set_option maxRecDepth 100000 in
theorem feaababba_ok {m pc : Nat} {f : rI} (h : feaababba m pc = some f) : decode (rB m) pc = .ok (f.1, f.2.1) ∧ rchk (rpool m) (rmaxl m) f.1 f.2.1 f.2.2 = true := by
  unfold feaababba at h
  rcases rcond2 h with ⟨hm, h⟩ | ⟨-, h⟩
  · rw [Nat.eq_of_beq_eq_true hm]; exact rck_ok (tb := tr42) (fun _ => rfl) ck42 h
  · skip
    rcases rcond2 h with ⟨hm, h⟩ | ⟨-, h⟩
    · rw [Nat.eq_of_beq_eq_true hm]; exact rck_ok (tb := tr43) (fun _ => rfl) ck43 h
    · cases h

def feaababbb (m pc : Nat) : Option rI := bif Nat.beq m 44 then tb44 pc else (bif Nat.beq m 45 then tb45 pc else none)
set_option maxRecDepth 100000 in
theorem feaababbb_ok {m pc : Nat} {f : rI} (h : feaababbb m pc = some f) : decode (rB m) pc = .ok (f.1, f.2.1) ∧ rchk (rpool m) (rmaxl m) f.1 f.2.1 f.2.2 = true := by
  unfold feaababbb at h
  rcases rcond2 h with ⟨hm, h⟩ | ⟨-, h⟩
  · rw [Nat.eq_of_beq_eq_true hm]; exact rck_ok (tb := tr44) (fun _ => rfl) ck44 h
  · skip
    rcases rcond2 h with ⟨hm, h⟩ | ⟨-, h⟩
    · rw [Nat.eq_of_beq_eq_true hm]; exact rck_ok (tb := tr45) (fun _ => rfl) ck45 h
    · cases h

def feaababb (m pc : Nat) : Option rI := bif Nat.blt m 44 then feaababba m pc else feaababbb m pc
set_option maxRecDepth 100000 in
theorem feaababb_ok {m pc : Nat} {f : rI} (h : feaababb m pc = some f) : decode (rB m) pc = .ok (f.1, f.2.1) ∧ rchk (rpool m) (rmaxl m) f.1 f.2.1 f.2.2 = true := by
  unfold feaababb at h
  rcases rcond2 h with ⟨-, h⟩ | ⟨-, h⟩
  · exact feaababba_ok h
  · exact feaababbb_ok h

def feaabab (m pc : Nat) : Option rI := bif Nat.blt m 42 then feaababa m pc else feaababb m pc
set_option maxRecDepth 100000 in
theorem feaabab_ok {m pc : Nat} {f : rI} (h : feaabab m pc = some f) : decode (rB m) pc = .ok (f.1, f.2.1) ∧ rchk (rpool m) (rmaxl m) f.1 f.2.1 f.2.2 = true := by
  unfold feaabab at h
  rcases rcond2 h with ⟨-, h⟩ | ⟨-, h⟩
  · exact feaababa_ok h
  · exact feaababb_ok h

def feaaba (m pc : Nat) : Option rI := bif Nat.blt m 38 then feaabaa m pc else feaabab m pc
set_option maxRecDepth 100000 in
theorem feaaba_ok {m pc : Nat} {f : rI} (h : feaaba m pc = some f) : decode (rB m) pc = .ok (f.1, f.2.1) ∧ rchk (rpool m) (rmaxl m) f.1 f.2.1 f.2.2 = true := by
  unfold feaaba at h
  rcases rcond2 h with ⟨-, h⟩ | ⟨-, h⟩
  · exact feaabaa_ok h
  · exact feaabab_ok h

def feaabbaaa (m pc : Nat) : Option rI := bif Nat.beq m 46 then tb46 pc else (bif Nat.beq m 47 then tb47 pc else none)
set_option maxRecDepth 100000 in
theorem feaabbaaa_ok {m pc : Nat} {f : rI} (h : feaabbaaa m pc = some f) : decode (rB m) pc = .ok (f.1, f.2.1) ∧ rchk (rpool m) (rmaxl m) f.1 f.2.1 f.2.2 = true := by
  unfold feaabbaaa at h
  rcases rcond2 h with ⟨hm, h⟩ | ⟨-, h⟩
  · rw [Nat.eq_of_beq_eq_true hm]; exact rck_ok (tb := tr46) (fun _ => rfl) ck46 h
  · skip
    rcases rcond2 h with ⟨hm, h⟩ | ⟨-, h⟩
    · rw [Nat.eq_of_beq_eq_true hm]; exact rck_ok (tb := tr47) (fun _ => rfl) ck47 h
    · cases h

def feaabbaab (m pc : Nat) : Option rI := bif Nat.beq m 48 then tb48 pc else (bif Nat.beq m 49 then tb49 pc else none)
set_option maxRecDepth 100000 in
theorem feaabbaab_ok {m pc : Nat} {f : rI} (h : feaabbaab m pc = some f) : decode (rB m) pc = .ok (f.1, f.2.1) ∧ rchk (rpool m) (rmaxl m) f.1 f.2.1 f.2.2 = true := by
  unfold feaabbaab at h
  rcases rcond2 h with ⟨hm, h⟩ | ⟨-, h⟩
  · rw [Nat.eq_of_beq_eq_true hm]; exact rck_ok (tb := tr48) (fun _ => rfl) ck48 h
  · skip
    rcases rcond2 h with ⟨hm, h⟩ | ⟨-, h⟩
    · rw [Nat.eq_of_beq_eq_true hm]; exact rck_ok (tb := tr49) (fun _ => rfl) ck49 h
    · cases h

def feaabbaa (m pc : Nat) : Option rI := bif Nat.blt m 48 then feaabbaaa m pc else feaabbaab m pc
set_option maxRecDepth 100000 in
theorem feaabbaa_ok {m pc : Nat} {f : rI} (h : feaabbaa m pc = some f) : decode (rB m) pc = .ok (f.1, f.2.1) ∧ rchk (rpool m) (rmaxl m) f.1 f.2.1 f.2.2 = true := by
  unfold feaabbaa at h
  rcases rcond2 h with ⟨-, h⟩ | ⟨-, h⟩
  · exact feaabbaaa_ok h
  · exact feaabbaab_ok h

def feaabbaba (m pc : Nat) : Option rI := bif Nat.beq m 50 then tb50 pc else (bif Nat.beq m 51 then tb51 pc else none)
set_option maxRecDepth 100000 in
theorem feaabbaba_ok {m pc : Nat} {f : rI} (h : feaabbaba m pc = some f) : decode (rB m) pc = .ok (f.1, f.2.1) ∧ rchk (rpool m) (rmaxl m) f.1 f.2.1 f.2.2 = true := by
  unfold feaabbaba at h
  rcases rcond2 h with ⟨hm, h⟩ | ⟨-, h⟩
  · rw [Nat.eq_of_beq_eq_true hm]; exact rck_ok (tb := tr50) (fun _ => rfl) ck50 h
  · skip
    rcases rcond2 h with ⟨hm, h⟩ | ⟨-, h⟩
    · rw [Nat.eq_of_beq_eq_true hm]; exact rck_ok (tb := tr51) (fun _ => rfl) ck51 h
    · cases h

def feaabbabb (m pc : Nat) : Option rI := bif Nat.beq m 52 then tb52 pc else (bif Nat.beq m 53 then tb53 pc else none)
set_option maxRecDepth 100000 in
theorem feaabbabb_ok {m pc : Nat} {f : rI} (h : feaabbabb m pc = some f) : decode (rB m) pc = .ok (f.1, f.2.1) ∧ rchk (rpool m) (rmaxl m) f.1 f.2.1 f.2.2 = true := by
  unfold feaabbabb at h
  rcases rcond2 h with ⟨hm, h⟩ | ⟨-, h⟩
  · rw [Nat.eq_of_beq_eq_true hm]; exact rck_ok (tb := tr52) (fun _ => rfl) ck52 h
  · skip
    rcases rcond2 h with ⟨hm, h⟩ | ⟨-, h⟩
    · rw [Nat.eq_of_beq_eq_true hm]; exact rck_ok (tb := tr53) (fun _ => rfl) ck53 h
    · cases h

def feaabbab (m pc : Nat) : Option rI := bif Nat.blt m 52 then feaabbaba m pc else feaabbabb m pc
set_option maxRecDepth 100000 in
theorem feaabbab_ok {m pc : Nat} {f : rI} (h : feaabbab m pc = some f) : decode (rB m) pc = .ok (f.1, f.2.1) ∧ rchk (rpool m) (rmaxl m) f.1 f.2.1 f.2.2 = true := by
  unfold feaabbab at h
  rcases rcond2 h with ⟨-, h⟩ | ⟨-, h⟩
  · exact feaabbaba_ok h
  · exact feaabbabb_ok h

def feaabba (m pc : Nat) : Option rI := bif Nat.blt m 50 then feaabbaa m pc else feaabbab m pc
set_option maxRecDepth 100000 in
theorem feaabba_ok {m pc : Nat} {f : rI} (h : feaabba m pc = some f) : decode (rB m) pc = .ok (f.1, f.2.1) ∧ rchk (rpool m) (rmaxl m) f.1 f.2.1 f.2.2 = true := by
  unfold feaabba at h
  rcases rcond2 h with ⟨-, h⟩ | ⟨-, h⟩
  · exact feaabbaa_ok h
  · exact feaabbab_ok h

def feaabbbaa (m pc : Nat) : Option rI := bif Nat.beq m 54 then tb54 pc else (bif Nat.beq m 55 then tb55 pc else none)
set_option maxRecDepth 100000 in
theorem feaabbbaa_ok {m pc : Nat} {f : rI} (h : feaabbbaa m pc = some f) : decode (rB m) pc = .ok (f.1, f.2.1) ∧ rchk (rpool m) (rmaxl m) f.1 f.2.1 f.2.2 = true := by
  unfold feaabbbaa at h
  rcases rcond2 h with ⟨hm, h⟩ | ⟨-, h⟩
  · rw [Nat.eq_of_beq_eq_true hm]; exact rck_ok (tb := tr54) (fun _ => rfl) ck54 h
  · skip
    rcases rcond2 h with ⟨hm, h⟩ | ⟨-, h⟩
    · rw [Nat.eq_of_beq_eq_true hm]; exact rck_ok (tb := tr55) (fun _ => rfl) ck55 h
    · cases h

def feaabbbab (m pc : Nat) : Option rI := bif Nat.beq m 56 then tb56 pc else (bif Nat.beq m 57 then tb57 pc else none)
set_option maxRecDepth 100000 in
theorem feaabbbab_ok {m pc : Nat} {f : rI} (h : feaabbbab m pc = some f) : decode (rB m) pc = .ok (f.1, f.2.1) ∧ rchk (rpool m) (rmaxl m) f.1 f.2.1 f.2.2 = true := by
  unfold feaabbbab at h
  rcases rcond2 h with ⟨hm, h⟩ | ⟨-, h⟩
  · rw [Nat.eq_of_beq_eq_true hm]; exact rck_ok (tb := tr56) (fun _ => rfl) ck56 h
  · skip
    rcases rcond2 h with ⟨hm, h⟩ | ⟨-, h⟩
    · rw [Nat.eq_of_beq_eq_true hm]; exact rck_ok (tb := tr57) (fun _ => rfl) ck57 h
    · cases h

def feaabbba (m pc : Nat) : Option rI := bif Nat.blt m 56 then feaabbbaa m pc else feaabbbab m pc
set_option maxRecDepth 100000 in
theorem feaabbba_ok {m pc : Nat} {f : rI} (h : feaabbba m pc = some f) : decode (rB m) pc = .ok (f.1, f.2.1) ∧ rchk (rpool m) (rmaxl m) f.1 f.2.1 f.2.2 = true := by
  unfold feaabbba at h
  rcases rcond2 h with ⟨-, h⟩ | ⟨-, h⟩
  · exact feaabbbaa_ok h
  · exact feaabbbab_ok h

def feaabbbba (m pc : Nat) : Option rI := bif Nat.beq m 58 then tb58 pc else (bif Nat.beq m 59 then tb59 pc else none)
set_option maxRecDepth 100000 in
theorem feaabbbba_ok {m pc : Nat} {f : rI} (h : feaabbbba m pc = some f) : decode (rB m) pc = .ok (f.1, f.2.1) ∧ rchk (rpool m) (rmaxl m) f.1 f.2.1 f.2.2 = true := by
  unfold feaabbbba at h
  rcases rcond2 h with ⟨hm, h⟩ | ⟨-, h⟩
  · rw [Nat.eq_of_beq_eq_true hm]; exact rck_ok (tb := tr58) (fun _ => rfl) ck58 h
  · skip
    rcases rcond2 h with ⟨hm, h⟩ | ⟨-, h⟩
    · rw [Nat.eq_of_beq_eq_true hm]; exact rck_ok (tb := tr59) (fun _ => rfl) ck59 h
    · cases h

def feaabbbbb (m pc : Nat) : Option rI := bif Nat.beq m 60 then tb60 pc else (bif Nat.beq m 61 then tb61 pc else none)
set_option maxRecDepth 100000 in
theorem feaabbbbb_ok {m pc : Nat} {f : rI} (h : feaabbbbb m pc = some f) : decode (rB m) pc = .ok (f.1, f.2.1) ∧ rchk (rpool m) (rmaxl m) f.1 f.2.1 f.2.2 = true := by
  unfold feaabbbbb at h
  rcases rcond2 h with ⟨hm, h⟩ | ⟨-, h⟩
  · rw [Nat.eq_of_beq_eq_true hm]; exact rck_ok (tb := tr60) (fun _ => rfl) ck60 h
  · skip
    rcases rcond2 h with ⟨hm, h⟩ | ⟨-, h⟩
    · rw [Nat.eq_of_beq_eq_true hm]; exact rck_ok (tb := tr61) (fun _ => rfl) ck61 h
    · cases h

def feaabbbb (m pc : Nat) : Option rI := bif Nat.blt m 60 then feaabbbba m pc else feaabbbbb m pc
set_option maxRecDepth 100000 in
theorem feaabbbb_ok {m pc : Nat} {f : rI} (h : feaabbbb m pc = some f) : decode (rB m) pc = .ok (f.1, f.2.1) ∧ rchk (rpool m) (rmaxl m) f.1 f.2.1 f.2.2 = true := by
  unfold feaabbbb at h
  rcases rcond2 h with ⟨-, h⟩ | ⟨-, h⟩
  · exact feaabbbba_ok h
  · exact feaabbbbb_ok h

def feaabbb (m pc : Nat) : Option rI := bif Nat.blt m 58 then feaabbba m pc else feaabbbb m pc
set_option maxRecDepth 100000 in
theorem feaabbb_ok {m pc : Nat} {f : rI} (h : feaabbb m pc = some f) : decode (rB m) pc = .ok (f.1, f.2.1) ∧ rchk (rpool m) (rmaxl m) f.1 f.2.1 f.2.2 = true := by
  unfold feaabbb at h
  rcases rcond2 h with ⟨-, h⟩ | ⟨-, h⟩
  · exact feaabbba_ok h
  · exact feaabbbb_ok h

def feaabb (m pc : Nat) : Option rI := bif Nat.blt m 54 then feaabba m pc else feaabbb m pc
set_option maxRecDepth 100000 in
theorem feaabb_ok {m pc : Nat} {f : rI} (h : feaabb m pc = some f) : decode (rB m) pc = .ok (f.1, f.2.1) ∧ rchk (rpool m) (rmaxl m) f.1 f.2.1 f.2.2 = true := by
  unfold feaabb at h
  rcases rcond2 h with ⟨-, h⟩ | ⟨-, h⟩
  · exact feaabba_ok h
  · exact feaabbb_ok h

def feaab (m pc : Nat) : Option rI := bif Nat.blt m 46 then feaaba m pc else feaabb m pc
set_option maxRecDepth 100000 in
theorem feaab_ok {m pc : Nat} {f : rI} (h : feaab m pc = some f) : decode (rB m) pc = .ok (f.1, f.2.1) ∧ rchk (rpool m) (rmaxl m) f.1 f.2.1 f.2.2 = true := by
  unfold feaab at h
  rcases rcond2 h with ⟨-, h⟩ | ⟨-, h⟩
  · exact feaaba_ok h
  · exact feaabb_ok h

def feaa (m pc : Nat) : Option rI := bif Nat.blt m 31 then feaaa m pc else feaab m pc
set_option maxRecDepth 100000 in
theorem feaa_ok {m pc : Nat} {f : rI} (h : feaa m pc = some f) : decode (rB m) pc = .ok (f.1, f.2.1) ∧ rchk (rpool m) (rmaxl m) f.1 f.2.1 f.2.2 = true := by
  unfold feaa at h
  rcases rcond2 h with ⟨-, h⟩ | ⟨-, h⟩
  · exact feaaa_ok h
  · exact feaab_ok h

def feabaaaa (m pc : Nat) : Option rI := bif Nat.beq m 62 then tb62 pc else (bif Nat.beq m 63 then tb63 pc else (bif Nat.beq m 64 then tb64 pc else none))
set_option maxRecDepth 100000 in
theorem feabaaaa_ok {m pc : Nat} {f : rI} (h : feabaaaa m pc = some f) : decode (rB m) pc = .ok (f.1, f.2.1) ∧ rchk (rpool m) (rmaxl m) f.1 f.2.1 f.2.2 = true := by
  unfold feabaaaa at h
  rcases rcond2 h with ⟨hm, h⟩ | ⟨-, h⟩
  · rw [Nat.eq_of_beq_eq_true hm]; exact rck_ok (tb := tr62) (fun _ => rfl) ck62 h
  · skip
    rcases rcond2 h with ⟨hm, h⟩ | ⟨-, h⟩
    · rw [Nat.eq_of_beq_eq_true hm]; exact rck_ok (tb := tr63) (fun _ => rfl) ck63 h
    · skip
      rcases rcond2 h with ⟨hm, h⟩ | ⟨-, h⟩
      · rw [Nat.eq_of_beq_eq_true hm]; exact rck_ok (tb := tr64) (fun _ => rfl) ck64 h
      · cases h

def feabaaaba (m pc : Nat) : Option rI := bif Nat.beq m 65 then tb65 pc else (bif Nat.beq m 66 then tb66 pc else none)
set_option maxRecDepth 100000 in
theorem feabaaaba_ok {m pc : Nat} {f : rI} (h : feabaaaba m pc = some f) : decode (rB m) pc = .ok (f.1, f.2.1) ∧ rchk (rpool m) (rmaxl m) f.1 f.2.1 f.2.2 = true := by
  unfold feabaaaba at h
  rcases rcond2 h with ⟨hm, h⟩ | ⟨-, h⟩
  · rw [Nat.eq_of_beq_eq_true hm]; exact rck_ok (tb := tr65) (fun _ => rfl) ck65 h
  · skip
    rcases rcond2 h with ⟨hm, h⟩ | ⟨-, h⟩
    · rw [Nat.eq_of_beq_eq_true hm]; exact rck_ok (tb := tr66) (fun _ => rfl) ck66 h
    · cases h

def feabaaabb (m pc : Nat) : Option rI := bif Nat.beq m 67 then tb67 pc else (bif Nat.beq m 68 then tb68 pc else none)
set_option maxRecDepth 100000 in
theorem feabaaabb_ok {m pc : Nat} {f : rI} (h : feabaaabb m pc = some f) : decode (rB m) pc = .ok (f.1, f.2.1) ∧ rchk (rpool m) (rmaxl m) f.1 f.2.1 f.2.2 = true := by
  unfold feabaaabb at h
  rcases rcond2 h with ⟨hm, h⟩ | ⟨-, h⟩
  · rw [Nat.eq_of_beq_eq_true hm]; exact rck_ok (tb := tr67) (fun _ => rfl) ck67 h
  · skip
    rcases rcond2 h with ⟨hm, h⟩ | ⟨-, h⟩
    · rw [Nat.eq_of_beq_eq_true hm]; exact rck_ok (tb := tr68) (fun _ => rfl) ck68 h
    · cases h

def feabaaab (m pc : Nat) : Option rI := bif Nat.blt m 67 then feabaaaba m pc else feabaaabb m pc
set_option maxRecDepth 100000 in
theorem feabaaab_ok {m pc : Nat} {f : rI} (h : feabaaab m pc = some f) : decode (rB m) pc = .ok (f.1, f.2.1) ∧ rchk (rpool m) (rmaxl m) f.1 f.2.1 f.2.2 = true := by
  unfold feabaaab at h
  rcases rcond2 h with ⟨-, h⟩ | ⟨-, h⟩
  · exact feabaaaba_ok h
  · exact feabaaabb_ok h

def feabaaa (m pc : Nat) : Option rI := bif Nat.blt m 65 then feabaaaa m pc else feabaaab m pc
set_option maxRecDepth 100000 in
theorem feabaaa_ok {m pc : Nat} {f : rI} (h : feabaaa m pc = some f) : decode (rB m) pc = .ok (f.1, f.2.1) ∧ rchk (rpool m) (rmaxl m) f.1 f.2.1 f.2.2 = true := by
  unfold feabaaa at h
  rcases rcond2 h with ⟨-, h⟩ | ⟨-, h⟩
  · exact feabaaaa_ok h
  · exact feabaaab_ok h

def feabaabaa (m pc : Nat) : Option rI := bif Nat.beq m 69 then tb69 pc else (bif Nat.beq m 70 then tb70 pc else none)
set_option maxRecDepth 100000 in
theorem feabaabaa_ok {m pc : Nat} {f : rI} (h : feabaabaa m pc = some f) : decode (rB m) pc = .ok (f.1, f.2.1) ∧ rchk (rpool m) (rmaxl m) f.1 f.2.1 f.2.2 = true := by
  unfold feabaabaa at h
  rcases rcond2 h with ⟨hm, h⟩ | ⟨-, h⟩
  · rw [Nat.eq_of_beq_eq_true hm]; exact rck_ok (tb := tr69) (fun _ => rfl) ck69 h
  · skip
    rcases rcond2 h with ⟨hm, h⟩ | ⟨-, h⟩
    · rw [Nat.eq_of_beq_eq_true hm]; exact rck_ok (tb := tr70) (fun _ => rfl) ck70 h
    · cases h

def feabaabab (m pc : Nat) : Option rI := bif Nat.beq m 71 then tb71 pc else (bif Nat.beq m 72 then tb72 pc else none)
set_option maxRecDepth 100000 in
theorem feabaabab_ok {m pc : Nat} {f : rI} (h : feabaabab m pc = some f) : decode (rB m) pc = .ok (f.1, f.2.1) ∧ rchk (rpool m) (rmaxl m) f.1 f.2.1 f.2.2 = true := by
  unfold feabaabab at h
  rcases rcond2 h with ⟨hm, h⟩ | ⟨-, h⟩
  · rw [Nat.eq_of_beq_eq_true hm]; exact rck_ok (tb := tr71) (fun _ => rfl) ck71 h
  · skip
    rcases rcond2 h with ⟨hm, h⟩ | ⟨-, h⟩
    · rw [Nat.eq_of_beq_eq_true hm]; exact rck_ok (tb := tr72) (fun _ => rfl) ck72 h
    · cases h

def feabaaba (m pc : Nat) : Option rI := bif Nat.blt m 71 then feabaabaa m pc else feabaabab m pc
set_option maxRecDepth 100000 in
theorem feabaaba_ok {m pc : Nat} {f : rI} (h : feabaaba m pc = some f) : decode (rB m) pc = .ok (f.1, f.2.1) ∧ rchk (rpool m) (rmaxl m) f.1 f.2.1 f.2.2 = true := by
  unfold feabaaba at h
  rcases rcond2 h with ⟨-, h⟩ | ⟨-, h⟩
  · exact feabaabaa_ok h
  · exact feabaabab_ok h

def feabaabba (m pc : Nat) : Option rI := bif Nat.beq m 73 then tb73 pc else (bif Nat.beq m 74 then tb74 pc else none)
set_option maxRecDepth 100000 in
theorem feabaabba_ok {m pc : Nat} {f : rI} (h : feabaabba m pc = some f) : decode (rB m) pc = .ok (f.1, f.2.1) ∧ rchk (rpool m) (rmaxl m) f.1 f.2.1 f.2.2 = true := by
  unfold feabaabba at h
  rcases rcond2 h with ⟨hm, h⟩ | ⟨-, h⟩
  · rw [Nat.eq_of_beq_eq_true hm]; exact rck_ok (tb := tr73) (fun _ => rfl) ck73 h
  · skip
    rcases rcond2 h with ⟨hm, h⟩ | ⟨-, h⟩
    · rw [Nat.eq_of_beq_eq_true hm]; exact rck_ok (tb := tr74) (fun _ => rfl) ck74 h
    · cases h

def feabaabbb (m pc : Nat) : Option rI := bif Nat.beq m 75 then tb75 pc else (bif Nat.beq m 76 then tb76 pc else none)
set_option maxRecDepth 100000 in
theorem feabaabbb_ok {m pc : Nat} {f : rI} (h : feabaabbb m pc = some f) : decode (rB m) pc = .ok (f.1, f.2.1) ∧ rchk (rpool m) (rmaxl m) f.1 f.2.1 f.2.2 = true := by
  unfold feabaabbb at h
  rcases rcond2 h with ⟨hm, h⟩ | ⟨-, h⟩
  · rw [Nat.eq_of_beq_eq_true hm]; exact rck_ok (tb := tr75) (fun _ => rfl) ck75 h
  · skip
    rcases rcond2 h with ⟨hm, h⟩ | ⟨-, h⟩
    · rw [Nat.eq_of_beq_eq_true hm]; exact rck_ok (tb := tr76) (fun _ => rfl) ck76 h
    · cases h

def feabaabb (m pc : Nat) : Option rI := bif Nat.blt m 75 then feabaabba m pc else feabaabbb m pc
set_option maxRecDepth 100000 in
theorem feabaabb_ok {m pc : Nat} {f : rI} (h : feabaabb m pc = some f) : decode (rB m) pc = .ok (f.1, f.2.1) ∧ rchk (rpool m) (rmaxl m) f.1 f.2.1 f.2.2 = true := by
  unfold feabaabb at h
  rcases rcond2 h with ⟨-, h⟩ | ⟨-, h⟩
  · exact feabaabba_ok h
  · exact feabaabbb_ok h

def feabaab (m pc : Nat) : Option rI := bif Nat.blt m 73 then feabaaba m pc else feabaabb m pc
set_option maxRecDepth 100000 in
theorem feabaab_ok {m pc : Nat} {f : rI} (h : feabaab m pc = some f) : decode (rB m) pc = .ok (f.1, f.2.1) ∧ rchk (rpool m) (rmaxl m) f.1 f.2.1 f.2.2 = true := by
  unfold feabaab at h
  rcases rcond2 h with ⟨-, h⟩ | ⟨-, h⟩
  · exact feabaaba_ok h
  · exact feabaabb_ok h

def feabaa (m pc : Nat) : Option rI := bif Nat.blt m 69 then feabaaa m pc else feabaab m pc
set_option maxRecDepth 100000 in
theorem feabaa_ok {m pc : Nat} {f : rI} (h : feabaa m pc = some f) : decode (rB m) pc = .ok (f.1, f.2.1) ∧ rchk (rpool m) (rmaxl m) f.1 f.2.1 f.2.2 = true := by
  unfold feabaa at h
  rcases rcond2 h with ⟨-, h⟩ | ⟨-, h⟩
  · exact feabaaa_ok h
  · exact feabaab_ok h

def feababaaa (m pc : Nat) : Option rI := bif Nat.beq m 77 then tb77 pc else (bif Nat.beq m 78 then tb78 pc else none)
set_option maxRecDepth 100000 in
theorem feababaaa_ok {m pc : Nat} {f : rI} (h : feababaaa m pc = some f) : decode (rB m) pc = .ok (f.1, f.2.1) ∧ rchk (rpool m) (rmaxl m) f.1 f.2.1 f.2.2 = true := by
  unfold feababaaa at h
  rcases rcond2 h with ⟨hm, h⟩ | ⟨-, h⟩
  · rw [Nat.eq_of_beq_eq_true hm]; exact rck_ok (tb := tr77) (fun _ => rfl) ck77 h
  · skip
    rcases rcond2 h with ⟨hm, h⟩ | ⟨-, h⟩
    · rw [Nat.eq_of_beq_eq_true hm]; exact rck_ok (tb := tr78) (fun _ => rfl) ck78 h
    · cases h

def feababaab (m pc : Nat) : Option rI := bif Nat.beq m 79 then tb79 pc else (bif Nat.beq m 80 then tb80 pc else none)
set_option maxRecDepth 100000 in
theorem feababaab_ok {m pc : Nat} {f : rI} (h : feababaab m pc = some f) : decode (rB m) pc = .ok (f.1, f.2.1) ∧ rchk (rpool m) (rmaxl m) f.1 f.2.1 f.2.2 = true := by
  unfold feababaab at h
  rcases rcond2 h with ⟨hm, h⟩ | ⟨-, h⟩
  · rw [Nat.eq_of_beq_eq_true hm]; exact rck_ok (tb := tr79) (fun _ => rfl) ck79 h
  · skip
    rcases rcond2 h with ⟨hm, h⟩ | ⟨-, h⟩
    · rw [Nat.eq_of_beq_eq_true hm]; exact rck_ok (tb := tr80) (fun _ => rfl) ck80 h
    · cases h

def feababaa (m pc : Nat) : Option rI := bif Nat.blt m 79 then feababaaa m pc else feababaab m pc
set_option maxRecDepth 100000 in
theorem feababaa_ok {m pc : Nat} {f : rI} (h : feababaa m pc = some f) : decode (rB m) pc = .ok (f.1, f.2.1) ∧ rchk (rpool m) (rmaxl m) f.1 f.2.1 f.2.2 = true := by
  unfold feababaa at h
  rcases rcond2 h with ⟨-, h⟩ | ⟨-, h⟩
  · exact feababaaa_ok h
  · exact feababaab_ok h

def feabababa (m pc : Nat) : Option rI := bif Nat.beq m 81 then tb81 pc else (bif Nat.beq m 82 then tb82 pc else none)
set_option maxRecDepth 100000 in
theorem feabababa_ok {m pc : Nat} {f : rI} (h : feabababa m pc = some f) : decode (rB m) pc = .ok (f.1, f.2.1) ∧ rchk (rpool m) (rmaxl m) f.1 f.2.1 f.2.2 = true := by
  unfold feabababa at h
  rcases rcond2 h with ⟨hm, h⟩ | ⟨-, h⟩
  · rw [Nat.eq_of_beq_eq_true hm]; exact rck_ok (tb := tr81) (fun _ => rfl) ck81 h
  · skip
    rcases rcond2 h with ⟨hm, h⟩ | ⟨-, h⟩
    · rw [Nat.eq_of_beq_eq_true hm]; exact rck_ok (tb := tr82) (fun _ => rfl) ck82 h
    · cases h

def feabababb (m pc : Nat) : Option rI := bif Nat.beq m 83 then tb83 pc else (bif Nat.beq m 84 then tb84 pc else none)
set_option maxRecDepth 100000 in
theorem feabababb_ok {m pc : Nat} {f : rI} (h : feabababb m pc = some f) : decode (rB m) pc = .ok (f.1, f.2.1) ∧ rchk (rpool m) (rmaxl m) f.1 f.2.1 f.2.2 = true := by
  unfold feabababb at h
  rcases rcond2 h with ⟨hm, h⟩ | ⟨-, h⟩
  · rw [Nat.eq_of_beq_eq_true hm]; exact rck_ok (tb := tr83) (fun _ => rfl) ck83 h
  · skip
    rcases rcond2 h with ⟨hm, h⟩ | ⟨-, h⟩
    · rw [Nat.eq_of_beq_eq_true hm]; exact rck_ok (tb := tr84) (fun _ => rfl) ck84 h
    · cases h

def feababab (m pc : Nat) : Option rI := bif Nat.blt m 83 then feabababa m pc else feabababb m pc
set_option maxRecDepth 100000 in
theorem feababab_ok {m pc : Nat} {f : rI} (h : feababab m pc = some f) : decode (rB m) pc = .ok (f.1, f.2.1) ∧ rchk (rpool m) (rmaxl m) f.1 f.2.1 f.2.2 = true := by
  unfold feababab at h
  rcases rcond2 h with ⟨-, h⟩ | ⟨-, h⟩
  · exact feabababa_ok h
  · exact feabababb_ok h

def feababa (m pc : Nat) : Option rI := bif Nat.blt m 81 then feababaa m pc else feababab m pc
set_option maxRecDepth 100000 in
theorem feababa_ok {m pc : Nat} {f : rI} (h : feababa m pc = some f) : decode (rB m) pc = .ok (f.1, f.2.1) ∧ rchk (rpool m) (rmaxl m) f.1 f.2.1 f.2.2 = true := by
  unfold feababa at h
  rcases rcond2 h with ⟨-, h⟩ | ⟨-, h⟩
  · exact feababaa_ok h
  · exact feababab_ok h

def feababbaa (m pc : Nat) : Option rI := bif Nat.beq m 85 then tb85 pc else (bif Nat.beq m 86 then tb86 pc else none)
set_option maxRecDepth 100000 in
theorem feababbaa_ok {m pc : Nat} {f : rI} (h : feababbaa m pc = some f) : decode (rB m) pc = .ok (f.1, f.2.1) ∧ rchk (rpool m) (rmaxl m) f.1 f.2.1 f.2.2 = true := by
  unfold feababbaa at h
  rcases rcond2 h with ⟨hm, h⟩ | ⟨-, h⟩
  · rw [Nat.eq_of_beq_eq_true hm]; exact rck_ok (tb := tr85) (fun _ => rfl) ck85 h
  · skip
    rcases rcond2 h with ⟨hm, h⟩ | ⟨-, h⟩
    · rw [Nat.eq_of_beq_eq_true hm]; exact rck_ok (tb := tr86) (fun _ => rfl) ck86 h
    · cases h

def feababbab (m pc : Nat) : Option rI := bif Nat.beq m 87 then tb87 pc else (bif Nat.beq m 88 then tb88 pc else none)
set_option maxRecDepth 100000 in
theorem feababbab_ok {m pc : Nat} {f : rI} (h : feababbab m pc = some f) : decode (rB m) pc = .ok (f.1, f.2.1) ∧ rchk (rpool m) (rmaxl m) f.1 f.2.1 f.2.2 = true := by
  unfold feababbab at h
  rcases rcond2 h with ⟨hm, h⟩ | ⟨-, h⟩
  · rw [Nat.eq_of_beq_eq_true hm]; exact rck_ok (tb := tr87) (fun _ => rfl) ck87 h
  · skip
    rcases rcond2 h with ⟨hm, h⟩ | ⟨-, h⟩
    · rw [Nat.eq_of_beq_eq_true hm]; exact rck_ok (tb := tr88) (fun _ => rfl) ck88 h
    · cases h

def feababba (m pc : Nat) : Option rI := bif Nat.blt m 87 then feababbaa m pc else feababbab m pc
set_option maxRecDepth 100000 in
theorem feababba_ok {m pc : Nat} {f : rI} (h : feababba m pc = some f) : decode (rB m) pc = .ok (f.1, f.2.1) ∧ rchk (rpool m) (rmaxl m) f.1 f.2.1 f.2.2 = true := by
  unfold feababba at h
  rcases rcond2 h with ⟨-, h⟩ | ⟨-, h⟩
  · exact feababbaa_ok h
  · exact feababbab_ok h

def feababbba (m pc : Nat) : Option rI := bif Nat.beq m 89 then tb89 pc else (bif Nat.beq m 90 then tb90 pc else none)
set_option maxRecDepth 100000 in
theorem feababbba_ok {m pc : Nat} {f : rI} (h : feababbba m pc = some f) : decode (rB m) pc = .ok (f.1, f.2.1) ∧ rchk (rpool m) (rmaxl m) f.1 f.2.1 f.2.2 = true := by
  unfold feababbba at h
  rcases rcond2 h with ⟨hm, h⟩ | ⟨-, h⟩
  · rw [Nat.eq_of_beq_eq_true hm]; exact rck_ok (tb := tr89) (fun _ => rfl) ck89 h
  · skip
    rcases rcond2 h with ⟨hm, h⟩ | ⟨-, h⟩
    · rw [Nat.eq_of_beq_eq_true hm]; exact rck_ok (tb := tr90) (fun _ => rfl) ck90 h
    · cases h

def feababbbb (m pc : Nat) : Option rI := bif Nat.beq m 91 then tb91 pc else (bif Nat.beq m 92 then tb92 pc else none)
set_option maxRecDepth 100000 in
theorem feababbbb_ok {m pc : Nat} {f : rI} (h : feababbbb m pc = some f) : decode (rB m) pc = .ok (f.1, f.2.1) ∧ rchk (rpool m) (rmaxl m) f.1 f.2.1 f.2.2 = true := by
  unfold feababbbb at h
  rcases rcond2 h with ⟨hm, h⟩ | ⟨-, h⟩
  · rw [Nat.eq_of_beq_eq_true hm]; exact rck_ok (tb := tr91) (fun _ => rfl) ck91 h
  · skip
    rcases rcond2 h with ⟨hm, h⟩ | ⟨-, h⟩
    · rw [Nat.eq_of_beq_eq_true hm]; exact rck_ok (tb := tr92) (fun _ => rfl) ck92 h
    · cases h

def feababbb (m pc : Nat) : Option rI := bif Nat.blt m 91 then feababbba m pc else feababbbb m pc
set_option maxRecDepth 100000 in
theorem feababbb_ok {m pc : Nat} {f : rI} (h : feababbb m pc = some f) : decode (rB m) pc = .ok (f.1, f.2.1) ∧ rchk (rpool m) (rmaxl m) f.1 f.2.1 f.2.2 = true := by
  unfold feababbb at h
  rcases rcond2 h with ⟨-, h⟩ | ⟨-, h⟩
  · exact feababbba_ok h
  · exact feababbbb_ok h

def feababb (m pc : Nat) : Option rI := bif Nat.blt m 89 then feababba m pc else feababbb m pc
set_option maxRecDepth 100000 in
theorem feababb_ok {m pc : Nat} {f : rI} (h : feababb m pc = some f) : decode (rB m) pc = .ok (f.1, f.2.1) ∧ rchk (rpool m) (rmaxl m) f.1 f.2.1 f.2.2 = true := by
  unfold feababb at h
  rcases rcond2 h with ⟨-, h⟩ | ⟨-, h⟩
  · exact feababba_ok h
  · exact feababbb_ok h

def feabab (m pc : Nat) : Option rI := bif Nat.blt m 85 then feababa m pc else feababb m pc
set_option maxRecDepth 100000 in
theorem feabab_ok {m pc : Nat} {f : rI} (h : feabab m pc = some f) : decode (rB m) pc = .ok (f.1, f.2.1) ∧ rchk (rpool m) (rmaxl m) f.1 f.2.1 f.2.2 = true := by
  unfold feabab at h
  rcases rcond2 h with ⟨-, h⟩ | ⟨-, h⟩
  · exact feababa_ok h
  · exact feababb_ok h

def feaba (m pc : Nat) : Option rI := bif Nat.blt m 77 then feabaa m pc else feabab m pc
set_option maxRecDepth 100000 in
theorem feaba_ok {m pc : Nat} {f : rI} (h : feaba m pc = some f) : decode (rB m) pc = .ok (f.1, f.2.1) ∧ rchk (rpool m) (rmaxl m) f.1 f.2.1 f.2.2 = true := by
  unfold feaba at h
  rcases rcond2 h with ⟨-, h⟩ | ⟨-, h⟩
  · exact feabaa_ok h
  · exact feabab_ok h

def feabbaaa (m pc : Nat) : Option rI := bif Nat.beq m 93 then tb93 pc else (bif Nat.beq m 94 then tb94 pc else (bif Nat.beq m 95 then tb95 pc else none))
set_option maxRecDepth 100000 in
theorem feabbaaa_ok {m pc : Nat} {f : rI} (h : feabbaaa m pc = some f) : decode (rB m) pc = .ok (f.1, f.2.1) ∧ rchk (rpool m) (rmaxl m) f.1 f.2.1 f.2.2 = true := by
  unfold feabbaaa at h
  rcases rcond2 h with ⟨hm, h⟩ | ⟨-, h⟩
  · rw [Nat.eq_of_beq_eq_true hm]; exact rck_ok (tb := tr93) (fun _ => rfl) ck93 h
  · skip
    rcases rcond2 h with ⟨hm, h⟩ | ⟨-, h⟩
    · rw [Nat.eq_of_beq_eq_true hm]; exact rck_ok (tb := tr94) (fun _ => rfl) ck94 h
    · skip
      rcases rcond2 h with ⟨hm, h⟩ | ⟨-, h⟩
      · rw [Nat.eq_of_beq_eq_true hm]; exact rck_ok (tb := tr95) (fun _ => rfl) ck95 h
      · cases h

def feabbaaba (m pc : Nat) : Option rI := bif Nat.beq m 96 then tb96 pc else (bif Nat.beq m 97 then tb97 pc else none)
set_option maxRecDepth 100000 in
theorem feabbaaba_ok {m pc : Nat} {f : rI} (h : feabbaaba m pc = some f) : decode (rB m) pc = .ok (f.1, f.2.1) ∧ rchk (rpool m) (rmaxl m) f.1 f.2.1 f.2.2 = true := by
  unfold feabbaaba at h
  rcases rcond2 h with ⟨hm, h⟩ | ⟨-, h⟩
  · rw [Nat.eq_of_beq_eq_true hm]; exact rck_ok (tb := tr96) (fun _ => rfl) ck96 h
  · skip
    rcases rcond2 h with ⟨hm, h⟩ | ⟨-, h⟩
    · rw [Nat.eq_of_beq_eq_true hm]; exact rck_ok (tb := tr97) (fun _ => rfl) ck97 h
    · cases h

def feabbaabb (m pc : Nat) : Option rI := bif Nat.beq m 98 then tb98 pc else (bif Nat.beq m 99 then tb99 pc else none)
set_option maxRecDepth 100000 in
theorem feabbaabb_ok {m pc : Nat} {f : rI} (h : feabbaabb m pc = some f) : decode (rB m) pc = .ok (f.1, f.2.1) ∧ rchk (rpool m) (rmaxl m) f.1 f.2.1 f.2.2 = true := by
  unfold feabbaabb at h
  rcases rcond2 h with ⟨hm, h⟩ | ⟨-, h⟩
  · rw [Nat.eq_of_beq_eq_true hm]; exact rck_ok (tb := tr98) (fun _ => rfl) ck98 h
  · skip
    rcases rcond2 h with ⟨hm, h⟩ | ⟨-, h⟩
    · rw [Nat.eq_of_beq_eq_true hm]; exact rck_ok (tb := tr99) (fun _ => rfl) ck99 h
    · cases h

def feabbaab (m pc : Nat) : Option rI := bif Nat.blt m 98 then feabbaaba m pc else feabbaabb m pc
set_option maxRecDepth 100000 in
theorem feabbaab_ok {m pc : Nat} {f : rI} (h : feabbaab m pc = some f) : decode (rB m) pc = .ok (f.1, f.2.1) ∧ rchk (rpool m) (rmaxl m) f.1 f.2.1 f.2.2 = true := by
  unfold feabbaab at h
  rcases rcond2 h with ⟨-, h⟩ | ⟨-, h⟩
  · exact feabbaaba_ok h
  · exact feabbaabb_ok h

def feabbaa (m pc : Nat) : Option rI := bif Nat.blt m 96 then feabbaaa m pc else feabbaab m pc
set_option maxRecDepth 100000 in
theorem feabbaa_ok {m pc : Nat} {f : rI} (h : feabbaa m pc = some f) : decode (rB m) pc = .ok (f.1, f.2.1) ∧ rchk (rpool m) (rmaxl m) f.1 f.2.1 f.2.2 = true := by
  unfold feabbaa at h
  rcases rcond2 h with ⟨-, h⟩ | ⟨-, h⟩
  · exact feabbaaa_ok h
  · exact feabbaab_ok h

def feabbabaa (m pc : Nat) : Option rI := bif Nat.beq m 100 then tb100 pc else (bif Nat.beq m 101 then tb101 pc else none)
set_option maxRecDepth 100000 in
theorem feabbabaa_ok {m pc : Nat} {f : rI} (h : feabbabaa m pc = some f) : decode (rB m) pc = .ok (f.1, f.2.1) ∧ rchk (rpool m) (rmaxl m) f.1 f.2.1 f.2.2 = true := by
  unfold feabbabaa at h
  rcases rcond2 h with ⟨hm, h⟩ | ⟨-, h⟩
  · rw [Nat.eq_of_beq_eq_true hm]; exact rck_ok (tb := tr100) (fun _ => rfl) ck100 h
  · skip
    rcases rcond2 h with ⟨hm, h⟩ | ⟨-, h⟩
    · rw [Nat.eq_of_beq_eq_true hm]; exact rck_ok (tb := tr101) (fun _ => rfl) ck101 h
    · cases h

def feabbabab (m pc : Nat) : Option rI := bif Nat.beq m 102 then tb102 pc else (bif Nat.beq m 103 then tb103 pc else none)
set_option maxRecDepth 100000 in
theorem feabbabab_ok {m pc : Nat} {f : rI} (h : feabbabab m pc = some f) : decode (rB m) pc = .ok (f.1, f.2.1) ∧ rchk (rpool m) (rmaxl m) f.1 f.2.1 f.2.2 = true := by
  unfold feabbabab at h
  rcases rcond2 h with ⟨hm, h⟩ | ⟨-, h⟩
  · rw [Nat.eq_of_beq_eq_true hm]; exact rck_ok (tb := tr102) (fun _ => rfl) ck102 h
  · skip
    rcases rcond2 h with ⟨hm, h⟩ | ⟨-, h⟩
    · rw [Nat.eq_of_beq_eq_true hm]; exact rck_ok (tb := tr103) (fun _ => rfl) ck103 h
    · cases h

def feabbaba (m pc : Nat) : Option rI := bif Nat.blt m 102 then feabbabaa m pc else feabbabab m pc
set_option maxRecDepth 100000 in
theorem feabbaba_ok {m pc : Nat} {f : rI} (h : feabbaba m pc = some f) : decode (rB m) pc = .ok (f.1, f.2.1) ∧ rchk (rpool m) (rmaxl m) f.1 f.2.1 f.2.2 = true := by
  unfold feabbaba at h
  rcases rcond2 h with ⟨-, h⟩ | ⟨-, h⟩
  · exact feabbabaa_ok h
  · exact feabbabab_ok h

def feabbabba (m pc : Nat) : Option rI := bif Nat.beq m 104 then tb104 pc else (bif Nat.beq m 105 then tb105 pc else none)
set_option maxRecDepth 100000 in
theorem feabbabba_ok {m pc : Nat} {f : rI} (h : feabbabba m pc = some f) : decode (rB m) pc = .ok (f.1, f.2.1) ∧ rchk (rpool m) (rmaxl m) f.1 f.2.1 f.2.2 = true := by
  unfold feabbabba at h
  rcases rcond2 h with ⟨hm, h⟩ | ⟨-, h⟩
  · rw [Nat.eq_of_beq_eq_true hm]; exact rck_ok (tb := tr104) (fun _ => rfl) ck104 h
  · skip
    rcases rcond2 h with ⟨hm, h⟩ | ⟨-, h⟩
    · rw [Nat.eq_of_beq_eq_true hm]; exact rck_ok (tb := tr105) (fun _ => rfl) ck105 h
    · cases h

def feabbabbb (m pc : Nat) : Option rI := bif Nat.beq m 106 then tb106 pc else (bif Nat.beq m 107 then tb107 pc else none)
set_option maxRecDepth 100000 in
theorem feabbabbb_ok {m pc : Nat} {f : rI} (h : feabbabbb m pc = some f) : decode (rB m) pc = .ok (f.1, f.2.1) ∧ rchk (rpool m) (rmaxl m) f.1 f.2.1 f.2.2 = true := by
  unfold feabbabbb at h
  rcases rcond2 h with ⟨hm, h⟩ | ⟨-, h⟩
  · rw [Nat.eq_of_beq_eq_true hm]; exact rck_ok (tb := tr106) (fun _ => rfl) ck106 h
  · skip
    rcases rcond2 h with ⟨hm, h⟩ | ⟨-, h⟩
    · rw [Nat.eq_of_beq_eq_true hm]; exact rck_ok (tb := tr107) (fun _ => rfl) ck107 h
    · cases h

def feabbabb (m pc : Nat) : Option rI := bif Nat.blt m 106 then feabbabba m pc else feabbabbb m pc
set_option maxRecDepth 100000 in
theorem feabbabb_ok {m pc : Nat} {f : rI} (h : feabbabb m pc = some f) : decode (rB m) pc = .ok (f.1, f.2.1) ∧ rchk (rpool m) (rmaxl m) f.1 f.2.1 f.2.2 = true := by
  unfold feabbabb at h
  rcases rcond2 h with ⟨-, h⟩ | ⟨-, h⟩
  · exact feabbabba_ok h
  · exact feabbabbb_ok h

def feabbab (m pc : Nat) : Option rI := bif Nat.blt m 104 then feabbaba m pc else feabbabb m pc
set_option maxRecDepth 100000 in
theorem feabbab_ok {m pc : Nat} {f : rI} (h : feabbab m pc = some f) : decode (rB m) pc = .ok (f.1, f.2.1) ∧ rchk (rpool m) (rmaxl m) f.1 f.2.1 f.2.2 = true := by
  unfold feabbab at h
  rcases rcond2 h with ⟨-, h⟩ | ⟨-, h⟩
  · exact feabbaba_ok h
  · exact feabbabb_ok h

def feabba (m pc : Nat) : Option rI := bif Nat.blt m 100 then feabbaa m pc else feabbab m pc
set_option maxRecDepth 100000 in
theorem feabba_ok {m pc : Nat} {f : rI} (h : feabba m pc = some f) : decode (rB m) pc = .ok (f.1, f.2.1) ∧ rchk (rpool m) (rmaxl m) f.1 f.2.1 f.2.2 = true := by
  unfold feabba at h
  rcases rcond2 h with ⟨-, h⟩ | ⟨-, h⟩
  · exact feabbaa_ok h
  · exact feabbab_ok h

def feabbbaaa (m pc : Nat) : Option rI := bif Nat.beq m 108 then tb108 pc else (bif Nat.beq m 109 then tb109 pc else none)
set_option maxRecDepth 100000 in
theorem feabbbaaa_ok {m pc : Nat} {f : rI} (h : feabbbaaa m pc = some f) : decode (rB m) pc = .ok (f.1, f.2.1) ∧ rchk (rpool m) (rmaxl m) f.1 f.2.1 f.2.2 = true := by
  unfold feabbbaaa at h
  rcases rcond2 h with ⟨hm, h⟩ | ⟨-, h⟩
  · rw [Nat.eq_of_beq_eq_true hm]; exact rck_ok (tb := tr108) (fun _ => rfl) ck108 h
  · skip
    rcases rcond2 h with ⟨hm, h⟩ | ⟨-, h⟩
    · rw [Nat.eq_of_beq_eq_true hm]; exact rck_ok (tb := tr109) (fun _ => rfl) ck109 h
    · cases h

def feabbbaab (m pc : Nat) : Option rI := bif Nat.beq m 110 then tb110 pc else (bif Nat.beq m 111 then tb111 pc else none)
set_option maxRecDepth 100000 in
theorem feabbbaab_ok {m pc : Nat} {f : rI} (h : feabbbaab m pc = some f) : decode (rB m) pc = .ok (f.1, f.2.1) ∧ rchk (rpool m) (rmaxl m) f.1 f.2.1 f.2.2 = true := by
  unfold feabbbaab at h
  rcases rcond2 h with ⟨hm, h⟩ | ⟨-, h⟩
  · rw [Nat.eq_of_beq_eq_true hm]; exact rck_ok (tb := tr110) (fun _ => rfl) ck110 h
  · skip
    rcases rcond2 h with ⟨hm, h⟩ | ⟨-, h⟩
    · rw [Nat.eq_of_beq_eq_true hm]; exact rck_ok (tb := tr111) (fun _ => rfl) ck111 h
    · cases h

def feabbbaa (m pc : Nat) : Option rI := bif Nat.blt m 110 then feabbbaaa m pc else feabbbaab m pc
set_option maxRecDepth 100000 in
theorem feabbbaa_ok {m pc : Nat} {f : rI} (h : feabbbaa m pc = some f) : decode (rB m) pc = .ok (f.1, f.2.1) ∧ rchk (rpool m) (rmaxl m) f.1 f.2.1 f.2.2 = true := by
  unfold feabbbaa at h
  rcases rcond2 h with ⟨-, h⟩ | ⟨-, h⟩
  · exact feabbbaaa_ok h
  · exact feabbbaab_ok h

def feabbbaba (m pc : Nat) : Option rI := bif Nat.beq m 112 then tb112 pc else (bif Nat.beq m 113 then tb113 pc else none)
set_option maxRecDepth 100000 in
theorem feabbbaba_ok {m pc : Nat} {f : rI} (h : feabbbaba m pc = some f) : decode (rB m) pc = .ok (f.1, f.2.1) ∧ rchk (rpool m) (rmaxl m) f.1 f.2.1 f.2.2 = true := by
  unfold feabbbaba at h
  rcases rcond2 h with ⟨hm, h⟩ | ⟨-, h⟩
  · rw [Nat.eq_of_beq_eq_true hm]; exact rck_ok (tb := tr112) (fun _ => rfl) ck112 h
  · skip
    rcases rcond2 h with ⟨hm, h⟩ | ⟨-, h⟩
    · rw [Nat.eq_of_beq_eq_true hm]; exact rck_ok (tb := tr113) (fun _ => rfl) ck113 h
    · cases h

def feabbbabb (m pc : Nat) : Option rI := bif Nat.beq m 114 then tb114 pc else (bif Nat.beq m 115 then tb115 pc else none)
set_option maxRecDepth 100000 in
theorem feabbbabb_ok {m pc : Nat} {f : rI} (h : feabbbabb m pc = some f) : decode (rB m) pc = .ok (f.1, f.2.1) ∧ rchk (rpool m) (rmaxl m) f.1 f.2.1 f.2.2 = true := by
  unfold feabbbabb at h
  rcases rcond2 h with ⟨hm, h⟩ | ⟨-, h⟩
  · rw [Nat.eq_of_beq_eq_true hm]; exact rck_ok (tb := tr114) (fun _ => rfl) ck114 h
  · skip
    rcases rcond2 h with ⟨hm, h⟩ | ⟨-, h⟩
    · rw [Nat.eq_of_beq_eq_true hm]; exact rck_ok (tb := tr115) (fun _ => rfl) ck115 h
    · cases h

def feabbbab (m pc : Nat) : Option rI := bif Nat.blt m 114 then feabbbaba m pc else feabbbabb m pc
set_option maxRecDepth 100000 in
theorem feabbbab_ok {m pc : Nat} {f : rI} (h : feabbbab m pc = some f) : decode (rB m) pc = .ok (f.1, f.2.1) ∧ rchk (rpool m) (rmaxl m) f.1 f.2.1 f.2.2 = true := by
  unfold feabbbab at h
  rcases rcond2 h with ⟨-, h⟩ | ⟨-, h⟩
  · exact feabbbaba_ok h
  · exact feabbbabb_ok h

def feabbba (m pc : Nat) : Option rI := bif Nat.blt m 112 then feabbbaa m pc else feabbbab m pc
set_option maxRecDepth 100000 in
theorem feabbba_ok {m pc : Nat} {f : rI} (h : feabbba m pc = some f) : decode (rB m) pc = .ok (f.1, f.2.1) ∧ rchk (rpool m) (rmaxl m) f.1 f.2.1 f.2.2 = true := by
  unfold feabbba at h
  rcases rcond2 h with ⟨-, h⟩ | ⟨-, h⟩
  · exact feabbbaa_ok h
  · exact feabbbab_ok h

def feabbbbaa (m pc : Nat) : Option rI := bif Nat.beq m 116 then tb116 pc else (bif Nat.beq m 117 then tb117 pc else none)
set_option maxRecDepth 100000 in
theorem feabbbbaa_ok {m pc : Nat} {f : rI} (h : feabbbbaa m pc = some f) : decode (rB m) pc = .ok (f.1, f.2.1) ∧ rchk (rpool m) (rmaxl m) f.1 f.2.1 f.2.2 = true := by
  unfold feabbbbaa at h
  rcases rcond2 h with ⟨hm, h⟩ | ⟨-, h⟩
  · rw [Nat.eq_of_beq_eq_true hm]; exact rck_ok (tb := tr116) (fun _ => rfl) ck116 h
  · skip
    rcases rcond2 h with ⟨hm, h⟩ | ⟨-, h⟩
    · rw [Nat.eq_of_beq_eq_true hm]; exact rck_ok (tb := tr117) (fun _ => rfl) ck117 h
    · cases h

def feabbbbab (m pc : Nat) : Option rI := bif Nat.beq m 118 then tb118 pc else (bif Nat.beq m 119 then tb119 pc else none)
set_option maxRecDepth 100000 in
theorem feabbbbab_ok {m pc : Nat} {f : rI} (h : feabbbbab m pc = some f) : decode (rB m) pc = .ok (f.1, f.2.1) ∧ rchk (rpool m) (rmaxl m) f.1 f.2.1 f.2.2 = true := by
  unfold feabbbbab at h
  rcases rcond2 h with ⟨hm, h⟩ | ⟨-, h⟩
  · rw [Nat.eq_of_beq_eq_true hm]; exact rck_ok (tb := tr118) (fun _ => rfl) ck118 h
  · skip
    rcases rcond2 h with ⟨hm, h⟩ | ⟨-, h⟩
    · rw [Nat.eq_of_beq_eq_true hm]; exact rck_ok (tb := tr119) (fun _ => rfl) ck119 h
    · cases h

def feabbbba (m pc : Nat) : Option rI := bif Nat.blt m 118 then feabbbbaa m pc else feabbbbab m pc
set_option maxRecDepth 100000 in
theorem feabbbba_ok {m pc : Nat} {f : rI} (h : feabbbba m pc = some f) : decode (rB m) pc = .ok (f.1, f.2.1) ∧ rchk (rpool m) (rmaxl m) f.1 f.2.1 f.2.2 = true := by
  unfold feabbbba at h
  rcases rcond2 h with ⟨-, h⟩ | ⟨-, h⟩
  · exact feabbbbaa_ok h
  · exact feabbbbab_ok h

def feabbbbba (m pc : Nat) : Option rI := bif Nat.beq m 120 then tb120 pc else (bif Nat.beq m 121 then tb121 pc else none)
set_option maxRecDepth 100000 in
theorem feabbbbba_ok {m pc : Nat} {f : rI} (h : feabbbbba m pc = some f) : decode (rB m) pc = .ok (f.1, f.2.1) ∧ rchk (rpool m) (rmaxl m) f.1 f.2.1 f.2.2 = true := by
  unfold feabbbbba at h
  rcases rcond2 h with ⟨hm, h⟩ | ⟨-, h⟩
  · rw [Nat.eq_of_beq_eq_true hm]; exact rck_ok (tb := tr120) (fun _ => rfl) ck120 h
  · skip
    rcases rcond2 h with ⟨hm, h⟩ | ⟨-, h⟩
    · rw [Nat.eq_of_beq_eq_true hm]; exact rck_ok (tb := tr121) (fun _ => rfl) ck121 h
    · cases h

def feabbbbbb (m pc : Nat) : Option rI := bif Nat.beq m 122 then tb122 pc else (bif Nat.beq m 123 then tb123 pc else none)
set_option maxRecDepth 100000 in
theorem feabbbbbb_ok {m pc : Nat} {f : rI} (h : feabbbbbb m pc = some f) : decode (rB m) pc = .ok (f.1, f.2.1) ∧ rchk (rpool m) (rmaxl m) f.1 f.2.1 f.2.2 = true := by
  unfold feabbbbbb at h
  rcases rcond2 h with ⟨hm, h⟩ | ⟨-, h⟩
  · rw [Nat.eq_of_beq_eq_true hm]; exact rck_ok (tb := tr122) (fun _ => rfl) ck122 h
  · skip
    rcases rcond2 h with ⟨hm, h⟩ | ⟨-, h⟩
    · rw [Nat.eq_of_beq_eq_true hm]; exact rck_ok (tb := tr123) (fun _ => rfl) ck123 h
    · cases h

def feabbbbb (m pc : Nat) : Option rI := bif Nat.blt m 122 then feabbbbba m pc else feabbbbbb m pc
set_option maxRecDepth 100000 in
theorem feabbbbb_ok {m pc : Nat} {f : rI} (h : feabbbbb m pc = some f) : decode (rB m) pc = .ok (f.1, f.2.1) ∧ rchk (rpool m) (rmaxl m) f.1 f.2.1 f.2.2 = true := by
  unfold feabbbbb at h
  rcases rcond2 h with ⟨-, h⟩ | ⟨-, h⟩
  · exact feabbbbba_ok h
  · exact feabbbbbb_ok h

def feabbbb (m pc : Nat) : Option rI := bif Nat.blt m 120 then feabbbba m pc else feabbbbb m pc
set_option maxRecDepth 100000 in
theorem feabbbb_ok {m pc : Nat} {f : rI} (h : feabbbb m pc = some f) : decode (rB m) pc = .ok (f.1, f.2.1) ∧ rchk (rpool m) (rmaxl m) f.1 f.2.1 f.2.2 = true := by
  unfold feabbbb at h
  rcases rcond2 h with ⟨-, h⟩ | ⟨-, h⟩
  · exact feabbbba_ok h
  · exact feabbbbb_ok h

def feabbb (m pc : Nat) : Option rI := bif Nat.blt m 116 then feabbba m pc else feabbbb m pc
set_option maxRecDepth 100000 in
theorem feabbb_ok {m pc : Nat} {f : rI} (h : feabbb m pc = some f) : decode (rB m) pc = .ok (f.1, f.2.1) ∧ rchk (rpool m) (rmaxl m) f.1 f.2.1 f.2.2 = true := by
  unfold feabbb at h
  rcases rcond2 h with ⟨-, h⟩ | ⟨-, h⟩
  · exact feabbba_ok h
  · exact feabbbb_ok h

def feabb (m pc : Nat) : Option rI := bif Nat.blt m 108 then feabba m pc else feabbb m pc
set_option maxRecDepth 100000 in
theorem feabb_ok {m pc : Nat} {f : rI} (h : feabb m pc = some f) : decode (rB m) pc = .ok (f.1, f.2.1) ∧ rchk (rpool m) (rmaxl m) f.1 f.2.1 f.2.2 = true := by
  unfold feabb at h
  rcases rcond2 h with ⟨-, h⟩ | ⟨-, h⟩
  · exact feabba_ok h
  · exact feabbb_ok h

def feab (m pc : Nat) : Option rI := bif Nat.blt m 93 then feaba m pc else feabb m pc
set_option maxRecDepth 100000 in
theorem feab_ok {m pc : Nat} {f : rI} (h : feab m pc = some f) : decode (rB m) pc = .ok (f.1, f.2.1) ∧ rchk (rpool m) (rmaxl m) f.1 f.2.1 f.2.2 = true := by
  unfold feab at h
  rcases rcond2 h with ⟨-, h⟩ | ⟨-, h⟩
  · exact feaba_ok h
  · exact feabb_ok h

def fea (m pc : Nat) : Option rI := bif Nat.blt m 62 then feaa m pc else feab m pc
set_option maxRecDepth 100000 in
theorem fea_ok {m pc : Nat} {f : rI} (h : fea m pc = some f) : decode (rB m) pc = .ok (f.1, f.2.1) ∧ rchk (rpool m) (rmaxl m) f.1 f.2.1 f.2.2 = true := by
  unfold fea at h
  rcases rcond2 h with ⟨-, h⟩ | ⟨-, h⟩
  · exact feaa_ok h
  · exact feab_ok h

def febaaaaa (m pc : Nat) : Option rI := bif Nat.beq m 124 then tb124 pc else (bif Nat.beq m 125 then tb125 pc else (bif Nat.beq m 126 then tb126 pc else none))
set_option maxRecDepth 100000 in
theorem febaaaaa_ok {m pc : Nat} {f : rI} (h : febaaaaa m pc = some f) : decode (rB m) pc = .ok (f.1, f.2.1) ∧ rchk (rpool m) (rmaxl m) f.1 f.2.1 f.2.2 = true := by
  unfold febaaaaa at h
  rcases rcond2 h with ⟨hm, h⟩ | ⟨-, h⟩
  · rw [Nat.eq_of_beq_eq_true hm]; exact rck_ok (tb := tr124) (fun _ => rfl) ck124 h
  · skip
    rcases rcond2 h with ⟨hm, h⟩ | ⟨-, h⟩
    · rw [Nat.eq_of_beq_eq_true hm]; exact rck_ok (tb := tr125) (fun _ => rfl) ck125 h
    · skip
      rcases rcond2 h with ⟨hm, h⟩ | ⟨-, h⟩
      · rw [Nat.eq_of_beq_eq_true hm]; exact rck_ok (tb := tr126) (fun _ => rfl) ck126 h
      · cases h

def febaaaaba (m pc : Nat) : Option rI := bif Nat.beq m 127 then tb127 pc else (bif Nat.beq m 128 then tb128 pc else none)
set_option maxRecDepth 100000 in
theorem febaaaaba_ok {m pc : Nat} {f : rI} (h : febaaaaba m pc = some f) : decode (rB m) pc = .ok (f.1, f.2.1) ∧ rchk (rpool m) (rmaxl m) f.1 f.2.1 f.2.2 = true := by
  unfold febaaaaba at h
  rcases rcond2 h with ⟨hm, h⟩ | ⟨-, h⟩
  · rw [Nat.eq_of_beq_eq_true hm]; exact rck_ok (tb := tr127) (fun _ => rfl) ck127 h
  · skip
    rcases rcond2 h with ⟨hm, h⟩ | ⟨-, h⟩
    · rw [Nat.eq_of_beq_eq_true hm]; exact rck_ok (tb := tr128) (fun _ => rfl) ck128 h
    · cases h

def febaaaabb (m pc : Nat) : Option rI := bif Nat.beq m 129 then tb129 pc else (bif Nat.beq m 130 then tb130 pc else none)
set_option maxRecDepth 100000 in
theorem febaaaabb_ok {m pc : Nat} {f : rI} (h : febaaaabb m pc = some f) : decode (rB m) pc = .ok (f.1, f.2.1) ∧ rchk (rpool m) (rmaxl m) f.1 f.2.1 f.2.2 = true := by
  unfold febaaaabb at h
  rcases rcond2 h with ⟨hm, h⟩ | ⟨-, h⟩
  · rw [Nat.eq_of_beq_eq_true hm]; exact rck_ok (tb := tr129) (fun _ => rfl) ck129 h
  · skip
    rcases rcond2 h with ⟨hm, h⟩ | ⟨-, h⟩
    · rw [Nat.eq_of_beq_eq_true hm]; exact rck_ok (tb := tr130) (fun _ => rfl) ck130 h
    · cases h

def febaaaab (m pc : Nat) : Option rI := bif Nat.blt m 129 then febaaaaba m pc else febaaaabb m pc
set_option maxRecDepth 100000 in
theorem febaaaab_ok {m pc : Nat} {f : rI} (h : febaaaab m pc = some f) : decode (rB m) pc = .ok (f.1, f.2.1) ∧ rchk (rpool m) (rmaxl m) f.1 f.2.1 f.2.2 = true := by
  unfold febaaaab at h
  rcases rcond2 h with ⟨-, h⟩ | ⟨-, h⟩
  · exact febaaaaba_ok h
  · exact febaaaabb_ok h

def febaaaa (m pc : Nat) : Option rI := bif Nat.blt m 127 then febaaaaa m pc else febaaaab m pc
set_option maxRecDepth 100000 in
theorem febaaaa_ok {m pc : Nat} {f : rI} (h : febaaaa m pc = some f) : decode (rB m) pc = .ok (f.1, f.2.1) ∧ rchk (rpool m) (rmaxl m) f.1 f.2.1 f.2.2 = true := by
  unfold febaaaa at h
  rcases rcond2 h with ⟨-, h⟩ | ⟨-, h⟩
  · exact febaaaaa_ok h
  · exact febaaaab_ok h

def febaaabaa (m pc : Nat) : Option rI := bif Nat.beq m 131 then tb131 pc else (bif Nat.beq m 132 then tb132 pc else none)
set_option maxRecDepth 100000 in
theorem febaaabaa_ok {m pc : Nat} {f : rI} (h : febaaabaa m pc = some f) : decode (rB m) pc = .ok (f.1, f.2.1) ∧ rchk (rpool m) (rmaxl m) f.1 f.2.1 f.2.2 = true := by
  unfold febaaabaa at h
  rcases rcond2 h with ⟨hm, h⟩ | ⟨-, h⟩
  · rw [Nat.eq_of_beq_eq_true hm]; exact rck_ok (tb := tr131) (fun _ => rfl) ck131 h
  · skip
    rcases rcond2 h with ⟨hm, h⟩ | ⟨-, h⟩
    · rw [Nat.eq_of_beq_eq_true hm]; exact rck_ok (tb := tr132) (fun _ => rfl) ck132 h
    · cases h

def febaaabab (m pc : Nat) : Option rI := bif Nat.beq m 133 then tb133 pc else (bif Nat.beq m 134 then tb134 pc else none)
set_option maxRecDepth 100000 in
theorem febaaabab_ok {m pc : Nat} {f : rI} (h : febaaabab m pc = some f) : decode (rB m) pc = .ok (f.1, f.2.1) ∧ rchk (rpool m) (rmaxl m) f.1 f.2.1 f.2.2 = true := by
  unfold febaaabab at h
  rcases rcond2 h with ⟨hm, h⟩ | ⟨-, h⟩
  · rw [Nat.eq_of_beq_eq_true hm]; exact rck_ok (tb := tr133) (fun _ => rfl) ck133 h
  · skip
    rcases rcond2 h with ⟨hm, h⟩ | ⟨-, h⟩
    · rw [Nat.eq_of_beq_eq_true hm]; exact rck_ok (tb := tr134) (fun _ => rfl) ck134 h
    · cases h

def febaaaba (m pc : Nat) : Option rI := bif Nat.blt m 133 then febaaabaa m pc else febaaabab m pc
set_option maxRecDepth 100000 in
theorem febaaaba_ok {m pc : Nat} {f : rI} (h : febaaaba m pc = some f) : decode (rB m) pc = .ok (f.1, f.2.1) ∧ rchk (rpool m) (rmaxl m) f.1 f.2.1 f.2.2 = true := by
  unfold febaaaba at h
  rcases rcond2 h with ⟨-, h⟩ | ⟨-, h⟩
  · exact febaaabaa_ok h
  · exact febaaabab_ok h

def febaaabba (m pc : Nat) : Option rI := bif Nat.beq m 135 then tb135 pc else (bif Nat.beq m 136 then tb136 pc else none)
set_option maxRecDepth 100000 in
theorem febaaabba_ok {m pc : Nat} {f : rI} (h : febaaabba m pc = some f) : decode (rB m) pc = .ok (f.1, f.2.1) ∧ rchk (rpool m) (rmaxl m) f.1 f.2.1 f.2.2 = true := by
  unfold febaaabba at h
  rcases rcond2 h with ⟨hm, h⟩ | ⟨-, h⟩
  · rw [Nat.eq_of_beq_eq_true hm]; exact rck_ok (tb := tr135) (fun _ => rfl) ck135 h
  · skip
    rcases rcond2 h with ⟨hm, h⟩ | ⟨-, h⟩
    · rw [Nat.eq_of_beq_eq_true hm]; exact rck_ok (tb := tr136) (fun _ => rfl) ck136 h
    · cases h

def febaaabbb (m pc : Nat) : Option rI := bif Nat.beq m 137 then tb137 pc else (bif Nat.beq m 138 then tb138 pc else none)
set_option maxRecDepth 100000 in
theorem febaaabbb_ok {m pc : Nat} {f : rI} (h : febaaabbb m pc = some f) : decode (rB m) pc = .ok (f.1, f.2.1) ∧ rchk (rpool m) (rmaxl m) f.1 f.2.1 f.2.2 = true := by
  unfold febaaabbb at h
  rcases rcond2 h with ⟨hm, h⟩ | ⟨-, h⟩
  · rw [Nat.eq_of_beq_eq_true hm]; exact rck_ok (tb := tr137) (fun _ => rfl) ck137 h
  · skip
    rcases rcond2 h with ⟨hm, h⟩ | ⟨-, h⟩
    · rw [Nat.eq_of_beq_eq_true hm]; exact rck_ok (tb := tr138) (fun _ => rfl) ck138 h
    · cases h

def febaaabb (m pc : Nat) : Option rI := bif Nat.blt m 137 then febaaabba m pc else febaaabbb m pc
set_option maxRecDepth 100000 in
theorem febaaabb_ok {m pc : Nat} {f : rI} (h : febaaabb m pc = some f) : decode (rB m) pc = .ok (f.1, f.2.1) ∧ rchk (rpool m) (rmaxl m) f.1 f.2.1 f.2.2 = true := by
  unfold febaaabb at h
  rcases rcond2 h with ⟨-, h⟩ | ⟨-, h⟩
  · exact febaaabba_ok h
  · exact febaaabbb_ok h

def febaaab (m pc : Nat) : Option rI := bif Nat.blt m 135 then febaaaba m pc else febaaabb m pc
set_option maxRecDepth 100000 in
theorem febaaab_ok {m pc : Nat} {f : rI} (h : febaaab m pc = some f) : decode (rB m) pc = .ok (f.1, f.2.1) ∧ rchk (rpool m) (rmaxl m) f.1 f.2.1 f.2.2 = true := by
  unfold febaaab at h
  rcases rcond2 h with ⟨-, h⟩ | ⟨-, h⟩
  · exact febaaaba_ok h
  · exact febaaabb_ok h

def febaaa (m pc : Nat) : Option rI := bif Nat.blt m 131 then febaaaa m pc else febaaab m pc
set_option maxRecDepth 100000 in
theorem febaaa_ok {m pc : Nat} {f : rI} (h : febaaa m pc = some f) : decode (rB m) pc = .ok (f.1, f.2.1) ∧ rchk (rpool m) (rmaxl m) f.1 f.2.1 f.2.2 = true := by
  unfold febaaa at h
  rcases rcond2 h with ⟨-, h⟩ | ⟨-, h⟩
  · exact febaaaa_ok h
  · exact febaaab_ok h

def febaabaaa (m pc : Nat) : Option rI := bif Nat.beq m 139 then tb139 pc else (bif Nat.beq m 140 then tb140 pc else none)
set_option maxRecDepth 100000 in
theorem febaabaaa_ok {m pc : Nat} {f : rI} (h : febaabaaa m pc = some f) : decode (rB m) pc = .ok (f.1, f.2.1) ∧ rchk (rpool m) (rmaxl m) f.1 f.2.1 f.2.2 = true := by
  unfold febaabaaa at h
  rcases rcond2 h with ⟨hm, h⟩ | ⟨-, h⟩
  · rw [Nat.eq_of_beq_eq_true hm]; exact rck_ok (tb := tr139) (fun _ => rfl) ck139 h
  · skip
    rcases rcond2 h with ⟨hm, h⟩ | ⟨-, h⟩
    · rw [Nat.eq_of_beq_eq_true hm]; exact rck_ok (tb := tr140) (fun _ => rfl) ck140 h
    · cases h

def febaabaab (m pc : Nat) : Option rI := bif Nat.beq m 141 then tb141 pc else (bif Nat.beq m 142 then tb142 pc else none)
set_option maxRecDepth 100000 in
theorem febaabaab_ok {m pc : Nat} {f : rI} (h : febaabaab m pc = some f) : decode (rB m) pc = .ok (f.1, f.2.1) ∧ rchk (rpool m) (rmaxl m) f.1 f.2.1 f.2.2 = true := by
  unfold febaabaab at h
  rcases rcond2 h with ⟨hm, h⟩ | ⟨-, h⟩
  · rw [Nat.eq_of_beq_eq_true hm]; exact rck_ok (tb := tr141) (fun _ => rfl) ck141 h
  · skip
    rcases rcond2 h with ⟨hm, h⟩ | ⟨-, h⟩
    · rw [Nat.eq_of_beq_eq_true hm]; exact rck_ok (tb := tr142) (fun _ => rfl) ck142 h
    · cases h

def febaabaa (m pc : Nat) : Option rI := bif Nat.blt m 141 then febaabaaa m pc else febaabaab m pc
set_option maxRecDepth 100000 in
theorem febaabaa_ok {m pc : Nat} {f : rI} (h : febaabaa m pc = some f) : decode (rB m) pc = .ok (f.1, f.2.1) ∧ rchk (rpool m) (rmaxl m) f.1 f.2.1 f.2.2 = true := by
  unfold febaabaa at h
  rcases rcond2 h with ⟨-, h⟩ | ⟨-, h⟩
  · exact febaabaaa_ok h
  · exact febaabaab_ok h

def febaababa (m pc : Nat) : Option rI := bif Nat.beq m 143 then tb143 pc else (bif Nat.beq m 144 then tb144 pc else none)
set_option maxRecDepth 100000 in
theorem febaababa_ok {m pc : Nat} {f : rI} (h : febaababa m pc = some f) : decode (rB m) pc = .ok (f.1, f.2.1) ∧ rchk (rpool m) (rmaxl m) f.1 f.2.1 f.2.2 = true := by
  unfold febaababa at h
  rcases rcond2 h with ⟨hm, h⟩ | ⟨-, h⟩
  · rw [Nat.eq_of_beq_eq_true hm]; exact rck_ok (tb := tr143) (fun _ => rfl) ck143 h
  · skip
    rcases rcond2 h with ⟨hm, h⟩ | ⟨-, h⟩
    · rw [Nat.eq_of_beq_eq_true hm]; exact rck_ok (tb := tr144) (fun _ => rfl) ck144 h
    · cases h

def febaababb (m pc : Nat) : Option rI := bif Nat.beq m 145 then tb145 pc else (bif Nat.beq m 146 then tb146 pc else none)
set_option maxRecDepth 100000 in
theorem febaababb_ok {m pc : Nat} {f : rI} (h : febaababb m pc = some f) : decode (rB m) pc = .ok (f.1, f.2.1) ∧ rchk (rpool m) (rmaxl m) f.1 f.2.1 f.2.2 = true := by
  unfold febaababb at h
  rcases rcond2 h with ⟨hm, h⟩ | ⟨-, h⟩
  · rw [Nat.eq_of_beq_eq_true hm]; exact rck_ok (tb := tr145) (fun _ => rfl) ck145 h
  · skip
    rcases rcond2 h with ⟨hm, h⟩ | ⟨-, h⟩
    · rw [Nat.eq_of_beq_eq_true hm]; exact rck_ok (tb := tr146) (fun _ => rfl) ck146 h
    · cases h

def febaabab (m pc : Nat) : Option rI := bif Nat.blt m 145 then febaababa m pc else febaababb m pc
set_option maxRecDepth 100000 in
theorem febaabab_ok {m pc : Nat} {f : rI} (h : febaabab m pc = some f) : decode (rB m) pc = .ok (f.1, f.2.1) ∧ rchk (rpool m) (rmaxl m) f.1 f.2.1 f.2.2 = true := by
  unfold febaabab at h
  rcases rcond2 h with ⟨-, h⟩ | ⟨-, h⟩
  · exact febaababa_ok h
  · exact febaababb_ok h

def febaaba (m pc : Nat) : Option rI := bif Nat.blt m 143 then febaabaa m pc else febaabab m pc
set_option maxRecDepth 100000 in
theorem febaaba_ok {m pc : Nat} {f : rI} (h : febaaba m pc = some f) : decode (rB m) pc = .ok (f.1, f.2.1) ∧ rchk (rpool m) (rmaxl m) f.1 f.2.1 f.2.2 = true := by
  unfold febaaba at h
  rcases rcond2 h with ⟨-, h⟩ | ⟨-, h⟩
  · exact febaabaa_ok h
  · exact febaabab_ok h

def febaabbaa (m pc : Nat) : Option rI := bif Nat.beq m 147 then tb147 pc else (bif Nat.beq m 148 then tb148 pc else none)
set_option maxRecDepth 100000 in
theorem febaabbaa_ok {m pc : Nat} {f : rI} (h : febaabbaa m pc = some f) : decode (rB m) pc = .ok (f.1, f.2.1) ∧ rchk (rpool m) (rmaxl m) f.1 f.2.1 f.2.2 = true := by
  unfold febaabbaa at h
  rcases rcond2 h with ⟨hm, h⟩ | ⟨-, h⟩
  · rw [Nat.eq_of_beq_eq_true hm]; exact rck_ok (tb := tr147) (fun _ => rfl) ck147 h
  · skip
    rcases rcond2 h with ⟨hm, h⟩ | ⟨-, h⟩
    · rw [Nat.eq_of_beq_eq_true hm]; exact rck_ok (tb := tr148) (fun _ => rfl) ck148 h
    · cases h

def febaabbab (m pc : Nat) : Option rI := bif Nat.beq m 149 then tb149 pc else (bif Nat.beq m 150 then tb150 pc else none)
set_option maxRecDepth 100000 in
theorem febaabbab_ok {m pc : Nat} {f : rI} (h : febaabbab m pc = some f) : decode (rB m) pc = .ok (f.1, f.2.1) ∧ rchk (rpool m) (rmaxl m) f.1 f.2.1 f.2.2 = true := by
  unfold febaabbab at h
  rcases rcond2 h with ⟨hm, h⟩ | ⟨-, h⟩
  · rw [Nat.eq_of_beq_eq_true hm]; exact rck_ok (tb := tr149) (fun _ => rfl) ck149 h
  · skip
    rcases rcond2 h with ⟨hm, h⟩ | ⟨-, h⟩
    · rw [Nat.eq_of_beq_eq_true hm]; exact rck_ok (tb := tr150) (fun _ => rfl) ck150 h
    · cases h

def febaabba (m pc : Nat) : Option rI := bif Nat.blt m 149 then febaabbaa m pc else febaabbab m pc
set_option maxRecDepth 100000 in
theorem febaabba_ok {m pc : Nat} {f : rI} (h : febaabba m pc = some f) : decode (rB m) pc = .ok (f.1, f.2.1) ∧ rchk (rpool m) (rmaxl m) f.1 f.2.1 f.2.2 = true := by
  unfold febaabba at h
  rcases rcond2 h with ⟨-, h⟩ | ⟨-, h⟩
  · exact febaabbaa_ok h
  · exact febaabbab_ok h

def febaabbba (m pc : Nat) : Option rI := bif Nat.beq m 151 then tb151 pc else (bif Nat.beq m 152 then tb152 pc else none)
set_option maxRecDepth 100000 in
theorem febaabbba_ok {m pc : Nat} {f : rI} (h : febaabbba m pc = some f) : decode (rB m) pc = .ok (f.1, f.2.1) ∧ rchk (rpool m) (rmaxl m) f.1 f.2.1 f.2.2 = true := by
  unfold febaabbba at h
  rcases rcond2 h with ⟨hm, h⟩ | ⟨-, h⟩
  · rw [Nat.eq_of_beq_eq_true hm]; exact rck_ok (tb := tr151) (fun _ => rfl) ck151 h
  · skip
    rcases rcond2 h with ⟨hm, h⟩ | ⟨-, h⟩
    · rw [Nat.eq_of_beq_eq_true hm]; exact rck_ok (tb := tr152) (fun _ => rfl) ck152 h
    · cases h

def febaabbbb (m pc : Nat) : Option rI := bif Nat.beq m 153 then tb153 pc else (bif Nat.beq m 154 then tb154 pc else none)
set_option maxRecDepth 100000 in
theorem febaabbbb_ok {m pc : Nat} {f : rI} (h : febaabbbb m pc = some f) : decode (rB m) pc = .ok (f.1, f.2.1) ∧ rchk (rpool m) (rmaxl m) f.1 f.2.1 f.2.2 = true := by
  unfold febaabbbb at h
  rcases rcond2 h with ⟨hm, h⟩ | ⟨-, h⟩
  · rw [Nat.eq_of_beq_eq_true hm]; exact rck_ok (tb := tr153) (fun _ => rfl) ck153 h
  · skip
    rcases rcond2 h with ⟨hm, h⟩ | ⟨-, h⟩
    · rw [Nat.eq_of_beq_eq_true hm]; exact rck_ok (tb := tr154) (fun _ => rfl) ck154 h
    · cases h

def febaabbb (m pc : Nat) : Option rI := bif Nat.blt m 153 then febaabbba m pc else febaabbbb m pc
set_option maxRecDepth 100000 in
theorem febaabbb_ok {m pc : Nat} {f : rI} (h : febaabbb m pc = some f) : decode (rB m) pc = .ok (f.1, f.2.1) ∧ rchk (rpool m) (rmaxl m) f.1 f.2.1 f.2.2 = true := by
  unfold febaabbb at h
  rcases rcond2 h with ⟨-, h⟩ | ⟨-, h⟩
  · exact febaabbba_ok h
  · exact febaabbbb_ok h

def febaabb (m pc : Nat) : Option rI := bif Nat.blt m 151 then febaabba m pc else febaabbb m pc
set_option maxRecDepth 100000 in
theorem febaabb_ok {m pc : Nat} {f : rI} (h : febaabb m pc = some f) : decode (rB m) pc = .ok (f.1, f.2.1) ∧ rchk (rpool m) (rmaxl m) f.1 f.2.1 f.2.2 = true := by
  unfold febaabb at h
  rcases rcond2 h with ⟨-, h⟩ | ⟨-, h⟩
  · exact febaabba_ok h
  · exact febaabbb_ok h

def febaab (m pc : Nat) : Option rI := bif Nat.blt m 147 then febaaba m pc else febaabb m pc
set_option maxRecDepth 100000 in
theorem febaab_ok {m pc : Nat} {f : rI} (h : febaab m pc = some f) : decode (rB m) pc = .ok (f.1, f.2.1) ∧ rchk (rpool m) (rmaxl m) f.1 f.2.1 f.2.2 = true := by
  unfold febaab at h
  rcases rcond2 h with ⟨-, h⟩ | ⟨-, h⟩
  · exact febaaba_ok h
  · exact febaabb_ok h

def febaa (m pc : Nat) : Option rI := bif Nat.blt m 139 then febaaa m pc else febaab m pc
set_option maxRecDepth 100000 in
theorem febaa_ok {m pc : Nat} {f : rI} (h : febaa m pc = some f) : decode (rB m) pc = .ok (f.1, f.2.1) ∧ rchk (rpool m) (rmaxl m) f.1 f.2.1 f.2.2 = true := by
  unfold febaa at h
  rcases rcond2 h with ⟨-, h⟩ | ⟨-, h⟩
  · exact febaaa_ok h
  · exact febaab_ok h

def febabaaa (m pc : Nat) : Option rI := bif Nat.beq m 155 then tb155 pc else (bif Nat.beq m 156 then tb156 pc else (bif Nat.beq m 157 then tb157 pc else none))
set_option maxRecDepth 100000 in
theorem febabaaa_ok {m pc : Nat} {f : rI} (h : febabaaa m pc = some f) : decode (rB m) pc = .ok (f.1, f.2.1) ∧ rchk (rpool m) (rmaxl m) f.1 f.2.1 f.2.2 = true := by
  unfold febabaaa at h
  rcases rcond2 h with ⟨hm, h⟩ | ⟨-, h⟩
  · rw [Nat.eq_of_beq_eq_true hm]; exact rck_ok (tb := tr155) (fun _ => rfl) ck155 h
  · skip
    rcases rcond2 h with ⟨hm, h⟩ | ⟨-, h⟩
    · rw [Nat.eq_of_beq_eq_true hm]; exact rck_ok (tb := tr156) (fun _ => rfl) ck156 h
    · skip
      rcases rcond2 h with ⟨hm, h⟩ | ⟨-, h⟩
      · rw [Nat.eq_of_beq_eq_true hm]; exact rck_ok (tb := tr157) (fun _ => rfl) ck157 h
      · cases h

def febabaaba (m pc : Nat) : Option rI := bif Nat.beq m 158 then tb158 pc else (bif Nat.beq m 159 then tb159 pc else none)
set_option maxRecDepth 100000 in
theorem febabaaba_ok {m pc : Nat} {f : rI} (h : febabaaba m pc = some f) : decode (rB m) pc = .ok (f.1, f.2.1) ∧ rchk (rpool m) (rmaxl m) f.1 f.2.1 f.2.2 = true := by
  unfold febabaaba at h
  rcases rcond2 h with ⟨hm, h⟩ | ⟨-, h⟩
  · rw [Nat.eq_of_beq_eq_true hm]; exact rck_ok (tb := tr158) (fun _ => rfl) ck158 h
  · skip
    rcases rcond2 h with ⟨hm, h⟩ | ⟨-, h⟩
    · rw [Nat.eq_of_beq_eq_true hm]; exact rck_ok (tb := tr159) (fun _ => rfl) ck159 h
    · cases h

def febabaabb (m pc : Nat) : Option rI := bif Nat.beq m 160 then tb160 pc else (bif Nat.beq m 161 then tb161 pc else none)
set_option maxRecDepth 100000 in
theorem febabaabb_ok {m pc : Nat} {f : rI} (h : febabaabb m pc = some f) : decode (rB m) pc = .ok (f.1, f.2.1) ∧ rchk (rpool m) (rmaxl m) f.1 f.2.1 f.2.2 = true := by
  unfold febabaabb at h
  rcases rcond2 h with ⟨hm, h⟩ | ⟨-, h⟩
  · rw [Nat.eq_of_beq_eq_true hm]; exact rck_ok (tb := tr160) (fun _ => rfl) ck160 h
  · skip
    rcases rcond2 h with ⟨hm, h⟩ | ⟨-, h⟩
    · rw [Nat.eq_of_beq_eq_true hm]; exact rck_ok (tb := tr161) (fun _ => rfl) ck161 h
    · cases h

def febabaab (m pc : Nat) : Option rI := bif Nat.blt m 160 then febabaaba m pc else febabaabb m pc
set_option maxRecDepth 100000 in
theorem febabaab_ok {m pc : Nat} {f : rI} (h : febabaab m pc = some f) : decode (rB m) pc = .ok (f.1, f.2.1) ∧ rchk (rpool m) (rmaxl m) f.1 f.2.1 f.2.2 = true := by
  unfold febabaab at h
  rcases rcond2 h with ⟨-, h⟩ | ⟨-, h⟩
  · exact febabaaba_ok h
  · exact febabaabb_ok h

def febabaa (m pc : Nat) : Option rI := bif Nat.blt m 158 then febabaaa m pc else febabaab m pc
set_option maxRecDepth 100000 in
theorem febabaa_ok {m pc : Nat} {f : rI} (h : febabaa m pc = some f) : decode (rB m) pc = .ok (f.1, f.2.1) ∧ rchk (rpool m) (rmaxl m) f.1 f.2.1 f.2.2 = true := by
  unfold febabaa at h
  rcases rcond2 h with ⟨-, h⟩ | ⟨-, h⟩
  · exact febabaaa_ok h
  · exact febabaab_ok h

def febababaa (m pc : Nat) : Option rI := bif Nat.beq m 162 then tb162 pc else (bif Nat.beq m 163 then tb163 pc else none)
set_option maxRecDepth 100000 in
theorem febababaa_ok {m pc : Nat} {f : rI} (h : febababaa m pc = some f) : decode (rB m) pc = .ok (f.1, f.2.1) ∧ rchk (rpool m) (rmaxl m) f.1 f.2.1 f.2.2 = true := by
  unfold febababaa at h
  rcases rcond2 h with ⟨hm, h⟩ | ⟨-, h⟩
  · rw [Nat.eq_of_beq_eq_true hm]; exact rck_ok (tb := tr162) (fun _ => rfl) ck162 h
  · skip
    rcases rcond2 h with ⟨hm, h⟩ | ⟨-, h⟩
    · rw [Nat.eq_of_beq_eq_true hm]; exact rck_ok (tb := tr163) (fun _ => rfl) ck163 h
    · cases h

def febababab (m pc : Nat) : Option rI := bif Nat.beq m 164 then tb164 pc else (bif Nat.beq m 165 then tb165 pc else none)
set_option maxRecDepth 100000 in
theorem febababab_ok {m pc : Nat} {f : rI} (h : febababab m pc = some f) : decode (rB m) pc = .ok (f.1, f.2.1) ∧ rchk (rpool m) (rmaxl m) f.1 f.2.1 f.2.2 = true := by
  unfold febababab at h
  rcases rcond2 h with ⟨hm, h⟩ | ⟨-, h⟩
  · rw [Nat.eq_of_beq_eq_true hm]; exact rck_ok (tb := tr164) (fun _ => rfl) ck164 h
  · skip
    rcases rcond2 h with ⟨hm, h⟩ | ⟨-, h⟩
    · rw [Nat.eq_of_beq_eq_true hm]; exact rck_ok (tb := tr165) (fun _ => rfl) ck165 h
    · cases h

def febababa (m pc : Nat) : Option rI := bif Nat.blt m 164 then febababaa m pc else febababab m pc
set_option maxRecDepth 100000 in
theorem febababa_ok {m pc : Nat} {f : rI} (h : febababa m pc = some f) : decode (rB m) pc = .ok (f.1, f.2.1) ∧ rchk (rpool m) (rmaxl m) f.1 f.2.1 f.2.2 = true := by
  unfold febababa at h
  rcases rcond2 h with ⟨-, h⟩ | ⟨-, h⟩
  · exact febababaa_ok h
  · exact febababab_ok h

def febababba (m pc : Nat) : Option rI := bif Nat.beq m 166 then tb166 pc else (bif Nat.beq m 167 then tb167 pc else none)
set_option maxRecDepth 100000 in
theorem febababba_ok {m pc : Nat} {f : rI} (h : febababba m pc = some f) : decode (rB m) pc = .ok (f.1, f.2.1) ∧ rchk (rpool m) (rmaxl m) f.1 f.2.1 f.2.2 = true := by
  unfold febababba at h
  rcases rcond2 h with ⟨hm, h⟩ | ⟨-, h⟩
  · rw [Nat.eq_of_beq_eq_true hm]; exact rck_ok (tb := tr166) (fun _ => rfl) ck166 h
  · skip
    rcases rcond2 h with ⟨hm, h⟩ | ⟨-, h⟩
    · rw [Nat.eq_of_beq_eq_true hm]; exact rck_ok (tb := tr167) (fun _ => rfl) ck167 h
    · cases h

def febababbb (m pc : Nat) : Option rI := bif Nat.beq m 168 then tb168 pc else (bif Nat.beq m 169 then tb169 pc else none)
set_option maxRecDepth 100000 in
theorem febababbb_ok {m pc : Nat} {f : rI} (h : febababbb m pc = some f) : decode (rB m) pc = .ok (f.1, f.2.1) ∧ rchk (rpool m) (rmaxl m) f.1 f.2.1 f.2.2 = true := by
  unfold febababbb at h
  rcases rcond2 h with ⟨hm, h⟩ | ⟨-, h⟩
  · rw [Nat.eq_of_beq_eq_true hm]; exact rck_ok (tb := tr168) (fun _ => rfl) ck168 h
  · skip
    rcases rcond2 h with ⟨hm, h⟩ | ⟨-, h⟩
    · rw [Nat.eq_of_beq_eq_true hm]; exact rck_ok (tb := tr169) (fun _ => rfl) ck169 h
    · cases h

def febababb (m pc : Nat) : Option rI := bif Nat.blt m 168 then febababba m pc else febababbb m pc
set_option maxRecDepth 100000 in
theorem febababb_ok {m pc : Nat} {f : rI} (h : febababb m pc = some f) : decode (rB m) pc = .ok (f.1, f.2.1) ∧ rchk (rpool m) (rmaxl m) f.1 f.2.1 f.2.2 = true := by
  unfold febababb at h
  rcases rcond2 h with ⟨-, h⟩ | ⟨-, h⟩
  · exact febababba_ok h
  · exact febababbb_ok h

def febabab (m pc : Nat) : Option rI := bif Nat.blt m 166 then febababa m pc else febababb m pc
set_option maxRecDepth 100000 in
theorem febabab_ok {m pc : Nat} {f : rI} (h : febabab m pc = some f) : decode (rB m) pc = .ok (f.1, f.2.1) ∧ rchk (rpool m) (rmaxl m) f.1 f.2.1 f.2.2 = true := by
  unfold febabab at h
  rcases rcond2 h with ⟨-, h⟩ | ⟨-, h⟩
  · exact febababa_ok h
  · exact febababb_ok h

def febaba (m pc : Nat) : Option rI := bif Nat.blt m 162 then febabaa m pc else febabab m pc
set_option maxRecDepth 100000 in
theorem febaba_ok {m pc : Nat} {f : rI} (h : febaba m pc = some f) : decode (rB m) pc = .ok (f.1, f.2.1) ∧ rchk (rpool m) (rmaxl m) f.1 f.2.1 f.2.2 = true := by
  unfold febaba at h
  rcases rcond2 h with ⟨-, h⟩ | ⟨-, h⟩
  · exact febabaa_ok h
  · exact febabab_ok h

def febabbaaa (m pc : Nat) : Option rI := bif Nat.beq m 170 then tb170 pc else (bif Nat.beq m 171 then tb171 pc else none)
set_option maxRecDepth 100000 in
theorem febabbaaa_ok {m pc : Nat} {f : rI} (h : febabbaaa m pc = some f) : decode (rB m) pc = .ok (f.1, f.2.1) ∧ rchk (rpool m) (rmaxl m) f.1 f.2.1 f.2.2 = true := by
  unfold febabbaaa at h
  rcases rcond2 h with ⟨hm, h⟩ | ⟨-, h⟩
  · rw [Nat.eq_of_beq_eq_true hm]; exact rck_ok (tb := tr170) (fun _ => rfl) ck170 h
  · skip
    rcases rcond2 h with ⟨hm, h⟩ | ⟨-, h⟩
    · rw [Nat.eq_of_beq_eq_true hm]; exact rck_ok (tb := tr171) (fun _ => rfl) ck171 h
    · cases h

def febabbaab (m pc : Nat) : Option rI := bif Nat.beq m 172 then tb172 pc else (bif Nat.beq m 173 then tb173 pc else none)
set_option maxRecDepth 100000 in
theorem febabbaab_ok {m pc : Nat} {f : rI} (h : febabbaab m pc = some f) : decode (rB m) pc = .ok (f.1, f.2.1) ∧ rchk (rpool m) (rmaxl m) f.1 f.2.1 f.2.2 = true := by
  unfold febabbaab at h
  rcases rcond2 h with ⟨hm, h⟩ | ⟨-, h⟩
  · rw [Nat.eq_of_beq_eq_true hm]; exact rck_ok (tb := tr172) (fun _ => rfl) ck172 h
  · skip
    rcases rcond2 h with ⟨hm, h⟩ | ⟨-, h⟩
    · rw [Nat.eq_of_beq_eq_true hm]; exact rck_ok (tb := tr173) (fun _ => rfl) ck173 h
    · cases h

def febabbaa (m pc : Nat) : Option rI := bif Nat.blt m 172 then febabbaaa m pc else febabbaab m pc
set_option maxRecDepth 100000 in
theorem febabbaa_ok {m pc : Nat} {f : rI} (h : febabbaa m pc = some f) : decode (rB m) pc = .ok (f.1, f.2.1) ∧ rchk (rpool m) (rmaxl m) f.1 f.2.1 f.2.2 = true := by
  unfold febabbaa at h
  rcases rcond2 h with ⟨-, h⟩ | ⟨-, h⟩
  · exact febabbaaa_ok h
  · exact febabbaab_ok h

def febabbaba (m pc : Nat) : Option rI := bif Nat.beq m 174 then tb174 pc else (bif Nat.beq m 175 then tb175 pc else none)
set_option maxRecDepth 100000 in
theorem febabbaba_ok {m pc : Nat} {f : rI} (h : febabbaba m pc = some f) : decode (rB m) pc = .ok (f.1, f.2.1) ∧ rchk (rpool m) (rmaxl m) f.1 f.2.1 f.2.2 = true := by
  unfold febabbaba at h
  rcases rcond2 h with ⟨hm, h⟩ | ⟨-, h⟩
  · rw [Nat.eq_of_beq_eq_true hm]; exact rck_ok (tb := tr174) (fun _ => rfl) ck174 h
  · skip
    rcases rcond2 h with ⟨hm, h⟩ | ⟨-, h⟩
    · rw [Nat.eq_of_beq_eq_true hm]; exact rck_ok (tb := tr175) (fun _ => rfl) ck175 h
    · cases h

def febabbabb (m pc : Nat) : Option rI := bif Nat.beq m 176 then tb176 pc else (bif Nat.beq m 177 then tb177 pc else none)
set_option maxRecDepth 100000 in
theorem febabbabb_ok {m pc : Nat} {f : rI} (h : febabbabb m pc = some f) : decode (rB m) pc = .ok (f.1, f.2.1) ∧ rchk (rpool m) (rmaxl m) f.1 f.2.1 f.2.2 = true := by
  unfold febabbabb at h
  rcases rcond2 h with ⟨hm, h⟩ | ⟨-, h⟩
  · rw [Nat.eq_of_beq_eq_true hm]; exact rck_ok (tb := tr176) (fun _ => rfl) ck176 h
  · skip
    rcases rcond2 h with ⟨hm, h⟩ | ⟨-, h⟩
    · rw [Nat.eq_of_beq_eq_true hm]; exact rck_ok (tb := tr177) (fun _ => rfl) ck177 h
    · cases h

def febabbab (m pc : Nat) : Option rI := bif Nat.blt m 176 then febabbaba m pc else febabbabb m pc
set_option maxRecDepth 100000 in
theorem febabbab_ok {m pc : Nat} {f : rI} (h : febabbab m pc = some f) : decode (rB m) pc = .ok (f.1, f.2.1) ∧ rchk (rpool m) (rmaxl m) f.1 f.2.1 f.2.2 = true := by
  unfold febabbab at h
  rcases rcond2 h with ⟨-, h⟩ | ⟨-, h⟩
  · exact febabbaba_ok h
  · exact febabbabb_ok h

def febabba (m pc : Nat) : Option rI := bif Nat.blt m 174 then febabbaa m pc else febabbab m pc
set_option maxRecDepth 100000 in
theorem febabba_ok {m pc : Nat} {f : rI} (h : febabba m pc = some f) : decode (rB m) pc = .ok (f.1, f.2.1) ∧ rchk (rpool m) (rmaxl m) f.1 f.2.1 f.2.2 = true := by
  unfold febabba at h
  rcases rcond2 h with ⟨-, h⟩ | ⟨-, h⟩
  · exact febabbaa_ok h
  · exact febabbab_ok h

def febabbbaa (m pc : Nat) : Option rI := bif Nat.beq m 178 then tb178 pc else (bif Nat.beq m 179 then tb179 pc else none)
set_option maxRecDepth 100000 in
theorem febabbbaa_ok {m pc : Nat} {f : rI} (h : febabbbaa m pc = some f) : decode (rB m) pc = .ok (f.1, f.2.1) ∧ rchk (rpool m) (rmaxl m) f.1 f.2.1 f.2.2 = true := by
  unfold febabbbaa at h
  rcases rcond2 h with ⟨hm, h⟩ | ⟨-, h⟩
  · rw [Nat.eq_of_beq_eq_true hm]; exact rck_ok (tb := tr178) (fun _ => rfl) ck178 h
  · skip
    rcases rcond2 h with ⟨hm, h⟩ | ⟨-, h⟩
    · rw [Nat.eq_of_beq_eq_true hm]; exact rck_ok (tb := tr179) (fun _ => rfl) ck179 h
    · cases h

def febabbbab (m pc : Nat) : Option rI := bif Nat.beq m 180 then tb180 pc else (bif Nat.beq m 181 then tb181 pc else none)
set_option maxRecDepth 100000 in
theorem febabbbab_ok {m pc : Nat} {f : rI} (h : febabbbab m pc = some f) : decode (rB m) pc = .ok (f.1, f.2.1) ∧ rchk (rpool m) (rmaxl m) f.1 f.2.1 f.2.2 = true := by
  unfold febabbbab at h
  rcases rcond2 h with ⟨hm, h⟩ | ⟨-, h⟩
  · rw [Nat.eq_of_beq_eq_true hm]; exact rck_ok (tb := tr180) (fun _ => rfl) ck180 h
  · skip
    rcases rcond2 h with ⟨hm, h⟩ | ⟨-, h⟩
    · rw [Nat.eq_of_beq_eq_true hm]; exact rck_ok (tb := tr181) (fun _ => rfl) ck181 h
    · cases h

def febabbba (m pc : Nat) : Option rI := bif Nat.blt m 180 then febabbbaa m pc else febabbbab m pc
set_option maxRecDepth 100000 in
theorem febabbba_ok {m pc : Nat} {f : rI} (h : febabbba m pc = some f) : decode (rB m) pc = .ok (f.1, f.2.1) ∧ rchk (rpool m) (rmaxl m) f.1 f.2.1 f.2.2 = true := by
  unfold febabbba at h
  rcases rcond2 h with ⟨-, h⟩ | ⟨-, h⟩
  · exact febabbbaa_ok h
  · exact febabbbab_ok h

def febabbbba (m pc : Nat) : Option rI := bif Nat.beq m 182 then tb182 pc else (bif Nat.beq m 183 then tb183 pc else none)
set_option maxRecDepth 100000 in
theorem febabbbba_ok {m pc : Nat} {f : rI} (h : febabbbba m pc = some f) : decode (rB m) pc = .ok (f.1, f.2.1) ∧ rchk (rpool m) (rmaxl m) f.1 f.2.1 f.2.2 = true := by
  unfold febabbbba at h
  rcases rcond2 h with ⟨hm, h⟩ | ⟨-, h⟩
  · rw [Nat.eq_of_beq_eq_true hm]; exact rck_ok (tb := tr182) (fun _ => rfl) ck182 h
  · skip
    rcases rcond2 h with ⟨hm, h⟩ | ⟨-, h⟩
    · rw [Nat.eq_of_beq_eq_true hm]; exact rck_ok (tb := tr183) (fun _ => rfl) ck183 h
    · cases h

def febabbbbb (m pc : Nat) : Option rI := bif Nat.beq m 184 then tb184 pc else (bif Nat.beq m 185 then tb185 pc else none)
set_option maxRecDepth 100000 in
theorem febabbbbb_ok {m pc : Nat} {f : rI} (h : febabbbbb m pc = some f) : decode (rB m) pc = .ok (f.1, f.2.1) ∧ rchk (rpool m) (rmaxl m) f.1 f.2.1 f.2.2 = true := by
  unfold febabbbbb at h
  rcases rcond2 h with ⟨hm, h⟩ | ⟨-, h⟩
  · rw [Nat.eq_of_beq_eq_true hm]; exact rck_ok (tb := tr184) (fun _ => rfl) ck184 h
  · skip
    rcases rcond2 h with ⟨hm, h⟩ | ⟨-, h⟩
    · rw [Nat.eq_of_beq_eq_true hm]; exact rck_ok (tb := tr185) (fun _ => rfl) ck185 h
    · cases h

def febabbbb (m pc : Nat) : Option rI := bif Nat.blt m 184 then febabbbba m pc else febabbbbb m pc
set_option maxRecDepth 100000 in
theorem febabbbb_ok {m pc : Nat} {f : rI} (h : febabbbb m pc = some f) : decode (rB m) pc = .ok (f.1, f.2.1) ∧ rchk (rpool m) (rmaxl m) f.1 f.2.1 f.2.2 = true := by
  unfold febabbbb at h
  rcases rcond2 h with ⟨-, h⟩ | ⟨-, h⟩
  · exact febabbbba_ok h
  · exact febabbbbb_ok h

def febabbb (m pc : Nat) : Option rI := bif Nat.blt m 182 then febabbba m pc else febabbbb m pc
set_option maxRecDepth 100000 in
theorem febabbb_ok {m pc : Nat} {f : rI} (h : febabbb m pc = some f) : decode (rB m) pc = .ok (f.1, f.2.1) ∧ rchk (rpool m) (rmaxl m) f.1 f.2.1 f.2.2 = true := by
  unfold febabbb at h
  rcases rcond2 h with ⟨-, h⟩ | ⟨-, h⟩
  · exact febabbba_ok h
  · exact febabbbb_ok h

def febabb (m pc : Nat) : Option rI := bif Nat.blt m 178 then febabba m pc else febabbb m pc
set_option maxRecDepth 100000 in
theorem febabb_ok {m pc : Nat} {f : rI} (h : febabb m pc = some f) : decode (rB m) pc = .ok (f.1, f.2.1) ∧ rchk (rpool m) (rmaxl m) f.1 f.2.1 f.2.2 = true := by
  unfold febabb at h
  rcases rcond2 h with ⟨-, h⟩ | ⟨-, h⟩
  · exact febabba_ok h
  · exact febabbb_ok h

def febab (m pc : Nat) : Option rI := bif Nat.blt m 170 then febaba m pc else febabb m pc
set_option maxRecDepth 100000 in
theorem febab_ok {m pc : Nat} {f : rI} (h : febab m pc = some f) : decode (rB m) pc = .ok (f.1, f.2.1) ∧ rchk (rpool m) (rmaxl m) f.1 f.2.1 f.2.2 = true := by
  unfold febab at h
  rcases rcond2 h with ⟨-, h⟩ | ⟨-, h⟩
  · exact febaba_ok h
  · exact febabb_ok h

def feba (m pc : Nat) : Option rI := bif Nat.blt m 155 then febaa m pc else febab m pc
set_option maxRecDepth 100000 in
theorem feba_ok {m pc : Nat} {f : rI} (h : feba m pc = some f) : decode (rB m) pc = .ok (f.1, f.2.1) ∧ rchk (rpool m) (rmaxl m) f.1 f.2.1 f.2.2 = true := by
  unfold feba at h
  rcases rcond2 h with ⟨-, h⟩ | ⟨-, h⟩
  · exact febaa_ok h
  · exact febab_ok h

def febbaaaa (m pc : Nat) : Option rI := bif Nat.beq m 186 then tb186 pc else (bif Nat.beq m 187 then tb187 pc else (bif Nat.beq m 188 then tb188 pc else none))
set_option maxRecDepth 100000 in
theorem febbaaaa_ok {m pc : Nat} {f : rI} (h : febbaaaa m pc = some f) : decode (rB m) pc = .ok (f.1, f.2.1) ∧ rchk (rpool m) (rmaxl m) f.1 f.2.1 f.2.2 = true := by
  unfold febbaaaa at h
  rcases rcond2 h with ⟨hm, h⟩ | ⟨-, h⟩
  · rw [Nat.eq_of_beq_eq_true hm]; exact rck_ok (tb := tr186) (fun _ => rfl) ck186 h
  · skip
    rcases rcond2 h with ⟨hm, h⟩ | ⟨-, h⟩
    · rw [Nat.eq_of_beq_eq_true hm]; exact rck_ok (tb := tr187) (fun _ => rfl) ck187 h
    · skip
      rcases rcond2 h with ⟨hm, h⟩ | ⟨-, h⟩
      · rw [Nat.eq_of_beq_eq_true hm]; exact rck_ok (tb := tr188) (fun _ => rfl) ck188 h
      · cases h

def febbaaaba (m pc : Nat) : Option rI := bif Nat.beq m 189 then tb189 pc else (bif Nat.beq m 190 then tb190 pc else none)
set_option maxRecDepth 100000 in
theorem febbaaaba_ok {m pc : Nat} {f : rI} (h : febbaaaba m pc = some f) : decode (rB m) pc = .ok (f.1, f.2.1) ∧ rchk (rpool m) (rmaxl m) f.1 f.2.1 f.2.2 = true := by
  unfold febbaaaba at h
  rcases rcond2 h with ⟨hm, h⟩ | ⟨-, h⟩
  · rw [Nat.eq_of_beq_eq_true hm]; exact rck_ok (tb := tr189) (fun _ => rfl) ck189 h
  · skip
    rcases rcond2 h with ⟨hm, h⟩ | ⟨-, h⟩
    · rw [Nat.eq_of_beq_eq_true hm]; exact rck_ok (tb := tr190) (fun _ => rfl) ck190 h
    · cases h

def febbaaabb (m pc : Nat) : Option rI := bif Nat.beq m 191 then tb191 pc else (bif Nat.beq m 192 then tb192 pc else none)
set_option maxRecDepth 100000 in
theorem febbaaabb_ok {m pc : Nat} {f : rI} (h : febbaaabb m pc = some f) : decode (rB m) pc = .ok (f.1, f.2.1) ∧ rchk (rpool m) (rmaxl m) f.1 f.2.1 f.2.2 = true := by
  unfold febbaaabb at h
  rcases rcond2 h with ⟨hm, h⟩ | ⟨-, h⟩
  · rw [Nat.eq_of_beq_eq_true hm]; exact rck_ok (tb := tr191) (fun _ => rfl) ck191 h
  · skip
    rcases rcond2 h with ⟨hm, h⟩ | ⟨-, h⟩
    · rw [Nat.eq_of_beq_eq_true hm]; exact rck_ok (tb := tr192) (fun _ => rfl) ck192 h
    · cases h

def febbaaab (m pc : Nat) : Option rI := bif Nat.blt m 191 then febbaaaba m pc else febbaaabb m pc
set_option maxRecDepth 100000 in
theorem febbaaab_ok {m pc : Nat} {f : rI} (h : febbaaab m pc = some f) : decode (rB m) pc = .ok (f.1, f.2.1) ∧ rchk (rpool m) (rmaxl m) f.1 f.2.1 f.2.2 = true := by
  unfold febbaaab at h
  rcases rcond2 h with ⟨-, h⟩ | ⟨-, h⟩
  · exact febbaaaba_ok h
  · exact febbaaabb_ok h

def febbaaa (m pc : Nat) : Option rI := bif Nat.blt m 189 then febbaaaa m pc else febbaaab m pc
set_option maxRecDepth 100000 in
theorem febbaaa_ok {m pc : Nat} {f : rI} (h : febbaaa m pc = some f) : decode (rB m) pc = .ok (f.1, f.2.1) ∧ rchk (rpool m) (rmaxl m) f.1 f.2.1 f.2.2 = true := by
  unfold febbaaa at h
  rcases rcond2 h with ⟨-, h⟩ | ⟨-, h⟩
  · exact febbaaaa_ok h
  · exact febbaaab_ok h

def febbaabaa (m pc : Nat) : Option rI := bif Nat.beq m 193 then tb193 pc else (bif Nat.beq m 194 then tb194 pc else none)
set_option maxRecDepth 100000 in
theorem febbaabaa_ok {m pc : Nat} {f : rI} (h : febbaabaa m pc = some f) : decode (rB m) pc = .ok (f.1, f.2.1) ∧ rchk (rpool m) (rmaxl m) f.1 f.2.1 f.2.2 = true := by
  unfold febbaabaa at h
  rcases rcond2 h with ⟨hm, h⟩ | ⟨-, h⟩
  · rw [Nat.eq_of_beq_eq_true hm]; exact rck_ok (tb := tr193) (fun _ => rfl) ck193 h
  · skip
    rcases rcond2 h with ⟨hm, h⟩ | ⟨-, h⟩
    · rw [Nat.eq_of_beq_eq_true hm]; exact rck_ok (tb := tr194) (fun _ => rfl) ck194 h
    · cases h

def febbaabab (m pc : Nat) : Option rI := bif Nat.beq m 195 then tb195 pc else (bif Nat.beq m 196 then tb196 pc else none)
set_option maxRecDepth 100000 in
theorem febbaabab_ok {m pc : Nat} {f : rI} (h : febbaabab m pc = some f) : decode (rB m) pc = .ok (f.1, f.2.1) ∧ rchk (rpool m) (rmaxl m) f.1 f.2.1 f.2.2 = true := by
  unfold febbaabab at h
  rcases rcond2 h with ⟨hm, h⟩ | ⟨-, h⟩
  · rw [Nat.eq_of_beq_eq_true hm]; exact rck_ok (tb := tr195) (fun _ => rfl) ck195 h
  · skip
    rcases rcond2 h with ⟨hm, h⟩ | ⟨-, h⟩
    · rw [Nat.eq_of_beq_eq_true hm]; exact rck_ok (tb := tr196) (fun _ => rfl) ck196 h
    · cases h

def febbaaba (m pc : Nat) : Option rI := bif Nat.blt m 195 then febbaabaa m pc else febbaabab m pc
set_option maxRecDepth 100000 in
theorem febbaaba_ok {m pc : Nat} {f : rI} (h : febbaaba m pc = some f) : decode (rB m) pc = .ok (f.1, f.2.1) ∧ rchk (rpool m) (rmaxl m) f.1 f.2.1 f.2.2 = true := by
  unfold febbaaba at h
  rcases rcond2 h with ⟨-, h⟩ | ⟨-, h⟩
  · exact febbaabaa_ok h
  · exact febbaabab_ok h

def febbaabba (m pc : Nat) : Option rI := bif Nat.beq m 197 then tb197 pc else (bif Nat.beq m 198 then tb198 pc else none)
set_option maxRecDepth 100000 in
theorem febbaabba_ok {m pc : Nat} {f : rI} (h : febbaabba m pc = some f) : decode (rB m) pc = .ok (f.1, f.2.1) ∧ rchk (rpool m) (rmaxl m) f.1 f.2.1 f.2.2 = true := by
  unfold febbaabba at h
  rcases rcond2 h with ⟨hm, h⟩ | ⟨-, h⟩
  · rw [Nat.eq_of_beq_eq_true hm]; exact rck_ok (tb := tr197) (fun _ => rfl) ck197 h
  · skip
    rcases rcond2 h with ⟨hm, h⟩ | ⟨-, h⟩
    · rw [Nat.eq_of_beq_eq_true hm]; exact rck_ok (tb := tr198) (fun _ => rfl) ck198 h
    · cases h

def febbaabbb (m pc : Nat) : Option rI := bif Nat.beq m 199 then tb199 pc else (bif Nat.beq m 200 then tb200 pc else none)
set_option maxRecDepth 100000 in
theorem febbaabbb_ok {m pc : Nat} {f : rI} (h : febbaabbb m pc = some f) : decode (rB m) pc = .ok (f.1, f.2.1) ∧ rchk (rpool m) (rmaxl m) f.1 f.2.1 f.2.2 = true := by
  unfold febbaabbb at h
  rcases rcond2 h with ⟨hm, h⟩ | ⟨-, h⟩
  · rw [Nat.eq_of_beq_eq_true hm]; exact rck_ok (tb := tr199) (fun _ => rfl) ck199 h
  · skip
    rcases rcond2 h with ⟨hm, h⟩ | ⟨-, h⟩
    · rw [Nat.eq_of_beq_eq_true hm]; exact rck_ok (tb := tr200) (fun _ => rfl) ck200 h
    · cases h

def febbaabb (m pc : Nat) : Option rI := bif Nat.blt m 199 then febbaabba m pc else febbaabbb m pc
set_option maxRecDepth 100000 in
theorem febbaabb_ok {m pc : Nat} {f : rI} (h : febbaabb m pc = some f) : decode (rB m) pc = .ok (f.1, f.2.1) ∧ rchk (rpool m) (rmaxl m) f.1 f.2.1 f.2.2 = true := by
  unfold febbaabb at h
  rcases rcond2 h with ⟨-, h⟩ | ⟨-, h⟩
  · exact febbaabba_ok h
  · exact febbaabbb_ok h

def febbaab (m pc : Nat) : Option rI := bif Nat.blt m 197 then febbaaba m pc else febbaabb m pc
set_option maxRecDepth 100000 in
theorem febbaab_ok {m pc : Nat} {f : rI} (h : febbaab m pc = some f) : decode (rB m) pc = .ok (f.1, f.2.1) ∧ rchk (rpool m) (rmaxl m) f.1 f.2.1 f.2.2 = true := by
  unfold febbaab at h
  rcases rcond2 h with ⟨-, h⟩ | ⟨-, h⟩
  · exact febbaaba_ok h
  · exact febbaabb_ok h

def febbaa (m pc : Nat) : Option rI := bif Nat.blt m 193 then febbaaa m pc else febbaab m pc
set_option maxRecDepth 100000 in
theorem febbaa_ok {m pc : Nat} {f : rI} (h : febbaa m pc = some f) : decode (rB m) pc = .ok (f.1, f.2.1) ∧ rchk (rpool m) (rmaxl m) f.1 f.2.1 f.2.2 = true := by
  unfold febbaa at h
  rcases rcond2 h with ⟨-, h⟩ | ⟨-, h⟩
  · exact febbaaa_ok h
  · exact febbaab_ok h

def febbabaaa (m pc : Nat) : Option rI := bif Nat.beq m 201 then tb201 pc else (bif Nat.beq m 202 then tb202 pc else none)
set_option maxRecDepth 100000 in
theorem febbabaaa_ok {m pc : Nat} {f : rI} (h : febbabaaa m pc = some f) : decode (rB m) pc = .ok (f.1, f.2.1) ∧ rchk (rpool m) (rmaxl m) f.1 f.2.1 f.2.2 = true := by
  unfold febbabaaa at h
  rcases rcond2 h with ⟨hm, h⟩ | ⟨-, h⟩
  · rw [Nat.eq_of_beq_eq_true hm]; exact rck_ok (tb := tr201) (fun _ => rfl) ck201 h
  · skip
    rcases rcond2 h with ⟨hm, h⟩ | ⟨-, h⟩
    · rw [Nat.eq_of_beq_eq_true hm]; exact rck_ok (tb := tr202) (fun _ => rfl) ck202 h
    · cases h

def febbabaab (m pc : Nat) : Option rI := bif Nat.beq m 203 then tb203 pc else (bif Nat.beq m 204 then tb204 pc else none)
set_option maxRecDepth 100000 in
theorem febbabaab_ok {m pc : Nat} {f : rI} (h : febbabaab m pc = some f) : decode (rB m) pc = .ok (f.1, f.2.1) ∧ rchk (rpool m) (rmaxl m) f.1 f.2.1 f.2.2 = true := by
  unfold febbabaab at h
  rcases rcond2 h with ⟨hm, h⟩ | ⟨-, h⟩
  · rw [Nat.eq_of_beq_eq_true hm]; exact rck_ok (tb := tr203) (fun _ => rfl) ck203 h
  · skip
    rcases rcond2 h with ⟨hm, h⟩ | ⟨-, h⟩
    · rw [Nat.eq_of_beq_eq_true hm]; exact rck_ok (tb := tr204) (fun _ => rfl) ck204 h
    · cases h

def febbabaa (m pc : Nat) : Option rI := bif Nat.blt m 203 then febbabaaa m pc else febbabaab m pc
set_option maxRecDepth 100000 in
theorem febbabaa_ok {m pc : Nat} {f : rI} (h : febbabaa m pc = some f) : decode (rB m) pc = .ok (f.1, f.2.1) ∧ rchk (rpool m) (rmaxl m) f.1 f.2.1 f.2.2 = true := by
  unfold febbabaa at h
  rcases rcond2 h with ⟨-, h⟩ | ⟨-, h⟩
  · exact febbabaaa_ok h
  · exact febbabaab_ok h

def febbababa (m pc : Nat) : Option rI := bif Nat.beq m 205 then tb205 pc else (bif Nat.beq m 206 then tb206 pc else none)
set_option maxRecDepth 100000 in
theorem febbababa_ok {m pc : Nat} {f : rI} (h : febbababa m pc = some f) : decode (rB m) pc = .ok (f.1, f.2.1) ∧ rchk (rpool m) (rmaxl m) f.1 f.2.1 f.2.2 = true := by
  unfold febbababa at h
  rcases rcond2 h with ⟨hm, h⟩ | ⟨-, h⟩
  · rw [Nat.eq_of_beq_eq_true hm]; exact rck_ok (tb := tr205) (fun _ => rfl) ck205 h
  · skip
    rcases rcond2 h with ⟨hm, h⟩ | ⟨-, h⟩
    · rw [Nat.eq_of_beq_eq_true hm]; exact rck_ok (tb := tr206) (fun _ => rfl) ck206 h
    · cases h

def febbababb (m pc : Nat) : Option rI := bif Nat.beq m 207 then tb207 pc else (bif Nat.beq m 208 then tb208 pc else none)
set_option maxRecDepth 100000 in
theorem febbababb_ok {m pc : Nat} {f : rI} (h : febbababb m pc = some f) : decode (rB m) pc = .ok (f.1, f.2.1) ∧ rchk (rpool m) (rmaxl m) f.1 f.2.1 f.2.2 = true := by
  unfold febbababb at h
  rcases rcond2 h with ⟨hm, h⟩ | ⟨-, h⟩
  · rw [Nat.eq_of_beq_eq_true hm]; exact rck_ok (tb := tr207) (fun _ => rfl) ck207 h
  · skip
    rcases rcond2 h with ⟨hm, h⟩ | ⟨-, h⟩
    · rw [Nat.eq_of_beq_eq_true hm]; exact rck_ok (tb := tr208) (fun _ => rfl) ck208 h
    · cases h

def febbabab (m pc : Nat) : Option rI := bif Nat.blt m 207 then febbababa m pc else febbababb m pc
set_option maxRecDepth 100000 in
theorem febbabab_ok {m pc : Nat} {f : rI} (h : febbabab m pc = some f) : decode (rB m) pc = .ok (f.1, f.2.1) ∧ rchk (rpool m) (rmaxl m) f.1 f.2.1 f.2.2 = true := by
  unfold febbabab at h
  rcases rcond2 h with ⟨-, h⟩ | ⟨-, h⟩
  · exact febbababa_ok h
  · exact febbababb_ok h

def febbaba (m pc : Nat) : Option rI := bif Nat.blt m 205 then febbabaa m pc else febbabab m pc
set_option maxRecDepth 100000 in
theorem febbaba_ok {m pc : Nat} {f : rI} (h : febbaba m pc = some f) : decode (rB m) pc = .ok (f.1, f.2.1) ∧ rchk (rpool m) (rmaxl m) f.1 f.2.1 f.2.2 = true := by
  unfold febbaba at h
  rcases rcond2 h with ⟨-, h⟩ | ⟨-, h⟩
  · exact febbabaa_ok h
  · exact febbabab_ok h

def febbabbaa (m pc : Nat) : Option rI := bif Nat.beq m 209 then tb209 pc else (bif Nat.beq m 210 then tb210 pc else none)
set_option maxRecDepth 100000 in
theorem febbabbaa_ok {m pc : Nat} {f : rI} (h : febbabbaa m pc = some f) : decode (rB m) pc = .ok (f.1, f.2.1) ∧ rchk (rpool m) (rmaxl m) f.1 f.2.1 f.2.2 = true := by
  unfold febbabbaa at h
  rcases rcond2 h with ⟨hm, h⟩ | ⟨-, h⟩
  · rw [Nat.eq_of_beq_eq_true hm]; exact rck_ok (tb := tr209) (fun _ => rfl) ck209 h
  · skip
    rcases rcond2 h with ⟨hm, h⟩ | ⟨-, h⟩
    · rw [Nat.eq_of_beq_eq_true hm]; exact rck_ok (tb := tr210) (fun _ => rfl) ck210 h
    · cases h

def febbabbab (m pc : Nat) : Option rI := bif Nat.beq m 211 then tb211 pc else (bif Nat.beq m 212 then tb212 pc else none)
set_option maxRecDepth 100000 in
theorem febbabbab_ok {m pc : Nat} {f : rI} (h : febbabbab m pc = some f) : decode (rB m) pc = .ok (f.1, f.2.1) ∧ rchk (rpool m) (rmaxl m) f.1 f.2.1 f.2.2 = true := by
  unfold febbabbab at h
  rcases rcond2 h with ⟨hm, h⟩ | ⟨-, h⟩
  · rw [Nat.eq_of_beq_eq_true hm]; exact rck_ok (tb := tr211) (fun _ => rfl) ck211 h
  · skip
    rcases rcond2 h with ⟨hm, h⟩ | ⟨-, h⟩
    · rw [Nat.eq_of_beq_eq_true hm]; exact rck_ok (tb := tr212) (fun _ => rfl) ck212 h
    · cases h

def febbabba (m pc : Nat) : Option rI := bif Nat.blt m 211 then febbabbaa m pc else febbabbab m pc
set_option maxRecDepth 100000 in
theorem febbabba_ok {m pc : Nat} {f : rI} (h : febbabba m pc = some f) : decode (rB m) pc = .ok (f.1, f.2.1) ∧ rchk (rpool m) (rmaxl m) f.1 f.2.1 f.2.2 = true := by
  unfold febbabba at h
  rcases rcond2 h with ⟨-, h⟩ | ⟨-, h⟩
  · exact febbabbaa_ok h
  · exact febbabbab_ok h

def febbabbba (m pc : Nat) : Option rI := bif Nat.beq m 213 then tb213 pc else (bif Nat.beq m 214 then tb214 pc else none)
set_option maxRecDepth 100000 in
theorem febbabbba_ok {m pc : Nat} {f : rI} (h : febbabbba m pc = some f) : decode (rB m) pc = .ok (f.1, f.2.1) ∧ rchk (rpool m) (rmaxl m) f.1 f.2.1 f.2.2 = true := by
  unfold febbabbba at h
  rcases rcond2 h with ⟨hm, h⟩ | ⟨-, h⟩
  · rw [Nat.eq_of_beq_eq_true hm]; exact rck_ok (tb := tr213) (fun _ => rfl) ck213 h
  · skip
    rcases rcond2 h with ⟨hm, h⟩ | ⟨-, h⟩
    · rw [Nat.eq_of_beq_eq_true hm]; exact rck_ok (tb := tr214) (fun _ => rfl) ck214 h
    · cases h

def febbabbbb (m pc : Nat) : Option rI := bif Nat.beq m 215 then tb215 pc else (bif Nat.beq m 216 then tb216 pc else none)
set_option maxRecDepth 100000 in
theorem febbabbbb_ok {m pc : Nat} {f : rI} (h : febbabbbb m pc = some f) : decode (rB m) pc = .ok (f.1, f.2.1) ∧ rchk (rpool m) (rmaxl m) f.1 f.2.1 f.2.2 = true := by
  unfold febbabbbb at h
  rcases rcond2 h with ⟨hm, h⟩ | ⟨-, h⟩
  · rw [Nat.eq_of_beq_eq_true hm]; exact rck_ok (tb := tr215) (fun _ => rfl) ck215 h
  · skip
    rcases rcond2 h with ⟨hm, h⟩ | ⟨-, h⟩
    · rw [Nat.eq_of_beq_eq_true hm]; exact rck_ok (tb := tr216) (fun _ => rfl) ck216 h
    · cases h

def febbabbb (m pc : Nat) : Option rI := bif Nat.blt m 215 then febbabbba m pc else febbabbbb m pc
set_option maxRecDepth 100000 in
theorem febbabbb_ok {m pc : Nat} {f : rI} (h : febbabbb m pc = some f) : decode (rB m) pc = .ok (f.1, f.2.1) ∧ rchk (rpool m) (rmaxl m) f.1 f.2.1 f.2.2 = true := by
  unfold febbabbb at h
  rcases rcond2 h with ⟨-, h⟩ | ⟨-, h⟩
  · exact febbabbba_ok h
  · exact febbabbbb_ok h

def febbabb (m pc : Nat) : Option rI := bif Nat.blt m 213 then febbabba m pc else febbabbb m pc
set_option maxRecDepth 100000 in
theorem febbabb_ok {m pc : Nat} {f : rI} (h : febbabb m pc = some f) : decode (rB m) pc = .ok (f.1, f.2.1) ∧ rchk (rpool m) (rmaxl m) f.1 f.2.1 f.2.2 = true := by
  unfold febbabb at h
  rcases rcond2 h with ⟨-, h⟩ | ⟨-, h⟩
  · exact febbabba_ok h
  · exact febbabbb_ok h

def febbab (m pc : Nat) : Option rI := bif Nat.blt m 209 then febbaba m pc else febbabb m pc
set_option maxRecDepth 100000 in
theorem febbab_ok {m pc : Nat} {f : rI} (h : febbab m pc = some f) : decode (rB m) pc = .ok (f.1, f.2.1) ∧ rchk (rpool m) (rmaxl m) f.1 f.2.1 f.2.2 = true := by
  unfold febbab at h
  rcases rcond2 h with ⟨-, h⟩ | ⟨-, h⟩
  · exact febbaba_ok h
  · exact febbabb_ok h

def febba (m pc : Nat) : Option rI := bif Nat.blt m 201 then febbaa m pc else febbab m pc
set_option maxRecDepth 100000 in
theorem febba_ok {m pc : Nat} {f : rI} (h : febba m pc = some f) : decode (rB m) pc = .ok (f.1, f.2.1) ∧ rchk (rpool m) (rmaxl m) f.1 f.2.1 f.2.2 = true := by
  unfold febba at h
  rcases rcond2 h with ⟨-, h⟩ | ⟨-, h⟩
  · exact febbaa_ok h
  · exact febbab_ok h

def febbbaaaa (m pc : Nat) : Option rI := bif Nat.beq m 217 then tb217 pc else (bif Nat.beq m 218 then tb218 pc else none)
set_option maxRecDepth 100000 in
theorem febbbaaaa_ok {m pc : Nat} {f : rI} (h : febbbaaaa m pc = some f) : decode (rB m) pc = .ok (f.1, f.2.1) ∧ rchk (rpool m) (rmaxl m) f.1 f.2.1 f.2.2 = true := by
  unfold febbbaaaa at h
  rcases rcond2 h with ⟨hm, h⟩ | ⟨-, h⟩
  · rw [Nat.eq_of_beq_eq_true hm]; exact rck_ok (tb := tr217) (fun _ => rfl) ck217 h
  · skip
    rcases rcond2 h with ⟨hm, h⟩ | ⟨-, h⟩
    · rw [Nat.eq_of_beq_eq_true hm]; exact rck_ok (tb := tr218) (fun _ => rfl) ck218 h
    · cases h

def febbbaaab (m pc : Nat) : Option rI := bif Nat.beq m 219 then tb219 pc else (bif Nat.beq m 220 then tb220 pc else none)
set_option maxRecDepth 100000 in
theorem febbbaaab_ok {m pc : Nat} {f : rI} (h : febbbaaab m pc = some f) : decode (rB m) pc = .ok (f.1, f.2.1) ∧ rchk (rpool m) (rmaxl m) f.1 f.2.1 f.2.2 = true := by
  unfold febbbaaab at h
  rcases rcond2 h with ⟨hm, h⟩ | ⟨-, h⟩
  · rw [Nat.eq_of_beq_eq_true hm]; exact rck_ok (tb := tr219) (fun _ => rfl) ck219 h
  · skip
    rcases rcond2 h with ⟨hm, h⟩ | ⟨-, h⟩
    · rw [Nat.eq_of_beq_eq_true hm]; exact rck_ok (tb := tr220) (fun _ => rfl) ck220 h
    · cases h

def febbbaaa (m pc : Nat) : Option rI := bif Nat.blt m 219 then febbbaaaa m pc else febbbaaab m pc
set_option maxRecDepth 100000 in
theorem febbbaaa_ok {m pc : Nat} {f : rI} (h : febbbaaa m pc = some f) : decode (rB m) pc = .ok (f.1, f.2.1) ∧ rchk (rpool m) (rmaxl m) f.1 f.2.1 f.2.2 = true := by
  unfold febbbaaa at h
  rcases rcond2 h with ⟨-, h⟩ | ⟨-, h⟩
  · exact febbbaaaa_ok h
  · exact febbbaaab_ok h

def febbbaaba (m pc : Nat) : Option rI := bif Nat.beq m 221 then tb221 pc else (bif Nat.beq m 222 then tb222 pc else none)
set_option maxRecDepth 100000 in
theorem febbbaaba_ok {m pc : Nat} {f : rI} (h : febbbaaba m pc = some f) : decode (rB m) pc = .ok (f.1, f.2.1) ∧ rchk (rpool m) (rmaxl m) f.1 f.2.1 f.2.2 = true := by
  unfold febbbaaba at h
  rcases rcond2 h with ⟨hm, h⟩ | ⟨-, h⟩
  · rw [Nat.eq_of_beq_eq_true hm]; exact rck_ok (tb := tr221) (fun _ => rfl) ck221 h
  · skip
    rcases rcond2 h with ⟨hm, h⟩ | ⟨-, h⟩
    · rw [Nat.eq_of_beq_eq_true hm]; exact rck_ok (tb := tr222) (fun _ => rfl) ck222 h
    · cases h

def febbbaabb (m pc : Nat) : Option rI := bif Nat.beq m 223 then tb223 pc else (bif Nat.beq m 224 then tb224 pc else none)
set_option maxRecDepth 100000 in
theorem febbbaabb_ok {m pc : Nat} {f : rI} (h : febbbaabb m pc = some f) : decode (rB m) pc = .ok (f.1, f.2.1) ∧ rchk (rpool m) (rmaxl m) f.1 f.2.1 f.2.2 = true := by
  unfold febbbaabb at h
  rcases rcond2 h with ⟨hm, h⟩ | ⟨-, h⟩
  · rw [Nat.eq_of_beq_eq_true hm]; exact rck_ok (tb := tr223) (fun _ => rfl) ck223 h
  · skip
    rcases rcond2 h with ⟨hm, h⟩ | ⟨-, h⟩
    · rw [Nat.eq_of_beq_eq_true hm]; exact rck_ok (tb := tr224) (fun _ => rfl) ck224 h
    · cases h

def febbbaab (m pc : Nat) : Option rI := bif Nat.blt m 223 then febbbaaba m pc else febbbaabb m pc
set_option maxRecDepth 100000 in
theorem febbbaab_ok {m pc : Nat} {f : rI} (h : febbbaab m pc = some f) : decode (rB m) pc = .ok (f.1, f.2.1) ∧ rchk (rpool m) (rmaxl m) f.1 f.2.1 f.2.2 = true := by
  unfold febbbaab at h
  rcases rcond2 h with ⟨-, h⟩ | ⟨-, h⟩
  · exact febbbaaba_ok h
  · exact febbbaabb_ok h

def febbbaa (m pc : Nat) : Option rI := bif Nat.blt m 221 then febbbaaa m pc else febbbaab m pc
set_option maxRecDepth 100000 in
theorem febbbaa_ok {m pc : Nat} {f : rI} (h : febbbaa m pc = some f) : decode (rB m) pc = .ok (f.1, f.2.1) ∧ rchk (rpool m) (rmaxl m) f.1 f.2.1 f.2.2 = true := by
  unfold febbbaa at h
  rcases rcond2 h with ⟨-, h⟩ | ⟨-, h⟩
  · exact febbbaaa_ok h
  · exact febbbaab_ok h

def febbbabaa (m pc : Nat) : Option rI := bif Nat.beq m 225 then tb225 pc else (bif Nat.beq m 226 then tb226 pc else none)
set_option maxRecDepth 100000 in
theorem febbbabaa_ok {m pc : Nat} {f : rI} (h : febbbabaa m pc = some f) : decode (rB m) pc = .ok (f.1, f.2.1) ∧ rchk (rpool m) (rmaxl m) f.1 f.2.1 f.2.2 = true := by
  unfold febbbabaa at h
  rcases rcond2 h with ⟨hm, h⟩ | ⟨-, h⟩
  · rw [Nat.eq_of_beq_eq_true hm]; exact rck_ok (tb := tr225) (fun _ => rfl) ck225 h
  · skip
    rcases rcond2 h with ⟨hm, h⟩ | ⟨-, h⟩
    · rw [Nat.eq_of_beq_eq_true hm]; exact rck_ok (tb := tr226) (fun _ => rfl) ck226 h
    · cases h

def febbbabab (m pc : Nat) : Option rI := bif Nat.beq m 227 then tb227 pc else (bif Nat.beq m 228 then tb228 pc else none)
set_option maxRecDepth 100000 in
theorem febbbabab_ok {m pc : Nat} {f : rI} (h : febbbabab m pc = some f) : decode (rB m) pc = .ok (f.1, f.2.1) ∧ rchk (rpool m) (rmaxl m) f.1 f.2.1 f.2.2 = true := by
  unfold febbbabab at h
  rcases rcond2 h with ⟨hm, h⟩ | ⟨-, h⟩
  · rw [Nat.eq_of_beq_eq_true hm]; exact rck_ok (tb := tr227) (fun _ => rfl) ck227 h
  · skip
    rcases rcond2 h with ⟨hm, h⟩ | ⟨-, h⟩
    · rw [Nat.eq_of_beq_eq_true hm]; exact rck_ok (tb := tr228) (fun _ => rfl) ck228 h
    · cases h

def febbbaba (m pc : Nat) : Option rI := bif Nat.blt m 227 then febbbabaa m pc else febbbabab m pc
set_option maxRecDepth 100000 in
theorem febbbaba_ok {m pc : Nat} {f : rI} (h : febbbaba m pc = some f) : decode (rB m) pc = .ok (f.1, f.2.1) ∧ rchk (rpool m) (rmaxl m) f.1 f.2.1 f.2.2 = true := by
  unfold febbbaba at h
  rcases rcond2 h with ⟨-, h⟩ | ⟨-, h⟩
  · exact febbbabaa_ok h
  · exact febbbabab_ok h

def febbbabba (m pc : Nat) : Option rI := bif Nat.beq m 229 then tb229 pc else (bif Nat.beq m 230 then tb230 pc else none)
set_option maxRecDepth 100000 in
theorem febbbabba_ok {m pc : Nat} {f : rI} (h : febbbabba m pc = some f) : decode (rB m) pc = .ok (f.1, f.2.1) ∧ rchk (rpool m) (rmaxl m) f.1 f.2.1 f.2.2 = true := by
  unfold febbbabba at h
  rcases rcond2 h with ⟨hm, h⟩ | ⟨-, h⟩
  · rw [Nat.eq_of_beq_eq_true hm]; exact rck_ok (tb := tr229) (fun _ => rfl) ck229 h
  · skip
    rcases rcond2 h with ⟨hm, h⟩ | ⟨-, h⟩
    · rw [Nat.eq_of_beq_eq_true hm]; exact rck_ok (tb := tr230) (fun _ => rfl) ck230 h
    · cases h

def febbbabbb (m pc : Nat) : Option rI := bif Nat.beq m 231 then tb231 pc else (bif Nat.beq m 232 then tb232 pc else none)
set_option maxRecDepth 100000 in
theorem febbbabbb_ok {m pc : Nat} {f : rI} (h : febbbabbb m pc = some f) : decode (rB m) pc = .ok (f.1, f.2.1) ∧ rchk (rpool m) (rmaxl m) f.1 f.2.1 f.2.2 = true := by
  unfold febbbabbb at h
  rcases rcond2 h with ⟨hm, h⟩ | ⟨-, h⟩
  · rw [Nat.eq_of_beq_eq_true hm]; exact rck_ok (tb := tr231) (fun _ => rfl) ck231 h
  · skip
    rcases rcond2 h with ⟨hm, h⟩ | ⟨-, h⟩
    · rw [Nat.eq_of_beq_eq_true hm]; exact rck_ok (tb := tr232) (fun _ => rfl) ck232 h
    · cases h

def febbbabb (m pc : Nat) : Option rI := bif Nat.blt m 231 then febbbabba m pc else febbbabbb m pc
set_option maxRecDepth 100000 in
theorem febbbabb_ok {m pc : Nat} {f : rI} (h : febbbabb m pc = some f) : decode (rB m) pc = .ok (f.1, f.2.1) ∧ rchk (rpool m) (rmaxl m) f.1 f.2.1 f.2.2 = true := by
  unfold febbbabb at h
  rcases rcond2 h with ⟨-, h⟩ | ⟨-, h⟩
  · exact febbbabba_ok h
  · exact febbbabbb_ok h

def febbbab (m pc : Nat) : Option rI := bif Nat.blt m 229 then febbbaba m pc else febbbabb m pc
set_option maxRecDepth 100000 in
theorem febbbab_ok {m pc : Nat} {f : rI} (h : febbbab m pc = some f) : decode (rB m) pc = .ok (f.1, f.2.1) ∧ rchk (rpool m) (rmaxl m) f.1 f.2.1 f.2.2 = true := by
  unfold febbbab at h
  rcases rcond2 h with ⟨-, h⟩ | ⟨-, h⟩
  · exact febbbaba_ok h
  · exact febbbabb_ok h

def febbba (m pc : Nat) : Option rI := bif Nat.blt m 225 then febbbaa m pc else febbbab m pc
set_option maxRecDepth 100000 in
theorem febbba_ok {m pc : Nat} {f : rI} (h : febbba m pc = some f) : decode (rB m) pc = .ok (f.1, f.2.1) ∧ rchk (rpool m) (rmaxl m) f.1 f.2.1 f.2.2 = true := by
  unfold febbba at h
  rcases rcond2 h with ⟨-, h⟩ | ⟨-, h⟩
  · exact febbbaa_ok h
  · exact febbbab_ok h

def febbbbaaa (m pc : Nat) : Option rI := bif Nat.beq m 233 then tb233 pc else (bif Nat.beq m 234 then tb234 pc else none)
set_option maxRecDepth 100000 in
theorem febbbbaaa_ok {m pc : Nat} {f : rI} (h : febbbbaaa m pc = some f) : decode (rB m) pc = .ok (f.1, f.2.1) ∧ rchk (rpool m) (rmaxl m) f.1 f.2.1 f.2.2 = true := by
  unfold febbbbaaa at h
  rcases rcond2 h with ⟨hm, h⟩ | ⟨-, h⟩
  · rw [Nat.eq_of_beq_eq_true hm]; exact rck_ok (tb := tr233) (fun _ => rfl) ck233 h
  · skip
    rcases rcond2 h with ⟨hm, h⟩ | ⟨-, h⟩
    · rw [Nat.eq_of_beq_eq_true hm]; exact rck_ok (tb := tr234) (fun _ => rfl) ck234 h
    · cases h

def febbbbaab (m pc : Nat) : Option rI := bif Nat.beq m 235 then tb235 pc else (bif Nat.beq m 236 then tb236 pc else none)
set_option maxRecDepth 100000 in
theorem febbbbaab_ok {m pc : Nat} {f : rI} (h : febbbbaab m pc = some f) : decode (rB m) pc = .ok (f.1, f.2.1) ∧ rchk (rpool m) (rmaxl m) f.1 f.2.1 f.2.2 = true := by
  unfold febbbbaab at h
  rcases rcond2 h with ⟨hm, h⟩ | ⟨-, h⟩
  · rw [Nat.eq_of_beq_eq_true hm]; exact rck_ok (tb := tr235) (fun _ => rfl) ck235 h
  · skip
    rcases rcond2 h with ⟨hm, h⟩ | ⟨-, h⟩
    · rw [Nat.eq_of_beq_eq_true hm]; exact rck_ok (tb := tr236) (fun _ => rfl) ck236 h
    · cases h

def febbbbaa (m pc : Nat) : Option rI := bif Nat.blt m 235 then febbbbaaa m pc else febbbbaab m pc
set_option maxRecDepth 100000 in
theorem febbbbaa_ok {m pc : Nat} {f : rI} (h : febbbbaa m pc = some f) : decode (rB m) pc = .ok (f.1, f.2.1) ∧ rchk (rpool m) (rmaxl m) f.1 f.2.1 f.2.2 = true := by
  unfold febbbbaa at h
  rcases rcond2 h with ⟨-, h⟩ | ⟨-, h⟩
  · exact febbbbaaa_ok h
  · exact febbbbaab_ok h

def febbbbaba (m pc : Nat) : Option rI := bif Nat.beq m 237 then tb237 pc else (bif Nat.beq m 238 then tb238 pc else none)
set_option maxRecDepth 100000 in
theorem febbbbaba_ok {m pc : Nat} {f : rI} (h : febbbbaba m pc = some f) : decode (rB m) pc = .ok (f.1, f.2.1) ∧ rchk (rpool m) (rmaxl m) f.1 f.2.1 f.2.2 = true := by
  unfold febbbbaba at h
  rcases rcond2 h with ⟨hm, h⟩ | ⟨-, h⟩
  · rw [Nat.eq_of_beq_eq_true hm]; exact rck_ok (tb := tr237) (fun _ => rfl) ck237 h
  · skip
    rcases rcond2 h with ⟨hm, h⟩ | ⟨-, h⟩
    · rw [Nat.eq_of_beq_eq_true hm]; exact rck_ok (tb := tr238) (fun _ => rfl) ck238 h
    · cases h

def febbbbabb (m pc : Nat) : Option rI := bif Nat.beq m 239 then tb239 pc else (bif Nat.beq m 240 then tb240 pc else none)
set_option maxRecDepth 100000 in
theorem febbbbabb_ok {m pc : Nat} {f : rI} (h : febbbbabb m pc = some f) : decode (rB m) pc = .ok (f.1, f.2.1) ∧ rchk (rpool m) (rmaxl m) f.1 f.2.1 f.2.2 = true := by
  unfold febbbbabb at h
  rcases rcond2 h with ⟨hm, h⟩ | ⟨-, h⟩
  · rw [Nat.eq_of_beq_eq_true hm]; exact rck_ok (tb := tr239) (fun _ => rfl) ck239 h
  · skip
    rcases rcond2 h with ⟨hm, h⟩ | ⟨-, h⟩
    · rw [Nat.eq_of_beq_eq_true hm]; exact rck_ok (tb := tr240) (fun _ => rfl) ck240 h
    · cases h

def febbbbab (m pc : Nat) : Option rI := bif Nat.blt m 239 then febbbbaba m pc else febbbbabb m pc
set_option maxRecDepth 100000 in
theorem febbbbab_ok {m pc : Nat} {f : rI} (h : febbbbab m pc = some f) : decode (rB m) pc = .ok (f.1, f.2.1) ∧ rchk (rpool m) (rmaxl m) f.1 f.2.1 f.2.2 = true := by
  unfold febbbbab at h
  rcases rcond2 h with ⟨-, h⟩ | ⟨-, h⟩
  · exact febbbbaba_ok h
  · exact febbbbabb_ok h

def febbbba (m pc : Nat) : Option rI := bif Nat.blt m 237 then febbbbaa m pc else febbbbab m pc
set_option maxRecDepth 100000 in
theorem febbbba_ok {m pc : Nat} {f : rI} (h : febbbba m pc = some f) : decode (rB m) pc = .ok (f.1, f.2.1) ∧ rchk (rpool m) (rmaxl m) f.1 f.2.1 f.2.2 = true := by
  unfold febbbba at h
  rcases rcond2 h with ⟨-, h⟩ | ⟨-, h⟩
  · exact febbbbaa_ok h
  · exact febbbbab_ok h

def febbbbbaa (m pc : Nat) : Option rI := bif Nat.beq m 241 then tb241 pc else (bif Nat.beq m 242 then tb242 pc else none)
set_option maxRecDepth 100000 in
theorem febbbbbaa_ok {m pc : Nat} {f : rI} (h : febbbbbaa m pc = some f) : decode (rB m) pc = .ok (f.1, f.2.1) ∧ rchk (rpool m) (rmaxl m) f.1 f.2.1 f.2.2 = true := by
  unfold febbbbbaa at h
  rcases rcond2 h with ⟨hm, h⟩ | ⟨-, h⟩
  · rw [Nat.eq_of_beq_eq_true hm]; exact rck_ok (tb := tr241) (fun _ => rfl) ck241 h
  · skip
    rcases rcond2 h with ⟨hm, h⟩ | ⟨-, h⟩
    · rw [Nat.eq_of_beq_eq_true hm]; exact rck_ok (tb := tr242) (fun _ => rfl) ck242 h
    · cases h

def febbbbbab (m pc : Nat) : Option rI := bif Nat.beq m 243 then tb243 pc else (bif Nat.beq m 244 then tb244 pc else none)
set_option maxRecDepth 100000 in
theorem febbbbbab_ok {m pc : Nat} {f : rI} (h : febbbbbab m pc = some f) : decode (rB m) pc = .ok (f.1, f.2.1) ∧ rchk (rpool m) (rmaxl m) f.1 f.2.1 f.2.2 = true := by
  unfold febbbbbab at h
  rcases rcond2 h with ⟨hm, h⟩ | ⟨-, h⟩
  · rw [Nat.eq_of_beq_eq_true hm]; exact rck_ok (tb := tr243) (fun _ => rfl) ck243 h
  · skip
    rcases rcond2 h with ⟨hm, h⟩ | ⟨-, h⟩
    · rw [Nat.eq_of_beq_eq_true hm]; exact rck_ok (tb := tr244) (fun _ => rfl) ck244 h
    · cases h

def febbbbba (m pc : Nat) : Option rI := bif Nat.blt m 243 then febbbbbaa m pc else febbbbbab m pc
set_option maxRecDepth 100000 in
theorem febbbbba_ok {m pc : Nat} {f : rI} (h : febbbbba m pc = some f) : decode (rB m) pc = .ok (f.1, f.2.1) ∧ rchk (rpool m) (rmaxl m) f.1 f.2.1 f.2.2 = true := by
  unfold febbbbba at h
  rcases rcond2 h with ⟨-, h⟩ | ⟨-, h⟩
  · exact febbbbbaa_ok h
  · exact febbbbbab_ok h

def febbbbbba (m pc : Nat) : Option rI := bif Nat.beq m 245 then tb245 pc else (bif Nat.beq m 246 then tb246 pc else none)
set_option maxRecDepth 100000 in
theorem febbbbbba_ok {m pc : Nat} {f : rI} (h : febbbbbba m pc = some f) : decode (rB m) pc = .ok (f.1, f.2.1) ∧ rchk (rpool m) (rmaxl m) f.1 f.2.1 f.2.2 = true := by
  unfold febbbbbba at h
  rcases rcond2 h with ⟨hm, h⟩ | ⟨-, h⟩
  · rw [Nat.eq_of_beq_eq_true hm]; exact rck_ok (tb := tr245) (fun _ => rfl) ck245 h
  · skip
    rcases rcond2 h with ⟨hm, h⟩ | ⟨-, h⟩
    · rw [Nat.eq_of_beq_eq_true hm]; exact rck_ok (tb := tr246) (fun _ => rfl) ck246 h
    · cases h

def febbbbbbb (m pc : Nat) : Option rI := bif Nat.beq m 247 then tb247 pc else (bif Nat.beq m 248 then tb248 pc else none)
set_option maxRecDepth 100000 in
theorem febbbbbbb_ok {m pc : Nat} {f : rI} (h : febbbbbbb m pc = some f) : decode (rB m) pc = .ok (f.1, f.2.1) ∧ rchk (rpool m) (rmaxl m) f.1 f.2.1 f.2.2 = true := by
  unfold febbbbbbb at h
  rcases rcond2 h with ⟨hm, h⟩ | ⟨-, h⟩
  · rw [Nat.eq_of_beq_eq_true hm]; exact rck_ok (tb := tr247) (fun _ => rfl) ck247 h
  · skip
    rcases rcond2 h with ⟨hm, h⟩ | ⟨-, h⟩
    · rw [Nat.eq_of_beq_eq_true hm]; exact rck_ok (tb := tr248) (fun _ => rfl) ck248 h
    · cases h

def febbbbbb (m pc : Nat) : Option rI := bif Nat.blt m 247 then febbbbbba m pc else febbbbbbb m pc
set_option maxRecDepth 100000 in
theorem febbbbbb_ok {m pc : Nat} {f : rI} (h : febbbbbb m pc = some f) : decode (rB m) pc = .ok (f.1, f.2.1) ∧ rchk (rpool m) (rmaxl m) f.1 f.2.1 f.2.2 = true := by
  unfold febbbbbb at h
  rcases rcond2 h with ⟨-, h⟩ | ⟨-, h⟩
  · exact febbbbbba_ok h
  · exact febbbbbbb_ok h

def febbbbb (m pc : Nat) : Option rI := bif Nat.blt m 245 then febbbbba m pc else febbbbbb m pc
set_option maxRecDepth 100000 in
theorem febbbbb_ok {m pc : Nat} {f : rI} (h : febbbbb m pc = some f) : decode (rB m) pc = .ok (f.1, f.2.1) ∧ rchk (rpool m) (rmaxl m) f.1 f.2.1 f.2.2 = true := by
  unfold febbbbb at h
  rcases rcond2 h with ⟨-, h⟩ | ⟨-, h⟩
  · exact febbbbba_ok h
  · exact febbbbbb_ok h

def febbbb (m pc : Nat) : Option rI := bif Nat.blt m 241 then febbbba m pc else febbbbb m pc
set_option maxRecDepth 100000 in
theorem febbbb_ok {m pc : Nat} {f : rI} (h : febbbb m pc = some f) : decode (rB m) pc = .ok (f.1, f.2.1) ∧ rchk (rpool m) (rmaxl m) f.1 f.2.1 f.2.2 = true := by
  unfold febbbb at h
  rcases rcond2 h with ⟨-, h⟩ | ⟨-, h⟩
  · exact febbbba_ok h
  · exact febbbbb_ok h

def febbb (m pc : Nat) : Option rI := bif Nat.blt m 233 then febbba m pc else febbbb m pc
set_option maxRecDepth 100000 in
theorem febbb_ok {m pc : Nat} {f : rI} (h : febbb m pc = some f) : decode (rB m) pc = .ok (f.1, f.2.1) ∧ rchk (rpool m) (rmaxl m) f.1 f.2.1 f.2.2 = true := by
  unfold febbb at h
  rcases rcond2 h with ⟨-, h⟩ | ⟨-, h⟩
  · exact febbba_ok h
  · exact febbbb_ok h

def febb (m pc : Nat) : Option rI := bif Nat.blt m 217 then febba m pc else febbb m pc
set_option maxRecDepth 100000 in
theorem febb_ok {m pc : Nat} {f : rI} (h : febb m pc = some f) : decode (rB m) pc = .ok (f.1, f.2.1) ∧ rchk (rpool m) (rmaxl m) f.1 f.2.1 f.2.2 = true := by
  unfold febb at h
  rcases rcond2 h with ⟨-, h⟩ | ⟨-, h⟩
  · exact febba_ok h
  · exact febbb_ok h

def feb (m pc : Nat) : Option rI := bif Nat.blt m 186 then feba m pc else febb m pc
set_option maxRecDepth 100000 in
theorem feb_ok {m pc : Nat} {f : rI} (h : feb m pc = some f) : decode (rB m) pc = .ok (f.1, f.2.1) ∧ rchk (rpool m) (rmaxl m) f.1 f.2.1 f.2.2 = true := by
  unfold feb at h
  rcases rcond2 h with ⟨-, h⟩ | ⟨-, h⟩
  · exact feba_ok h
  · exact febb_ok h

def fe (m pc : Nat) : Option rI := bif Nat.blt m 124 then fea m pc else feb m pc
set_option maxRecDepth 100000 in
theorem fe_ok {m pc : Nat} {f : rI} (h : fe m pc = some f) : decode (rB m) pc = .ok (f.1, f.2.1) ∧ rchk (rpool m) (rmaxl m) f.1 f.2.1 f.2.2 = true := by
  unfold fe at h
  rcases rcond2 h with ⟨-, h⟩ | ⟨-, h⟩
  · exact fea_ok h
  · exact feb_ok h

abbrev rfetch : Nat → Nat → Option rI := fe
theorem rfetch_ok {m pc : Nat} {f : rI} (h : rfetch m pc = some f) : decode (rB m) pc = .ok (f.1, f.2.1) ∧ rchk (rpool m) (rmaxl m) f.1 f.2.1 f.2.2 = true := fe_ok h
