set_option maxHeartbeats 4000000 in
set_option maxRecDepth 100000 in
theorem cov20 (xs : Nat → Int32) (h0 : (rop 3 (xs 0) (31 : Int32)) = (20 : Int32)) : rOk 6 xs := by
  by_cases t1_0 : (xs 1) = (0 : Int32)
  · cases b2 : rcmp 2 (xs 2) (0 : Int32) with
    | true =>
      exact rOk_of rr936 (show ((rop 3 (xs 0) (31 : Int32)) = (20 : Int32)) ∧ ((xs 1) = (0 : Int32)) ∧ (rcmp 2 (xs 2) (0 : Int32) = true) ∧ ((xs 1) = (0 : Int32)) ∧ (rcmp 2 (xs 2) (0 : Int32) = true) ∧ True from ⟨h0, t1_0, b2, t1_0, b2, trivial⟩)
    | false =>
      cases b3 : rcmp 5 (xs 2) (16384 : Int32) with
      | true =>
        exact rOk_of rr935 (show ((rop 3 (xs 0) (31 : Int32)) = (20 : Int32)) ∧ ((xs 1) = (0 : Int32)) ∧ (rcmp 2 (xs 2) (0 : Int32) = false) ∧ (rcmp 5 (xs 2) (16384 : Int32) = true) ∧ ((xs 1) = (0 : Int32)) ∧ (rcmp 2 (xs 2) (0 : Int32) = false) ∧ (rcmp 4 (xs 2) (16384 : Int32) = false) ∧ (rcmp 0 (rop 0 (rop 0 (xs 2) (rop 9 (xs 2) (255 : Int32))) (16 : Int32)) (rop 0 (rop 0 (xs 2) (rop 9 (xs 2) (255 : Int32))) (16 : Int32)) = true) ∧ True from ⟨h0, t1_0, b2, b3, t1_0, b2, (rg4f (by have z0 := ri2f b2; have z1 := ri5t b3; have y0 := li_0; have y1 := li_16384; omega)), rc_refl, trivial⟩)
      | false =>
        exact rOk_of rr934 (show ((rop 3 (xs 0) (31 : Int32)) = (20 : Int32)) ∧ ((xs 1) = (0 : Int32)) ∧ (rcmp 2 (xs 2) (0 : Int32) = false) ∧ (rcmp 5 (xs 2) (16384 : Int32) = false) ∧ ((xs 1) = (0 : Int32)) ∧ (rcmp 2 (xs 2) (0 : Int32) = false) ∧ (rcmp 4 (xs 2) (16384 : Int32) = true) ∧ True from ⟨h0, t1_0, b2, b3, t1_0, b2, (rg4t (by have z0 := ri2f b2; have z1 := ri5f b3; have y0 := li_0; have y1 := li_16384; omega)), trivial⟩)
  by_cases t1_1 : (xs 1) = (1 : Int32)
  · cases b2 : rcmp 2 (xs 2) (0 : Int32) with
    | true =>
      exact rOk_of rr939 (show ((rop 3 (xs 0) (31 : Int32)) = (20 : Int32)) ∧ ((xs 1) = (1 : Int32)) ∧ (rcmp 2 (xs 2) (0 : Int32) = true) ∧ ((xs 1) = (1 : Int32)) ∧ (rcmp 2 (xs 2) (0 : Int32) = true) ∧ True from ⟨h0, t1_1, b2, t1_1, b2, trivial⟩)
    | false =>
      cases b3 : rcmp 5 (xs 2) (16384 : Int32) with
      | true =>
        exact rOk_of rr938 (show ((rop 3 (xs 0) (31 : Int32)) = (20 : Int32)) ∧ ((xs 1) = (1 : Int32)) ∧ (rcmp 2 (xs 2) (0 : Int32) = false) ∧ (rcmp 5 (xs 2) (16384 : Int32) = true) ∧ ((xs 1) = (1 : Int32)) ∧ (rcmp 2 (xs 2) (0 : Int32) = false) ∧ (rcmp 4 (xs 2) (16384 : Int32) = false) ∧ (rcmp 0 (rop 0 (rop 0 (27 : Int32) (rop 2 (8 : Int32) (rop 9 (rop 1 (rop 0 (xs 2) (65536 : Int32)) (1 : Int32)) (65536 : Int32)))) (xs 2)) (rop 0 (rop 0 (27 : Int32) (rop 2 (8 : Int32) (rop 9 (rop 1 (rop 0 (xs 2) (65536 : Int32)) (1 : Int32)) (65536 : Int32)))) (xs 2)) = true) ∧ True from ⟨h0, t1_1, b2, b3, t1_1, b2, (rg4f (by have z0 := ri2f b2; have z1 := ri5t b3; have y0 := li_0; have y1 := li_16384; omega)), rc_refl, trivial⟩)
      | false =>
        exact rOk_of rr937 (show ((rop 3 (xs 0) (31 : Int32)) = (20 : Int32)) ∧ ((xs 1) = (1 : Int32)) ∧ (rcmp 2 (xs 2) (0 : Int32) = false) ∧ (rcmp 5 (xs 2) (16384 : Int32) = false) ∧ ((xs 1) = (1 : Int32)) ∧ (rcmp 2 (xs 2) (0 : Int32) = false) ∧ (rcmp 4 (xs 2) (16384 : Int32) = true) ∧ True from ⟨h0, t1_1, b2, b3, t1_1, b2, (rg4t (by have z0 := ri2f b2; have z1 := ri5f b3; have y0 := li_0; have y1 := li_16384; omega)), trivial⟩)
  by_cases t1_2 : (xs 1) = (2 : Int32)
  · cases b2 : rcmp 2 (xs 2) (0 : Int32) with
    | true =>
      exact rOk_of rr942 (show ((rop 3 (xs 0) (31 : Int32)) = (20 : Int32)) ∧ ((xs 1) = (2 : Int32)) ∧ (rcmp 2 (xs 2) (0 : Int32) = true) ∧ ((xs 1) = (2 : Int32)) ∧ (rcmp 2 (xs 2) (0 : Int32) = true) ∧ True from ⟨h0, t1_2, b2, t1_2, b2, trivial⟩)
    | false =>
      cases b3 : rcmp 5 (xs 2) (16384 : Int32) with
      | true =>
        exact rOk_of rr941 (show ((rop 3 (xs 0) (31 : Int32)) = (20 : Int32)) ∧ ((xs 1) = (2 : Int32)) ∧ (rcmp 2 (xs 2) (0 : Int32) = false) ∧ (rcmp 5 (xs 2) (16384 : Int32) = true) ∧ ((xs 1) = (2 : Int32)) ∧ (rcmp 2 (xs 2) (0 : Int32) = false) ∧ (rcmp 4 (xs 2) (16384 : Int32) = false) ∧ (rcmp 0 (rop 0 (rop 0 (32 : Int32) (xs 2)) (rop 9 (xs 2) (6 : Int32))) (rop 0 (rop 0 (32 : Int32) (xs 2)) (rop 9 (xs 2) (6 : Int32))) = true) ∧ True from ⟨h0, t1_2, b2, b3, t1_2, b2, (rg4f (by have z0 := ri2f b2; have z1 := ri5t b3; have y0 := li_0; have y1 := li_16384; omega)), rc_refl, trivial⟩)
      | false =>
        exact rOk_of rr940 (show ((rop 3 (xs 0) (31 : Int32)) = (20 : Int32)) ∧ ((xs 1) = (2 : Int32)) ∧ (rcmp 2 (xs 2) (0 : Int32) = false) ∧ (rcmp 5 (xs 2) (16384 : Int32) = false) ∧ ((xs 1) = (2 : Int32)) ∧ (rcmp 2 (xs 2) (0 : Int32) = false) ∧ (rcmp 4 (xs 2) (16384 : Int32) = true) ∧ True from ⟨h0, t1_2, b2, b3, t1_2, b2, (rg4t (by have z0 := ri2f b2; have z1 := ri5f b3; have y0 := li_0; have y1 := li_16384; omega)), trivial⟩)
  by_cases t1_3 : (xs 1) = (3 : Int32)
  · cases b2 : rcmp 2 (xs 2) (0 : Int32) with
    | true =>
      exact rOk_of rr945 (show ((rop 3 (xs 0) (31 : Int32)) = (20 : Int32)) ∧ ((xs 1) = (3 : Int32)) ∧ (rcmp 2 (xs 2) (0 : Int32) = true) ∧ ((xs 1) = (3 : Int32)) ∧ (rcmp 2 (xs 2) (0 : Int32) = true) ∧ True from ⟨h0, t1_3, b2, t1_3, b2, trivial⟩)
    | false =>
      cases b3 : rcmp 5 (xs 2) (16384 : Int32) with
      | true =>
        exact rOk_of rr944 (show ((rop 3 (xs 0) (31 : Int32)) = (20 : Int32)) ∧ ((xs 1) = (3 : Int32)) ∧ (rcmp 2 (xs 2) (0 : Int32) = false) ∧ (rcmp 5 (xs 2) (16384 : Int32) = true) ∧ ((xs 1) = (3 : Int32)) ∧ (rcmp 2 (xs 2) (0 : Int32) = false) ∧ (rcmp 4 (xs 2) (16384 : Int32) = false) ∧ (rcmp 0 (rop 0 (rop 0 (rop 0 (10 : Int32) (xs 2)) (rop 2 (8 : Int32) (rop 9 (rop 1 (rop 0 (xs 2) (65536 : Int32)) (1 : Int32)) (65536 : Int32)))) (0 : Int32)) (rop 0 (rop 0 (rop 0 (10 : Int32) (xs 2)) (rop 2 (8 : Int32) (rop 9 (rop 1 (rop 0 (xs 2) (65536 : Int32)) (1 : Int32)) (65536 : Int32)))) (0 : Int32)) = true) ∧ True from ⟨h0, t1_3, b2, b3, t1_3, b2, (rg4f (by have z0 := ri2f b2; have z1 := ri5t b3; have y0 := li_0; have y1 := li_16384; omega)), rc_refl, trivial⟩)
      | false =>
        exact rOk_of rr943 (show ((rop 3 (xs 0) (31 : Int32)) = (20 : Int32)) ∧ ((xs 1) = (3 : Int32)) ∧ (rcmp 2 (xs 2) (0 : Int32) = false) ∧ (rcmp 5 (xs 2) (16384 : Int32) = false) ∧ ((xs 1) = (3 : Int32)) ∧ (rcmp 2 (xs 2) (0 : Int32) = false) ∧ (rcmp 4 (xs 2) (16384 : Int32) = true) ∧ True from ⟨h0, t1_3, b2, b3, t1_3, b2, (rg4t (by have z0 := ri2f b2; have z1 := ri5f b3; have y0 := li_0; have y1 := li_16384; omega)), trivial⟩)
  by_cases t1_4 : (xs 1) = (4 : Int32)
  · cases b2 : rcmp 2 (xs 2) (0 : Int32) with
    | true =>
      exact rOk_of rr949 (show ((rop 3 (xs 0) (31 : Int32)) = (20 : Int32)) ∧ ((xs 1) = (4 : Int32)) ∧ (rcmp 2 (xs 2) (0 : Int32) = true) ∧ ((xs 1) = (4 : Int32)) ∧ (rcmp 2 (xs 2) (0 : Int32) = true) ∧ True from ⟨h0, t1_4, b2, t1_4, b2, trivial⟩)
    | false =>
      cases b3 : rcmp 5 (xs 2) (16384 : Int32) with
      | true =>
        cases b4 : rcmp 1 (xs 2) (0 : Int32) with
        | true =>
          exact rOk_of rr948 (show ((rop 3 (xs 0) (31 : Int32)) = (20 : Int32)) ∧ ((xs 1) = (4 : Int32)) ∧ (rcmp 2 (xs 2) (0 : Int32) = false) ∧ (rcmp 5 (xs 2) (16384 : Int32) = true) ∧ (rcmp 1 (xs 2) (0 : Int32) = true) ∧ ((xs 1) = (4 : Int32)) ∧ (rcmp 2 (xs 2) (0 : Int32) = false) ∧ (rcmp 4 (xs 2) (16384 : Int32) = false) ∧ (rcmp 3 (rop 9 (rop 1 (rop 0 (xs 2) (65536 : Int32)) (1 : Int32)) (65536 : Int32)) (1 : Int32) = true) ∧ (rcmp 0 (rop 0 (rop 0 (22 : Int32) (rop 2 (3 : Int32) (rop 9 (rop 1 (rop 0 (xs 2) (65536 : Int32)) (1 : Int32)) (65536 : Int32)))) (xs 2)) (rop 0 (rop 0 (22 : Int32) (rop 2 (3 : Int32) (rop 9 (rop 1 (rop 0 (xs 2) (65536 : Int32)) (1 : Int32)) (65536 : Int32)))) (xs 2)) = true) ∧ True from ⟨h0, t1_4, b2, b3, b4, t1_4, b2, (rg4f (by have z0 := ri2f b2; have z1 := ri5t b3; have z2 := ri1t b4; have y0 := li_0; have y1 := li_16384; omega)), (rsp20t (by have z0 := ri2f b2; have z1 := ri5t b3; have z2 := ri1t b4; have y0 := li_0; have y1 := li_16384; omega)), rc_refl, trivial⟩)
        | false =>
          exact rOk_of rr947 (show ((rop 3 (xs 0) (31 : Int32)) = (20 : Int32)) ∧ ((xs 1) = (4 : Int32)) ∧ (rcmp 2 (xs 2) (0 : Int32) = false) ∧ (rcmp 5 (xs 2) (16384 : Int32) = true) ∧ (rcmp 1 (xs 2) (0 : Int32) = false) ∧ ((xs 1) = (4 : Int32)) ∧ (rcmp 2 (xs 2) (0 : Int32) = false) ∧ (rcmp 4 (xs 2) (16384 : Int32) = false) ∧ (rcmp 3 (rop 9 (rop 1 (rop 0 (xs 2) (65536 : Int32)) (1 : Int32)) (65536 : Int32)) (1 : Int32) = false) ∧ (rcmp 0 (rop 0 (25 : Int32) (xs 2)) (rop 0 (25 : Int32) (xs 2)) = true) ∧ True from ⟨h0, t1_4, b2, b3, b4, t1_4, b2, (rg4f (by have z0 := ri2f b2; have z1 := ri5t b3; have z2 := ri1f b4; have y0 := li_0; have y1 := li_16384; omega)), (rsp20f (by have z0 := ri2f b2; have z1 := ri5t b3; have z2 := ri1f b4; have y0 := li_0; have y1 := li_16384; omega)), rc_refl, trivial⟩)
      | false =>
        exact rOk_of rr946 (show ((rop 3 (xs 0) (31 : Int32)) = (20 : Int32)) ∧ ((xs 1) = (4 : Int32)) ∧ (rcmp 2 (xs 2) (0 : Int32) = false) ∧ (rcmp 5 (xs 2) (16384 : Int32) = false) ∧ ((xs 1) = (4 : Int32)) ∧ (rcmp 2 (xs 2) (0 : Int32) = false) ∧ (rcmp 4 (xs 2) (16384 : Int32) = true) ∧ True from ⟨h0, t1_4, b2, b3, t1_4, b2, (rg4t (by have z0 := ri2f b2; have z1 := ri5f b3; have y0 := li_0; have y1 := li_16384; omega)), trivial⟩)
  by_cases t1_5 : (xs 1) = (5 : Int32)
  · cases b2 : rcmp 2 (xs 2) (0 : Int32) with
    | true =>
      exact rOk_of rr952 (show ((rop 3 (xs 0) (31 : Int32)) = (20 : Int32)) ∧ ((xs 1) = (5 : Int32)) ∧ (rcmp 2 (xs 2) (0 : Int32) = true) ∧ ((xs 1) = (5 : Int32)) ∧ (rcmp 2 (xs 2) (0 : Int32) = true) ∧ True from ⟨h0, t1_5, b2, t1_5, b2, trivial⟩)
    | false =>
      cases b3 : rcmp 5 (xs 2) (16384 : Int32) with
      | true =>
        exact rOk_of rr951 (show ((rop 3 (xs 0) (31 : Int32)) = (20 : Int32)) ∧ ((xs 1) = (5 : Int32)) ∧ (rcmp 2 (xs 2) (0 : Int32) = false) ∧ (rcmp 5 (xs 2) (16384 : Int32) = true) ∧ ((xs 1) = (5 : Int32)) ∧ (rcmp 2 (xs 2) (0 : Int32) = false) ∧ (rcmp 4 (xs 2) (16384 : Int32) = false) ∧ (rcmp 0 (rop 0 (700 : Int32) (xs 2)) (rop 0 (700 : Int32) (xs 2)) = true) ∧ True from ⟨h0, t1_5, b2, b3, t1_5, b2, (rg4f (by have z0 := ri2f b2; have z1 := ri5t b3; have y0 := li_0; have y1 := li_16384; omega)), rc_refl, trivial⟩)
      | false =>
        exact rOk_of rr950 (show ((rop 3 (xs 0) (31 : Int32)) = (20 : Int32)) ∧ ((xs 1) = (5 : Int32)) ∧ (rcmp 2 (xs 2) (0 : Int32) = false) ∧ (rcmp 5 (xs 2) (16384 : Int32) = false) ∧ ((xs 1) = (5 : Int32)) ∧ (rcmp 2 (xs 2) (0 : Int32) = false) ∧ (rcmp 4 (xs 2) (16384 : Int32) = true) ∧ True from ⟨h0, t1_5, b2, b3, t1_5, b2, (rg4t (by have z0 := ri2f b2; have z1 := ri5f b3; have y0 := li_0; have y1 := li_16384; omega)), trivial⟩)
  cases b1 : rcmp 2 (xs 1) (0 : Int32) with
  | true =>
    exact rOk_of rr933 (show ((rop 3 (xs 0) (31 : Int32)) = (20 : Int32)) ∧ (rcmp 2 (xs 1) (0 : Int32) = true) ∧ (rcmp 2 (xs 1) (0 : Int32) = true) ∧ True from ⟨h0, b1, b1, trivial⟩)
  | false =>
    exact rOk_of rr932 (show ((rop 3 (xs 0) (31 : Int32)) = (20 : Int32)) ∧ (rcmp 2 (xs 1) (0 : Int32) = false) ∧ (rcmp 4 (xs 1) (5 : Int32) = true) ∧ (rcmp 2 (xs 1) (0 : Int32) = false) ∧ (rcmp 4 (xs 1) (5 : Int32) = true) ∧ True from ⟨h0, b1, (rg4t (by have z0 := rine t1_0; have z1 := rine t1_1; have z2 := rine t1_2; have z3 := rine t1_3; have z4 := rine t1_4; have z5 := rine t1_5; have z6 := ri2f b1; have y0 := li_0; have y1 := li_1; have y2 := li_2; have y3 := li_3; have y4 := li_4; have y5 := li_5; omega)), b1, (rg4t (by have z0 := rine t1_0; have z1 := rine t1_1; have z2 := rine t1_2; have z3 := rine t1_3; have z4 := rine t1_4; have z5 := rine t1_5; have z6 := ri2f b1; have y0 := li_0; have y1 := li_1; have y2 := li_2; have y3 := li_3; have y4 := li_4; have y5 := li_5; omega)), trivial⟩)
