set_option maxHeartbeats 4000000 in
set_option maxRecDepth 100000 in
theorem cov11 (xs : Nat → Int32) (h0 : (rop 3 (xs 0) (31 : Int32)) = (11 : Int32)) : rOk 6 xs := by
  by_cases t1_0 : (xs 1) = (0 : Int32)
  · by_cases t2_0 : (xs 2) = (0 : Int32)
    · by_cases t3_0 : (xs 3) = (0 : Int32)
      · obtain ⟨e7, h7⟩ : ∃ e : Int64, e = (xs 4).toInt64 := ⟨_, rfl⟩
        obtain ⟨e8, h8⟩ : ∃ e : Int64, e = rsop 0 e7 (32 : Int32) := ⟨_, rfl⟩
        obtain ⟨e9, h9⟩ : ∃ e : Int64, e = (xs 5).toInt64 := ⟨_, rfl⟩
        obtain ⟨e10, h10⟩ : ∃ e : Int64, e = rlop 3 e9 (4294967295 : Int64) := ⟨_, rfl⟩
        obtain ⟨e11, h11⟩ : ∃ e : Int64, e = rlop 4 e8 e10 := ⟨_, rfl⟩
        obtain ⟨e12, h12⟩ : ∃ e : Int64, e = rlop 0 e11 (2870177450012600261 : Int64) := ⟨_, rfl⟩
        obtain ⟨e13, h13⟩ : ∃ e : Int64, e = rlop 0 e12 (0 : Int64) := ⟨_, rfl⟩
        obtain ⟨e14, h14⟩ : ∃ e : Int64, e = rsop 2 e13 (33 : Int32) := ⟨_, rfl⟩
        obtain ⟨e15, h15⟩ : ∃ e : Int64, e = rlop 5 e13 e14 := ⟨_, rfl⟩
        obtain ⟨e16, h16⟩ : ∃ e : Int64, e = rlop 2 e15 (-4417276706812531889 : Int64) := ⟨_, rfl⟩
        obtain ⟨e17, h17⟩ : ∃ e : Int64, e = rsop 2 e16 (29 : Int32) := ⟨_, rfl⟩
        obtain ⟨e18, h18⟩ : ∃ e : Int64, e = rlop 5 e16 e17 := ⟨_, rfl⟩
        obtain ⟨e19, h19⟩ : ∃ e : Int64, e = rlop 2 e18 (1609587929392839161 : Int64) := ⟨_, rfl⟩
        obtain ⟨e20, h20⟩ : ∃ e : Int64, e = rsop 2 e19 (32 : Int32) := ⟨_, rfl⟩
        obtain ⟨e21, h21⟩ : ∃ e : Int64, e = rlop 5 e19 e20 := ⟨_, rfl⟩
        exact rOk_of2 rr362 (rqv xs [(6, (rop 3 (xs 0) (31 : Int32))), (37, (lg_cmp e21 e21))] [(7, e7), (8, e8), (9, e9), (10, e10), (11, e11), (12, e12), (13, e13), (14, e14), (15, e15), (16, e16), (17, e17), (18, e18), (19, e19), (20, e20), (21, e21), (22, e7), (23, e8), (24, e9), (25, e10), (26, e11), (27, e12), (28, e13), (29, e14), (30, e15), (31, e16), (32, e17), (33, e18), (34, e19), (35, e20), (36, e21)]) (rqv_x rfl) (rh_c rfl (rh_c (show (rop 3 (xs 0) (31 : Int32)) = (11 : Int32) from h0) (rh_c (show (xs 1) = (0 : Int32) from t1_0) (rh_c (show (xs 2) = (0 : Int32) from t2_0) (rh_c (show (xs 3) = (0 : Int32) from t3_0) (rh_c h7 (rh_c h8 (rh_c h9 (rh_c h10 (rh_c h11 (rh_c h12 (rh_c h13 (rh_c h14 (rh_c h15 (rh_c h16 (rh_c h17 (rh_c h18 (rh_c h19 (rh_c h20 (rh_c h21 (rh_c (show (xs 1) = (0 : Int32) from t1_0) (rh_c (show (xs 2) = (0 : Int32) from t2_0) (rh_c (show (xs 3) = (0 : Int32) from t3_0) (rh_c h7 (rh_c h8 (rh_c h9 (rh_c h10 (rh_c h11 (rh_c h12 (rh_c h13 (rh_c h14 (rh_c h15 (rh_c h16 (rh_c h17 (rh_c h18 (rh_c h19 (rh_c h20 (rh_c h21 (rh_c rfl (rh_c rc_lrefl (rholds_nil _)))))))))))))))))))))))))))))))))))))))))
      cases b3 : rcmp 4 (0 : Int32) (xs 3) with
      | true =>
        obtain ⟨e7, h7⟩ : ∃ e : Int64, e = (xs 4).toInt64 := ⟨_, rfl⟩
        obtain ⟨e8, h8⟩ : ∃ e : Int64, e = rsop 0 e7 (32 : Int32) := ⟨_, rfl⟩
        obtain ⟨e9, h9⟩ : ∃ e : Int64, e = (xs 5).toInt64 := ⟨_, rfl⟩
        obtain ⟨e10, h10⟩ : ∃ e : Int64, e = rlop 3 e9 (4294967295 : Int64) := ⟨_, rfl⟩
        obtain ⟨e11, h11⟩ : ∃ e : Int64, e = rlop 4 e8 e10 := ⟨_, rfl⟩
        obtain ⟨e12, h12⟩ : ∃ e : Int64, e = rlop 0 e11 (2870177450012600261 : Int64) := ⟨_, rfl⟩
        obtain ⟨e13, h13⟩ : ∃ e : Int64, e = rlop 0 e12 (0 : Int64) := ⟨_, rfl⟩
        obtain ⟨e14, h14⟩ : ∃ e : Int64, e = rsop 2 e13 (33 : Int32) := ⟨_, rfl⟩
        obtain ⟨e15, h15⟩ : ∃ e : Int64, e = rlop 5 e13 e14 := ⟨_, rfl⟩
        obtain ⟨e16, h16⟩ : ∃ e : Int64, e = rlop 2 e15 (-4417276706812531889 : Int64) := ⟨_, rfl⟩
        obtain ⟨e17, h17⟩ : ∃ e : Int64, e = rsop 2 e16 (29 : Int32) := ⟨_, rfl⟩
        obtain ⟨e18, h18⟩ : ∃ e : Int64, e = rlop 5 e16 e17 := ⟨_, rfl⟩
        obtain ⟨e19, h19⟩ : ∃ e : Int64, e = rlop 2 e18 (1609587929392839161 : Int64) := ⟨_, rfl⟩
        obtain ⟨e20, h20⟩ : ∃ e : Int64, e = rsop 2 e19 (32 : Int32) := ⟨_, rfl⟩
        obtain ⟨e21, h21⟩ : ∃ e : Int64, e = rlop 5 e19 e20 := ⟨_, rfl⟩
        exact rOk_of2 rr361 (rqv xs [(6, (rop 3 (xs 0) (31 : Int32))), (37, (lg_cmp e21 e21))] [(7, e7), (8, e8), (9, e9), (10, e10), (11, e11), (12, e12), (13, e13), (14, e14), (15, e15), (16, e16), (17, e17), (18, e18), (19, e19), (20, e20), (21, e21), (22, e7), (23, e8), (24, e9), (25, e10), (26, e11), (27, e12), (28, e13), (29, e14), (30, e15), (31, e16), (32, e17), (33, e18), (34, e19), (35, e20), (36, e21)]) (rqv_x rfl) (rh_c rfl (rh_c (show (rop 3 (xs 0) (31 : Int32)) = (11 : Int32) from h0) (rh_c (show (xs 1) = (0 : Int32) from t1_0) (rh_c (show (xs 2) = (0 : Int32) from t2_0) (rh_c h7 (rh_c h8 (rh_c h9 (rh_c h10 (rh_c h11 (rh_c (show rcmp 4 (0 : Int32) (xs 3) = true from b3) (rh_c h12 (rh_c h13 (rh_c h14 (rh_c h15 (rh_c h16 (rh_c h17 (rh_c h18 (rh_c h19 (rh_c h20 (rh_c h21 (rh_c (show (xs 1) = (0 : Int32) from t1_0) (rh_c (show (xs 2) = (0 : Int32) from t2_0) (rh_c h7 (rh_c h8 (rh_c h9 (rh_c h10 (rh_c h11 (rh_c (show rcmp 4 (0 : Int32) (xs 3) = true from b3) (rh_c h12 (rh_c h13 (rh_c h14 (rh_c h15 (rh_c h16 (rh_c h17 (rh_c h18 (rh_c h19 (rh_c h20 (rh_c h21 (rh_c rfl (rh_c rc_lrefl (rholds_nil _)))))))))))))))))))))))))))))))))))))))))
      | false =>
        obtain ⟨e7, h7⟩ : ∃ e : Int64, e = (xs 4).toInt64 := ⟨_, rfl⟩
        obtain ⟨e8, h8⟩ : ∃ e : Int64, e = rsop 0 e7 (32 : Int32) := ⟨_, rfl⟩
        obtain ⟨e9, h9⟩ : ∃ e : Int64, e = (xs 5).toInt64 := ⟨_, rfl⟩
        obtain ⟨e10, h10⟩ : ∃ e : Int64, e = rlop 3 e9 (4294967295 : Int64) := ⟨_, rfl⟩
        obtain ⟨e11, h11⟩ : ∃ e : Int64, e = rlop 4 e8 e10 := ⟨_, rfl⟩
        obtain ⟨e12, h12⟩ : ∃ e : Int64, e = rlop 0 e11 (2870177450012600261 : Int64) := ⟨_, rfl⟩
        obtain ⟨e13, h13⟩ : ∃ e : Int64, e = rlop 0 e12 (0 : Int64) := ⟨_, rfl⟩
        obtain ⟨e14, h14⟩ : ∃ e : Int64, e = rsop 2 e13 (33 : Int32) := ⟨_, rfl⟩
        obtain ⟨e15, h15⟩ : ∃ e : Int64, e = rlop 5 e13 e14 := ⟨_, rfl⟩
        obtain ⟨e16, h16⟩ : ∃ e : Int64, e = rlop 2 e15 (-4417276706812531889 : Int64) := ⟨_, rfl⟩
        obtain ⟨e17, h17⟩ : ∃ e : Int64, e = rsop 2 e16 (29 : Int32) := ⟨_, rfl⟩
        obtain ⟨e18, h18⟩ : ∃ e : Int64, e = rlop 5 e16 e17 := ⟨_, rfl⟩
        obtain ⟨e19, h19⟩ : ∃ e : Int64, e = rlop 2 e18 (1609587929392839161 : Int64) := ⟨_, rfl⟩
        obtain ⟨e20, h20⟩ : ∃ e : Int64, e = rsop 2 e19 (32 : Int32) := ⟨_, rfl⟩
        obtain ⟨e21, h21⟩ : ∃ e : Int64, e = rlop 5 e19 e20 := ⟨_, rfl⟩
        exact rOk_of2 rr360 (rqv xs [(6, (rop 3 (xs 0) (31 : Int32))), (37, (lg_cmp e21 e21))] [(7, e7), (8, e8), (9, e9), (10, e10), (11, e11), (12, e12), (13, e13), (14, e14), (15, e15), (16, e16), (17, e17), (18, e18), (19, e19), (20, e20), (21, e21), (22, e7), (23, e8), (24, e9), (25, e10), (26, e11), (27, e12), (28, e13), (29, e14), (30, e15), (31, e16), (32, e17), (33, e18), (34, e19), (35, e20), (36, e21)]) (rqv_x rfl) (rh_c rfl (rh_c (show (rop 3 (xs 0) (31 : Int32)) = (11 : Int32) from h0) (rh_c (show (xs 1) = (0 : Int32) from t1_0) (rh_c (show (xs 2) = (0 : Int32) from t2_0) (rh_c h7 (rh_c h8 (rh_c h9 (rh_c h10 (rh_c h11 (rh_c (show rcmp 4 (0 : Int32) (xs 3) = false from b3) (rh_c (show rcmp 4 (xs 3) (0 : Int32) = true from (rg4t (by have z0 := rine t3_0; have z1 := ri4f b3; have y0 := li_0; omega))) (rh_c h12 (rh_c h13 (rh_c h14 (rh_c h15 (rh_c h16 (rh_c h17 (rh_c h18 (rh_c h19 (rh_c h20 (rh_c h21 (rh_c (show (xs 1) = (0 : Int32) from t1_0) (rh_c (show (xs 2) = (0 : Int32) from t2_0) (rh_c h7 (rh_c h8 (rh_c h9 (rh_c h10 (rh_c h11 (rh_c (show rcmp 4 (0 : Int32) (xs 3) = false from b3) (rh_c (show rcmp 4 (xs 3) (0 : Int32) = true from (rg4t (by have z0 := rine t3_0; have z1 := ri4f b3; have y0 := li_0; omega))) (rh_c h12 (rh_c h13 (rh_c h14 (rh_c h15 (rh_c h16 (rh_c h17 (rh_c h18 (rh_c h19 (rh_c h20 (rh_c h21 (rh_c rfl (rh_c rc_lrefl (rholds_nil _)))))))))))))))))))))))))))))))))))))))))))
    cases b2 : rcmp 4 (0 : Int32) (xs 2) with
    | true =>
      obtain ⟨e7, h7⟩ : ∃ e : Int64, e = (xs 4).toInt64 := ⟨_, rfl⟩
      obtain ⟨e8, h8⟩ : ∃ e : Int64, e = rsop 0 e7 (32 : Int32) := ⟨_, rfl⟩
      obtain ⟨e9, h9⟩ : ∃ e : Int64, e = (xs 5).toInt64 := ⟨_, rfl⟩
      obtain ⟨e10, h10⟩ : ∃ e : Int64, e = rlop 3 e9 (4294967295 : Int64) := ⟨_, rfl⟩
      obtain ⟨e11, h11⟩ : ∃ e : Int64, e = rlop 4 e8 e10 := ⟨_, rfl⟩
      obtain ⟨e12, h12⟩ : ∃ e : Int64, e = rlop 0 e11 (2870177450012600261 : Int64) := ⟨_, rfl⟩
      obtain ⟨e13, h13⟩ : ∃ e : Int64, e = rlop 0 e12 (0 : Int64) := ⟨_, rfl⟩
      obtain ⟨e14, h14⟩ : ∃ e : Int64, e = rsop 2 e13 (33 : Int32) := ⟨_, rfl⟩
      obtain ⟨e15, h15⟩ : ∃ e : Int64, e = rlop 5 e13 e14 := ⟨_, rfl⟩
      obtain ⟨e16, h16⟩ : ∃ e : Int64, e = rlop 2 e15 (-4417276706812531889 : Int64) := ⟨_, rfl⟩
      obtain ⟨e17, h17⟩ : ∃ e : Int64, e = rsop 2 e16 (29 : Int32) := ⟨_, rfl⟩
      obtain ⟨e18, h18⟩ : ∃ e : Int64, e = rlop 5 e16 e17 := ⟨_, rfl⟩
      obtain ⟨e19, h19⟩ : ∃ e : Int64, e = rlop 2 e18 (1609587929392839161 : Int64) := ⟨_, rfl⟩
      obtain ⟨e20, h20⟩ : ∃ e : Int64, e = rsop 2 e19 (32 : Int32) := ⟨_, rfl⟩
      obtain ⟨e21, h21⟩ : ∃ e : Int64, e = rlop 5 e19 e20 := ⟨_, rfl⟩
      exact rOk_of2 rr359 (rqv xs [(6, (rop 3 (xs 0) (31 : Int32))), (37, (lg_cmp e21 e21))] [(7, e7), (8, e8), (9, e9), (10, e10), (11, e11), (12, e12), (13, e13), (14, e14), (15, e15), (16, e16), (17, e17), (18, e18), (19, e19), (20, e20), (21, e21), (22, e7), (23, e8), (24, e9), (25, e10), (26, e11), (27, e12), (28, e13), (29, e14), (30, e15), (31, e16), (32, e17), (33, e18), (34, e19), (35, e20), (36, e21)]) (rqv_x rfl) (rh_c rfl (rh_c (show (rop 3 (xs 0) (31 : Int32)) = (11 : Int32) from h0) (rh_c (show (xs 1) = (0 : Int32) from t1_0) (rh_c h7 (rh_c h8 (rh_c h9 (rh_c h10 (rh_c h11 (rh_c (show rcmp 4 (0 : Int32) (xs 2) = true from b2) (rh_c h12 (rh_c h13 (rh_c h14 (rh_c h15 (rh_c h16 (rh_c h17 (rh_c h18 (rh_c h19 (rh_c h20 (rh_c h21 (rh_c (show (xs 1) = (0 : Int32) from t1_0) (rh_c h7 (rh_c h8 (rh_c h9 (rh_c h10 (rh_c h11 (rh_c (show rcmp 2 (xs 2) (0 : Int32) = true from (rg2t (by have z0 := rine t2_0; have z1 := ri4t b2; have y0 := li_0; omega))) (rh_c h12 (rh_c h13 (rh_c h14 (rh_c h15 (rh_c h16 (rh_c h17 (rh_c h18 (rh_c h19 (rh_c h20 (rh_c h21 (rh_c rfl (rh_c rc_lrefl (rholds_nil _)))))))))))))))))))))))))))))))))))))))
    | false =>
      cases b3 : rcmp 4 (xs 2) (xs 3) with
      | true =>
        obtain ⟨e7, h7⟩ : ∃ e : Int64, e = (xs 4).toInt64 := ⟨_, rfl⟩
        obtain ⟨e8, h8⟩ : ∃ e : Int64, e = rsop 0 e7 (32 : Int32) := ⟨_, rfl⟩
        obtain ⟨e9, h9⟩ : ∃ e : Int64, e = (xs 5).toInt64 := ⟨_, rfl⟩
        obtain ⟨e10, h10⟩ : ∃ e : Int64, e = rlop 3 e9 (4294967295 : Int64) := ⟨_, rfl⟩
        obtain ⟨e11, h11⟩ : ∃ e : Int64, e = rlop 4 e8 e10 := ⟨_, rfl⟩
        obtain ⟨e12, h12⟩ : ∃ e : Int64, e = rlop 0 e11 (2870177450012600261 : Int64) := ⟨_, rfl⟩
        obtain ⟨e13, h13⟩ : ∃ e : Int64, e = rlop 0 e12 (0 : Int64) := ⟨_, rfl⟩
        obtain ⟨e14, h14⟩ : ∃ e : Int64, e = rsop 2 e13 (33 : Int32) := ⟨_, rfl⟩
        obtain ⟨e15, h15⟩ : ∃ e : Int64, e = rlop 5 e13 e14 := ⟨_, rfl⟩
        obtain ⟨e16, h16⟩ : ∃ e : Int64, e = rlop 2 e15 (-4417276706812531889 : Int64) := ⟨_, rfl⟩
        obtain ⟨e17, h17⟩ : ∃ e : Int64, e = rsop 2 e16 (29 : Int32) := ⟨_, rfl⟩
        obtain ⟨e18, h18⟩ : ∃ e : Int64, e = rlop 5 e16 e17 := ⟨_, rfl⟩
        obtain ⟨e19, h19⟩ : ∃ e : Int64, e = rlop 2 e18 (1609587929392839161 : Int64) := ⟨_, rfl⟩
        obtain ⟨e20, h20⟩ : ∃ e : Int64, e = rsop 2 e19 (32 : Int32) := ⟨_, rfl⟩
        obtain ⟨e21, h21⟩ : ∃ e : Int64, e = rlop 5 e19 e20 := ⟨_, rfl⟩
        exact rOk_of2 rr358 (rqv xs [(6, (rop 3 (xs 0) (31 : Int32))), (37, (lg_cmp e21 e21))] [(7, e7), (8, e8), (9, e9), (10, e10), (11, e11), (12, e12), (13, e13), (14, e14), (15, e15), (16, e16), (17, e17), (18, e18), (19, e19), (20, e20), (21, e21), (22, e7), (23, e8), (24, e9), (25, e10), (26, e11), (27, e12), (28, e13), (29, e14), (30, e15), (31, e16), (32, e17), (33, e18), (34, e19), (35, e20), (36, e21)]) (rqv_x rfl) (rh_c rfl (rh_c (show (rop 3 (xs 0) (31 : Int32)) = (11 : Int32) from h0) (rh_c (show (xs 1) = (0 : Int32) from t1_0) (rh_c h7 (rh_c h8 (rh_c h9 (rh_c h10 (rh_c h11 (rh_c (show rcmp 4 (0 : Int32) (xs 2) = false from b2) (rh_c (show rcmp 4 (xs 2) (xs 3) = true from b3) (rh_c h12 (rh_c h13 (rh_c h14 (rh_c h15 (rh_c h16 (rh_c h17 (rh_c h18 (rh_c h19 (rh_c h20 (rh_c h21 (rh_c (show (xs 1) = (0 : Int32) from t1_0) (rh_c h7 (rh_c h8 (rh_c h9 (rh_c h10 (rh_c h11 (rh_c (show rcmp 2 (xs 2) (0 : Int32) = false from (rg2f (by have z0 := rine t2_0; have z1 := ri4f b2; have z2 := ri4t b3; have y0 := li_0; omega))) (rh_c (show rcmp 4 (xs 2) (xs 3) = true from b3) (rh_c h12 (rh_c h13 (rh_c h14 (rh_c h15 (rh_c h16 (rh_c h17 (rh_c h18 (rh_c h19 (rh_c h20 (rh_c h21 (rh_c rfl (rh_c rc_lrefl (rholds_nil _)))))))))))))))))))))))))))))))))))))))))
      | false =>
        obtain ⟨e7, h7⟩ : ∃ e : Int64, e = (xs 4).toInt64 := ⟨_, rfl⟩
        obtain ⟨e8, h8⟩ : ∃ e : Int64, e = rsop 0 e7 (32 : Int32) := ⟨_, rfl⟩
        obtain ⟨e9, h9⟩ : ∃ e : Int64, e = (xs 5).toInt64 := ⟨_, rfl⟩
        obtain ⟨e10, h10⟩ : ∃ e : Int64, e = rlop 3 e9 (4294967295 : Int64) := ⟨_, rfl⟩
        obtain ⟨e11, h11⟩ : ∃ e : Int64, e = rlop 4 e8 e10 := ⟨_, rfl⟩
        obtain ⟨e12, h12⟩ : ∃ e : Int64, e = rlop 0 e11 (2870177450012600261 : Int64) := ⟨_, rfl⟩
        obtain ⟨e13, h13⟩ : ∃ e : Int64, e = rlop 0 e12 (0 : Int64) := ⟨_, rfl⟩
        obtain ⟨e14, h14⟩ : ∃ e : Int64, e = rsop 2 e13 (33 : Int32) := ⟨_, rfl⟩
        obtain ⟨e15, h15⟩ : ∃ e : Int64, e = rlop 5 e13 e14 := ⟨_, rfl⟩
        obtain ⟨e16, h16⟩ : ∃ e : Int64, e = rlop 2 e15 (-4417276706812531889 : Int64) := ⟨_, rfl⟩
        obtain ⟨e17, h17⟩ : ∃ e : Int64, e = rsop 2 e16 (29 : Int32) := ⟨_, rfl⟩
        obtain ⟨e18, h18⟩ : ∃ e : Int64, e = rlop 5 e16 e17 := ⟨_, rfl⟩
        obtain ⟨e19, h19⟩ : ∃ e : Int64, e = rlop 2 e18 (1609587929392839161 : Int64) := ⟨_, rfl⟩
        obtain ⟨e20, h20⟩ : ∃ e : Int64, e = rsop 2 e19 (32 : Int32) := ⟨_, rfl⟩
        obtain ⟨e21, h21⟩ : ∃ e : Int64, e = rlop 5 e19 e20 := ⟨_, rfl⟩
        exact rOk_of2 rr357 (rqv xs [(6, (rop 3 (xs 0) (31 : Int32))), (37, (lg_cmp e21 e21))] [(7, e7), (8, e8), (9, e9), (10, e10), (11, e11), (12, e12), (13, e13), (14, e14), (15, e15), (16, e16), (17, e17), (18, e18), (19, e19), (20, e20), (21, e21), (22, e7), (23, e8), (24, e9), (25, e10), (26, e11), (27, e12), (28, e13), (29, e14), (30, e15), (31, e16), (32, e17), (33, e18), (34, e19), (35, e20), (36, e21)]) (rqv_x rfl) (rh_c rfl (rh_c (show (rop 3 (xs 0) (31 : Int32)) = (11 : Int32) from h0) (rh_c (show (xs 1) = (0 : Int32) from t1_0) (rh_c h7 (rh_c h8 (rh_c h9 (rh_c h10 (rh_c h11 (rh_c (show rcmp 4 (0 : Int32) (xs 2) = false from b2) (rh_c (show rcmp 4 (xs 2) (xs 3) = false from b3) (rh_c (show rcmp 4 (xs 3) (0 : Int32) = true from (rg4t (by have z0 := rine t2_0; have z1 := ri4f b2; have z2 := ri4f b3; have y0 := li_0; omega))) (rh_c h12 (rh_c h13 (rh_c h14 (rh_c h15 (rh_c h16 (rh_c h17 (rh_c h18 (rh_c h19 (rh_c h20 (rh_c h21 (rh_c (show (xs 1) = (0 : Int32) from t1_0) (rh_c h7 (rh_c h8 (rh_c h9 (rh_c h10 (rh_c h11 (rh_c (show rcmp 2 (xs 2) (0 : Int32) = false from (rg2f (by have z0 := rine t2_0; have z1 := ri4f b2; have z2 := ri4f b3; have y0 := li_0; omega))) (rh_c (show rcmp 4 (xs 2) (xs 3) = false from b3) (rh_c (show rcmp 4 (xs 3) (0 : Int32) = true from (rg4t (by have z0 := rine t2_0; have z1 := ri4f b2; have z2 := ri4f b3; have y0 := li_0; omega))) (rh_c h12 (rh_c h13 (rh_c h14 (rh_c h15 (rh_c h16 (rh_c h17 (rh_c h18 (rh_c h19 (rh_c h20 (rh_c h21 (rh_c rfl (rh_c rc_lrefl (rholds_nil _)))))))))))))))))))))))))))))))))))))))))))
  by_cases t1_1 : (xs 1) = (1 : Int32)
  · by_cases t2_0 : (xs 2) = (0 : Int32)
    · by_cases t3_0 : (xs 3) = (0 : Int32)
      · obtain ⟨e7, h7⟩ : ∃ e : Int64, e = (xs 4).toInt64 := ⟨_, rfl⟩
        obtain ⟨e8, h8⟩ : ∃ e : Int64, e = rsop 0 e7 (32 : Int32) := ⟨_, rfl⟩
        obtain ⟨e9, h9⟩ : ∃ e : Int64, e = (xs 5).toInt64 := ⟨_, rfl⟩
        obtain ⟨e10, h10⟩ : ∃ e : Int64, e = rlop 3 e9 (4294967295 : Int64) := ⟨_, rfl⟩
        obtain ⟨e11, h11⟩ : ∃ e : Int64, e = rlop 4 e8 e10 := ⟨_, rfl⟩
        obtain ⟨e12, h12⟩ : ∃ e : Int64, e = rlop 0 e11 (2870177450012600261 : Int64) := ⟨_, rfl⟩
        obtain ⟨e13, h13⟩ : ∃ e : Int64, e = rlop 0 e12 (0 : Int64) := ⟨_, rfl⟩
        obtain ⟨e14, h14⟩ : ∃ e : Int64, e = rsop 2 e13 (33 : Int32) := ⟨_, rfl⟩
        obtain ⟨e15, h15⟩ : ∃ e : Int64, e = rlop 5 e13 e14 := ⟨_, rfl⟩
        obtain ⟨e16, h16⟩ : ∃ e : Int64, e = rlop 2 e15 (-4417276706812531889 : Int64) := ⟨_, rfl⟩
        obtain ⟨e17, h17⟩ : ∃ e : Int64, e = rsop 2 e16 (29 : Int32) := ⟨_, rfl⟩
        obtain ⟨e18, h18⟩ : ∃ e : Int64, e = rlop 5 e16 e17 := ⟨_, rfl⟩
        obtain ⟨e19, h19⟩ : ∃ e : Int64, e = rlop 2 e18 (1609587929392839161 : Int64) := ⟨_, rfl⟩
        obtain ⟨e20, h20⟩ : ∃ e : Int64, e = rsop 2 e19 (32 : Int32) := ⟨_, rfl⟩
        obtain ⟨e21, h21⟩ : ∃ e : Int64, e = rlop 5 e19 e20 := ⟨_, rfl⟩
        exact rOk_of2 rr368 (rqv xs [(6, (rop 3 (xs 0) (31 : Int32))), (37, (lg_cmp e21 e21))] [(7, e7), (8, e8), (9, e9), (10, e10), (11, e11), (12, e12), (13, e13), (14, e14), (15, e15), (16, e16), (17, e17), (18, e18), (19, e19), (20, e20), (21, e21), (22, e7), (23, e8), (24, e9), (25, e10), (26, e11), (27, e12), (28, e13), (29, e14), (30, e15), (31, e16), (32, e17), (33, e18), (34, e19), (35, e20), (36, e21)]) (rqv_x rfl) (rh_c rfl (rh_c (show (rop 3 (xs 0) (31 : Int32)) = (11 : Int32) from h0) (rh_c (show (xs 1) = (1 : Int32) from t1_1) (rh_c (show (xs 2) = (0 : Int32) from t2_0) (rh_c (show (xs 3) = (0 : Int32) from t3_0) (rh_c h7 (rh_c h8 (rh_c h9 (rh_c h10 (rh_c h11 (rh_c h12 (rh_c h13 (rh_c h14 (rh_c h15 (rh_c h16 (rh_c h17 (rh_c h18 (rh_c h19 (rh_c h20 (rh_c h21 (rh_c (show (xs 1) = (1 : Int32) from t1_1) (rh_c (show (xs 2) = (0 : Int32) from t2_0) (rh_c (show (xs 3) = (0 : Int32) from t3_0) (rh_c h7 (rh_c h8 (rh_c h9 (rh_c h10 (rh_c h11 (rh_c h12 (rh_c h13 (rh_c h14 (rh_c h15 (rh_c h16 (rh_c h17 (rh_c h18 (rh_c h19 (rh_c h20 (rh_c h21 (rh_c rfl (rh_c rc_lrefl (rholds_nil _)))))))))))))))))))))))))))))))))))))))))
      cases b3 : rcmp 4 (0 : Int32) (xs 3) with
      | true =>
        obtain ⟨e7, h7⟩ : ∃ e : Int64, e = (xs 4).toInt64 := ⟨_, rfl⟩
        obtain ⟨e8, h8⟩ : ∃ e : Int64, e = rsop 0 e7 (32 : Int32) := ⟨_, rfl⟩
        obtain ⟨e9, h9⟩ : ∃ e : Int64, e = (xs 5).toInt64 := ⟨_, rfl⟩
        obtain ⟨e10, h10⟩ : ∃ e : Int64, e = rlop 3 e9 (4294967295 : Int64) := ⟨_, rfl⟩
        obtain ⟨e11, h11⟩ : ∃ e : Int64, e = rlop 4 e8 e10 := ⟨_, rfl⟩
        obtain ⟨e12, h12⟩ : ∃ e : Int64, e = rlop 0 e11 (2870177450012600261 : Int64) := ⟨_, rfl⟩
        obtain ⟨e13, h13⟩ : ∃ e : Int64, e = rlop 0 e12 (0 : Int64) := ⟨_, rfl⟩
        obtain ⟨e14, h14⟩ : ∃ e : Int64, e = rsop 2 e13 (33 : Int32) := ⟨_, rfl⟩
        obtain ⟨e15, h15⟩ : ∃ e : Int64, e = rlop 5 e13 e14 := ⟨_, rfl⟩
        obtain ⟨e16, h16⟩ : ∃ e : Int64, e = rlop 2 e15 (-4417276706812531889 : Int64) := ⟨_, rfl⟩
        obtain ⟨e17, h17⟩ : ∃ e : Int64, e = rsop 2 e16 (29 : Int32) := ⟨_, rfl⟩
        obtain ⟨e18, h18⟩ : ∃ e : Int64, e = rlop 5 e16 e17 := ⟨_, rfl⟩
        obtain ⟨e19, h19⟩ : ∃ e : Int64, e = rlop 2 e18 (1609587929392839161 : Int64) := ⟨_, rfl⟩
        obtain ⟨e20, h20⟩ : ∃ e : Int64, e = rsop 2 e19 (32 : Int32) := ⟨_, rfl⟩
        obtain ⟨e21, h21⟩ : ∃ e : Int64, e = rlop 5 e19 e20 := ⟨_, rfl⟩
        exact rOk_of2 rr367 (rqv xs [(6, (rop 3 (xs 0) (31 : Int32))), (37, (lg_cmp e21 e21))] [(7, e7), (8, e8), (9, e9), (10, e10), (11, e11), (12, e12), (13, e13), (14, e14), (15, e15), (16, e16), (17, e17), (18, e18), (19, e19), (20, e20), (21, e21), (22, e7), (23, e8), (24, e9), (25, e10), (26, e11), (27, e12), (28, e13), (29, e14), (30, e15), (31, e16), (32, e17), (33, e18), (34, e19), (35, e20), (36, e21)]) (rqv_x rfl) (rh_c rfl (rh_c (show (rop 3 (xs 0) (31 : Int32)) = (11 : Int32) from h0) (rh_c (show (xs 1) = (1 : Int32) from t1_1) (rh_c (show (xs 2) = (0 : Int32) from t2_0) (rh_c h7 (rh_c h8 (rh_c h9 (rh_c h10 (rh_c h11 (rh_c (show rcmp 4 (0 : Int32) (xs 3) = true from b3) (rh_c h12 (rh_c h13 (rh_c h14 (rh_c h15 (rh_c h16 (rh_c h17 (rh_c h18 (rh_c h19 (rh_c h20 (rh_c h21 (rh_c (show (xs 1) = (1 : Int32) from t1_1) (rh_c (show (xs 2) = (0 : Int32) from t2_0) (rh_c h7 (rh_c h8 (rh_c h9 (rh_c h10 (rh_c h11 (rh_c (show rcmp 4 (0 : Int32) (xs 3) = true from b3) (rh_c h12 (rh_c h13 (rh_c h14 (rh_c h15 (rh_c h16 (rh_c h17 (rh_c h18 (rh_c h19 (rh_c h20 (rh_c h21 (rh_c rfl (rh_c rc_lrefl (rholds_nil _)))))))))))))))))))))))))))))))))))))))))
      | false =>
        obtain ⟨e7, h7⟩ : ∃ e : Int64, e = (xs 4).toInt64 := ⟨_, rfl⟩
        obtain ⟨e8, h8⟩ : ∃ e : Int64, e = rsop 0 e7 (32 : Int32) := ⟨_, rfl⟩
        obtain ⟨e9, h9⟩ : ∃ e : Int64, e = (xs 5).toInt64 := ⟨_, rfl⟩
        obtain ⟨e10, h10⟩ : ∃ e : Int64, e = rlop 3 e9 (4294967295 : Int64) := ⟨_, rfl⟩
        obtain ⟨e11, h11⟩ : ∃ e : Int64, e = rlop 4 e8 e10 := ⟨_, rfl⟩
        obtain ⟨e12, h12⟩ : ∃ e : Int64, e = rlop 0 e11 (2870177450012600261 : Int64) := ⟨_, rfl⟩
        obtain ⟨e13, h13⟩ : ∃ e : Int64, e = rlop 0 e12 (0 : Int64) := ⟨_, rfl⟩
        obtain ⟨e14, h14⟩ : ∃ e : Int64, e = rsop 2 e13 (33 : Int32) := ⟨_, rfl⟩
        obtain ⟨e15, h15⟩ : ∃ e : Int64, e = rlop 5 e13 e14 := ⟨_, rfl⟩
        obtain ⟨e16, h16⟩ : ∃ e : Int64, e = rlop 2 e15 (-4417276706812531889 : Int64) := ⟨_, rfl⟩
        obtain ⟨e17, h17⟩ : ∃ e : Int64, e = rsop 2 e16 (29 : Int32) := ⟨_, rfl⟩
        obtain ⟨e18, h18⟩ : ∃ e : Int64, e = rlop 5 e16 e17 := ⟨_, rfl⟩
        obtain ⟨e19, h19⟩ : ∃ e : Int64, e = rlop 2 e18 (1609587929392839161 : Int64) := ⟨_, rfl⟩
        obtain ⟨e20, h20⟩ : ∃ e : Int64, e = rsop 2 e19 (32 : Int32) := ⟨_, rfl⟩
        obtain ⟨e21, h21⟩ : ∃ e : Int64, e = rlop 5 e19 e20 := ⟨_, rfl⟩
        exact rOk_of2 rr366 (rqv xs [(6, (rop 3 (xs 0) (31 : Int32))), (37, (lg_cmp e21 e21))] [(7, e7), (8, e8), (9, e9), (10, e10), (11, e11), (12, e12), (13, e13), (14, e14), (15, e15), (16, e16), (17, e17), (18, e18), (19, e19), (20, e20), (21, e21), (22, e7), (23, e8), (24, e9), (25, e10), (26, e11), (27, e12), (28, e13), (29, e14), (30, e15), (31, e16), (32, e17), (33, e18), (34, e19), (35, e20), (36, e21)]) (rqv_x rfl) (rh_c rfl (rh_c (show (rop 3 (xs 0) (31 : Int32)) = (11 : Int32) from h0) (rh_c (show (xs 1) = (1 : Int32) from t1_1) (rh_c (show (xs 2) = (0 : Int32) from t2_0) (rh_c h7 (rh_c h8 (rh_c h9 (rh_c h10 (rh_c h11 (rh_c (show rcmp 4 (0 : Int32) (xs 3) = false from b3) (rh_c (show rcmp 4 (xs 3) (0 : Int32) = true from (rg4t (by have z0 := rine t3_0; have z1 := ri4f b3; have y0 := li_0; omega))) (rh_c h12 (rh_c h13 (rh_c h14 (rh_c h15 (rh_c h16 (rh_c h17 (rh_c h18 (rh_c h19 (rh_c h20 (rh_c h21 (rh_c (show (xs 1) = (1 : Int32) from t1_1) (rh_c (show (xs 2) = (0 : Int32) from t2_0) (rh_c h7 (rh_c h8 (rh_c h9 (rh_c h10 (rh_c h11 (rh_c (show rcmp 4 (0 : Int32) (xs 3) = false from b3) (rh_c (show rcmp 4 (xs 3) (0 : Int32) = true from (rg4t (by have z0 := rine t3_0; have z1 := ri4f b3; have y0 := li_0; omega))) (rh_c h12 (rh_c h13 (rh_c h14 (rh_c h15 (rh_c h16 (rh_c h17 (rh_c h18 (rh_c h19 (rh_c h20 (rh_c h21 (rh_c rfl (rh_c rc_lrefl (rholds_nil _)))))))))))))))))))))))))))))))))))))))))))
    cases b2 : rcmp 4 (0 : Int32) (xs 2) with
    | true =>
      obtain ⟨e7, h7⟩ : ∃ e : Int64, e = (xs 4).toInt64 := ⟨_, rfl⟩
      obtain ⟨e8, h8⟩ : ∃ e : Int64, e = rsop 0 e7 (32 : Int32) := ⟨_, rfl⟩
      obtain ⟨e9, h9⟩ : ∃ e : Int64, e = (xs 5).toInt64 := ⟨_, rfl⟩
      obtain ⟨e10, h10⟩ : ∃ e : Int64, e = rlop 3 e9 (4294967295 : Int64) := ⟨_, rfl⟩
      obtain ⟨e11, h11⟩ : ∃ e : Int64, e = rlop 4 e8 e10 := ⟨_, rfl⟩
      obtain ⟨e12, h12⟩ : ∃ e : Int64, e = rlop 0 e11 (2870177450012600261 : Int64) := ⟨_, rfl⟩
      obtain ⟨e13, h13⟩ : ∃ e : Int64, e = rlop 0 e12 (0 : Int64) := ⟨_, rfl⟩
      obtain ⟨e14, h14⟩ : ∃ e : Int64, e = rsop 2 e13 (33 : Int32) := ⟨_, rfl⟩
      obtain ⟨e15, h15⟩ : ∃ e : Int64, e = rlop 5 e13 e14 := ⟨_, rfl⟩
      obtain ⟨e16, h16⟩ : ∃ e : Int64, e = rlop 2 e15 (-4417276706812531889 : Int64) := ⟨_, rfl⟩
      obtain ⟨e17, h17⟩ : ∃ e : Int64, e = rsop 2 e16 (29 : Int32) := ⟨_, rfl⟩
      obtain ⟨e18, h18⟩ : ∃ e : Int64, e = rlop 5 e16 e17 := ⟨_, rfl⟩
      obtain ⟨e19, h19⟩ : ∃ e : Int64, e = rlop 2 e18 (1609587929392839161 : Int64) := ⟨_, rfl⟩
      obtain ⟨e20, h20⟩ : ∃ e : Int64, e = rsop 2 e19 (32 : Int32) := ⟨_, rfl⟩
      obtain ⟨e21, h21⟩ : ∃ e : Int64, e = rlop 5 e19 e20 := ⟨_, rfl⟩
      exact rOk_of2 rr365 (rqv xs [(6, (rop 3 (xs 0) (31 : Int32))), (37, (lg_cmp e21 e21))] [(7, e7), (8, e8), (9, e9), (10, e10), (11, e11), (12, e12), (13, e13), (14, e14), (15, e15), (16, e16), (17, e17), (18, e18), (19, e19), (20, e20), (21, e21), (22, e7), (23, e8), (24, e9), (25, e10), (26, e11), (27, e12), (28, e13), (29, e14), (30, e15), (31, e16), (32, e17), (33, e18), (34, e19), (35, e20), (36, e21)]) (rqv_x rfl) (rh_c rfl (rh_c (show (rop 3 (xs 0) (31 : Int32)) = (11 : Int32) from h0) (rh_c (show (xs 1) = (1 : Int32) from t1_1) (rh_c h7 (rh_c h8 (rh_c h9 (rh_c h10 (rh_c h11 (rh_c (show rcmp 4 (0 : Int32) (xs 2) = true from b2) (rh_c h12 (rh_c h13 (rh_c h14 (rh_c h15 (rh_c h16 (rh_c h17 (rh_c h18 (rh_c h19 (rh_c h20 (rh_c h21 (rh_c (show (xs 1) = (1 : Int32) from t1_1) (rh_c h7 (rh_c h8 (rh_c h9 (rh_c h10 (rh_c h11 (rh_c (show rcmp 2 (xs 2) (0 : Int32) = true from (rg2t (by have z0 := rine t2_0; have z1 := ri4t b2; have y0 := li_0; omega))) (rh_c h12 (rh_c h13 (rh_c h14 (rh_c h15 (rh_c h16 (rh_c h17 (rh_c h18 (rh_c h19 (rh_c h20 (rh_c h21 (rh_c rfl (rh_c rc_lrefl (rholds_nil _)))))))))))))))))))))))))))))))))))))))
    | false =>
      cases b3 : rcmp 4 (xs 2) (xs 3) with
      | true =>
        obtain ⟨e7, h7⟩ : ∃ e : Int64, e = (xs 4).toInt64 := ⟨_, rfl⟩
        obtain ⟨e8, h8⟩ : ∃ e : Int64, e = rsop 0 e7 (32 : Int32) := ⟨_, rfl⟩
        obtain ⟨e9, h9⟩ : ∃ e : Int64, e = (xs 5).toInt64 := ⟨_, rfl⟩
        obtain ⟨e10, h10⟩ : ∃ e : Int64, e = rlop 3 e9 (4294967295 : Int64) := ⟨_, rfl⟩
        obtain ⟨e11, h11⟩ : ∃ e : Int64, e = rlop 4 e8 e10 := ⟨_, rfl⟩
        obtain ⟨e12, h12⟩ : ∃ e : Int64, e = rlop 0 e11 (2870177450012600261 : Int64) := ⟨_, rfl⟩
        obtain ⟨e13, h13⟩ : ∃ e : Int64, e = rlop 0 e12 (0 : Int64) := ⟨_, rfl⟩
        obtain ⟨e14, h14⟩ : ∃ e : Int64, e = rsop 2 e13 (33 : Int32) := ⟨_, rfl⟩
        obtain ⟨e15, h15⟩ : ∃ e : Int64, e = rlop 5 e13 e14 := ⟨_, rfl⟩
        obtain ⟨e16, h16⟩ : ∃ e : Int64, e = rlop 2 e15 (-4417276706812531889 : Int64) := ⟨_, rfl⟩
        obtain ⟨e17, h17⟩ : ∃ e : Int64, e = rsop 2 e16 (29 : Int32) := ⟨_, rfl⟩
        obtain ⟨e18, h18⟩ : ∃ e : Int64, e = rlop 5 e16 e17 := ⟨_, rfl⟩
        obtain ⟨e19, h19⟩ : ∃ e : Int64, e = rlop 2 e18 (1609587929392839161 : Int64) := ⟨_, rfl⟩
        obtain ⟨e20, h20⟩ : ∃ e : Int64, e = rsop 2 e19 (32 : Int32) := ⟨_, rfl⟩
        obtain ⟨e21, h21⟩ : ∃ e : Int64, e = rlop 5 e19 e20 := ⟨_, rfl⟩
        exact rOk_of2 rr364 (rqv xs [(6, (rop 3 (xs 0) (31 : Int32))), (37, (lg_cmp e21 e21))] [(7, e7), (8, e8), (9, e9), (10, e10), (11, e11), (12, e12), (13, e13), (14, e14), (15, e15), (16, e16), (17, e17), (18, e18), (19, e19), (20, e20), (21, e21), (22, e7), (23, e8), (24, e9), (25, e10), (26, e11), (27, e12), (28, e13), (29, e14), (30, e15), (31, e16), (32, e17), (33, e18), (34, e19), (35, e20), (36, e21)]) (rqv_x rfl) (rh_c rfl (rh_c (show (rop 3 (xs 0) (31 : Int32)) = (11 : Int32) from h0) (rh_c (show (xs 1) = (1 : Int32) from t1_1) (rh_c h7 (rh_c h8 (rh_c h9 (rh_c h10 (rh_c h11 (rh_c (show rcmp 4 (0 : Int32) (xs 2) = false from b2) (rh_c (show rcmp 4 (xs 2) (xs 3) = true from b3) (rh_c h12 (rh_c h13 (rh_c h14 (rh_c h15 (rh_c h16 (rh_c h17 (rh_c h18 (rh_c h19 (rh_c h20 (rh_c h21 (rh_c (show (xs 1) = (1 : Int32) from t1_1) (rh_c h7 (rh_c h8 (rh_c h9 (rh_c h10 (rh_c h11 (rh_c (show rcmp 2 (xs 2) (0 : Int32) = false from (rg2f (by have z0 := rine t2_0; have z1 := ri4f b2; have z2 := ri4t b3; have y0 := li_0; omega))) (rh_c (show rcmp 4 (xs 2) (xs 3) = true from b3) (rh_c h12 (rh_c h13 (rh_c h14 (rh_c h15 (rh_c h16 (rh_c h17 (rh_c h18 (rh_c h19 (rh_c h20 (rh_c h21 (rh_c rfl (rh_c rc_lrefl (rholds_nil _)))))))))))))))))))))))))))))))))))))))))
      | false =>
        obtain ⟨e7, h7⟩ : ∃ e : Int64, e = (xs 4).toInt64 := ⟨_, rfl⟩
        obtain ⟨e8, h8⟩ : ∃ e : Int64, e = rsop 0 e7 (32 : Int32) := ⟨_, rfl⟩
        obtain ⟨e9, h9⟩ : ∃ e : Int64, e = (xs 5).toInt64 := ⟨_, rfl⟩
        obtain ⟨e10, h10⟩ : ∃ e : Int64, e = rlop 3 e9 (4294967295 : Int64) := ⟨_, rfl⟩
        obtain ⟨e11, h11⟩ : ∃ e : Int64, e = rlop 4 e8 e10 := ⟨_, rfl⟩
        obtain ⟨e12, h12⟩ : ∃ e : Int64, e = rlop 0 e11 (2870177450012600261 : Int64) := ⟨_, rfl⟩
        obtain ⟨e13, h13⟩ : ∃ e : Int64, e = rlop 0 e12 (0 : Int64) := ⟨_, rfl⟩
        obtain ⟨e14, h14⟩ : ∃ e : Int64, e = rsop 2 e13 (33 : Int32) := ⟨_, rfl⟩
        obtain ⟨e15, h15⟩ : ∃ e : Int64, e = rlop 5 e13 e14 := ⟨_, rfl⟩
        obtain ⟨e16, h16⟩ : ∃ e : Int64, e = rlop 2 e15 (-4417276706812531889 : Int64) := ⟨_, rfl⟩
        obtain ⟨e17, h17⟩ : ∃ e : Int64, e = rsop 2 e16 (29 : Int32) := ⟨_, rfl⟩
        obtain ⟨e18, h18⟩ : ∃ e : Int64, e = rlop 5 e16 e17 := ⟨_, rfl⟩
        obtain ⟨e19, h19⟩ : ∃ e : Int64, e = rlop 2 e18 (1609587929392839161 : Int64) := ⟨_, rfl⟩
        obtain ⟨e20, h20⟩ : ∃ e : Int64, e = rsop 2 e19 (32 : Int32) := ⟨_, rfl⟩
        obtain ⟨e21, h21⟩ : ∃ e : Int64, e = rlop 5 e19 e20 := ⟨_, rfl⟩
        exact rOk_of2 rr363 (rqv xs [(6, (rop 3 (xs 0) (31 : Int32))), (37, (lg_cmp e21 e21))] [(7, e7), (8, e8), (9, e9), (10, e10), (11, e11), (12, e12), (13, e13), (14, e14), (15, e15), (16, e16), (17, e17), (18, e18), (19, e19), (20, e20), (21, e21), (22, e7), (23, e8), (24, e9), (25, e10), (26, e11), (27, e12), (28, e13), (29, e14), (30, e15), (31, e16), (32, e17), (33, e18), (34, e19), (35, e20), (36, e21)]) (rqv_x rfl) (rh_c rfl (rh_c (show (rop 3 (xs 0) (31 : Int32)) = (11 : Int32) from h0) (rh_c (show (xs 1) = (1 : Int32) from t1_1) (rh_c h7 (rh_c h8 (rh_c h9 (rh_c h10 (rh_c h11 (rh_c (show rcmp 4 (0 : Int32) (xs 2) = false from b2) (rh_c (show rcmp 4 (xs 2) (xs 3) = false from b3) (rh_c (show rcmp 4 (xs 3) (0 : Int32) = true from (rg4t (by have z0 := rine t2_0; have z1 := ri4f b2; have z2 := ri4f b3; have y0 := li_0; omega))) (rh_c h12 (rh_c h13 (rh_c h14 (rh_c h15 (rh_c h16 (rh_c h17 (rh_c h18 (rh_c h19 (rh_c h20 (rh_c h21 (rh_c (show (xs 1) = (1 : Int32) from t1_1) (rh_c h7 (rh_c h8 (rh_c h9 (rh_c h10 (rh_c h11 (rh_c (show rcmp 2 (xs 2) (0 : Int32) = false from (rg2f (by have z0 := rine t2_0; have z1 := ri4f b2; have z2 := ri4f b3; have y0 := li_0; omega))) (rh_c (show rcmp 4 (xs 2) (xs 3) = false from b3) (rh_c (show rcmp 4 (xs 3) (0 : Int32) = true from (rg4t (by have z0 := rine t2_0; have z1 := ri4f b2; have z2 := ri4f b3; have y0 := li_0; omega))) (rh_c h12 (rh_c h13 (rh_c h14 (rh_c h15 (rh_c h16 (rh_c h17 (rh_c h18 (rh_c h19 (rh_c h20 (rh_c h21 (rh_c rfl (rh_c rc_lrefl (rholds_nil _)))))))))))))))))))))))))))))))))))))))))))
  by_cases t1_2 : (xs 1) = (2 : Int32)
  · by_cases t2_0 : (xs 2) = (0 : Int32)
    · by_cases t3_0 : (xs 3) = (0 : Int32)
      · obtain ⟨e7, h7⟩ : ∃ e : Int64, e = (xs 4).toInt64 := ⟨_, rfl⟩
        obtain ⟨e8, h8⟩ : ∃ e : Int64, e = rsop 0 e7 (32 : Int32) := ⟨_, rfl⟩
        obtain ⟨e9, h9⟩ : ∃ e : Int64, e = (xs 5).toInt64 := ⟨_, rfl⟩
        obtain ⟨e10, h10⟩ : ∃ e : Int64, e = rlop 3 e9 (4294967295 : Int64) := ⟨_, rfl⟩
        obtain ⟨e11, h11⟩ : ∃ e : Int64, e = rlop 4 e8 e10 := ⟨_, rfl⟩
        obtain ⟨e12, h12⟩ : ∃ e : Int64, e = rlop 0 e11 (2870177450012600261 : Int64) := ⟨_, rfl⟩
        obtain ⟨e13, h13⟩ : ∃ e : Int64, e = rlop 0 e12 (0 : Int64) := ⟨_, rfl⟩
        obtain ⟨e14, h14⟩ : ∃ e : Int64, e = rsop 2 e13 (33 : Int32) := ⟨_, rfl⟩
        obtain ⟨e15, h15⟩ : ∃ e : Int64, e = rlop 5 e13 e14 := ⟨_, rfl⟩
        obtain ⟨e16, h16⟩ : ∃ e : Int64, e = rlop 2 e15 (-4417276706812531889 : Int64) := ⟨_, rfl⟩
        obtain ⟨e17, h17⟩ : ∃ e : Int64, e = rsop 2 e16 (29 : Int32) := ⟨_, rfl⟩
        obtain ⟨e18, h18⟩ : ∃ e : Int64, e = rlop 5 e16 e17 := ⟨_, rfl⟩
        obtain ⟨e19, h19⟩ : ∃ e : Int64, e = rlop 2 e18 (1609587929392839161 : Int64) := ⟨_, rfl⟩
        obtain ⟨e20, h20⟩ : ∃ e : Int64, e = rsop 2 e19 (32 : Int32) := ⟨_, rfl⟩
        obtain ⟨e21, h21⟩ : ∃ e : Int64, e = rlop 5 e19 e20 := ⟨_, rfl⟩
        exact rOk_of2 rr374 (rqv xs [(6, (rop 3 (xs 0) (31 : Int32))), (37, (lg_cmp e21 e21))] [(7, e7), (8, e8), (9, e9), (10, e10), (11, e11), (12, e12), (13, e13), (14, e14), (15, e15), (16, e16), (17, e17), (18, e18), (19, e19), (20, e20), (21, e21), (22, e7), (23, e8), (24, e9), (25, e10), (26, e11), (27, e12), (28, e13), (29, e14), (30, e15), (31, e16), (32, e17), (33, e18), (34, e19), (35, e20), (36, e21)]) (rqv_x rfl) (rh_c rfl (rh_c (show (rop 3 (xs 0) (31 : Int32)) = (11 : Int32) from h0) (rh_c (show (xs 1) = (2 : Int32) from t1_2) (rh_c (show (xs 2) = (0 : Int32) from t2_0) (rh_c (show (xs 3) = (0 : Int32) from t3_0) (rh_c h7 (rh_c h8 (rh_c h9 (rh_c h10 (rh_c h11 (rh_c h12 (rh_c h13 (rh_c h14 (rh_c h15 (rh_c h16 (rh_c h17 (rh_c h18 (rh_c h19 (rh_c h20 (rh_c h21 (rh_c (show (xs 1) = (2 : Int32) from t1_2) (rh_c (show (xs 2) = (0 : Int32) from t2_0) (rh_c (show (xs 3) = (0 : Int32) from t3_0) (rh_c h7 (rh_c h8 (rh_c h9 (rh_c h10 (rh_c h11 (rh_c h12 (rh_c h13 (rh_c h14 (rh_c h15 (rh_c h16 (rh_c h17 (rh_c h18 (rh_c h19 (rh_c h20 (rh_c h21 (rh_c rfl (rh_c rc_lrefl (rholds_nil _)))))))))))))))))))))))))))))))))))))))))
      cases b3 : rcmp 4 (0 : Int32) (xs 3) with
      | true =>
        obtain ⟨e7, h7⟩ : ∃ e : Int64, e = (xs 4).toInt64 := ⟨_, rfl⟩
        obtain ⟨e8, h8⟩ : ∃ e : Int64, e = rsop 0 e7 (32 : Int32) := ⟨_, rfl⟩
        obtain ⟨e9, h9⟩ : ∃ e : Int64, e = (xs 5).toInt64 := ⟨_, rfl⟩
        obtain ⟨e10, h10⟩ : ∃ e : Int64, e = rlop 3 e9 (4294967295 : Int64) := ⟨_, rfl⟩
        obtain ⟨e11, h11⟩ : ∃ e : Int64, e = rlop 4 e8 e10 := ⟨_, rfl⟩
        obtain ⟨e12, h12⟩ : ∃ e : Int64, e = rlop 0 e11 (2870177450012600261 : Int64) := ⟨_, rfl⟩
        obtain ⟨e13, h13⟩ : ∃ e : Int64, e = rlop 0 e12 (0 : Int64) := ⟨_, rfl⟩
        obtain ⟨e14, h14⟩ : ∃ e : Int64, e = rsop 2 e13 (33 : Int32) := ⟨_, rfl⟩
        obtain ⟨e15, h15⟩ : ∃ e : Int64, e = rlop 5 e13 e14 := ⟨_, rfl⟩
        obtain ⟨e16, h16⟩ : ∃ e : Int64, e = rlop 2 e15 (-4417276706812531889 : Int64) := ⟨_, rfl⟩
        obtain ⟨e17, h17⟩ : ∃ e : Int64, e = rsop 2 e16 (29 : Int32) := ⟨_, rfl⟩
        obtain ⟨e18, h18⟩ : ∃ e : Int64, e = rlop 5 e16 e17 := ⟨_, rfl⟩
        obtain ⟨e19, h19⟩ : ∃ e : Int64, e = rlop 2 e18 (1609587929392839161 : Int64) := ⟨_, rfl⟩
        obtain ⟨e20, h20⟩ : ∃ e : Int64, e = rsop 2 e19 (32 : Int32) := ⟨_, rfl⟩
        obtain ⟨e21, h21⟩ : ∃ e : Int64, e = rlop 5 e19 e20 := ⟨_, rfl⟩
        exact rOk_of2 rr373 (rqv xs [(6, (rop 3 (xs 0) (31 : Int32))), (37, (lg_cmp e21 e21))] [(7, e7), (8, e8), (9, e9), (10, e10), (11, e11), (12, e12), (13, e13), (14, e14), (15, e15), (16, e16), (17, e17), (18, e18), (19, e19), (20, e20), (21, e21), (22, e7), (23, e8), (24, e9), (25, e10), (26, e11), (27, e12), (28, e13), (29, e14), (30, e15), (31, e16), (32, e17), (33, e18), (34, e19), (35, e20), (36, e21)]) (rqv_x rfl) (rh_c rfl (rh_c (show (rop 3 (xs 0) (31 : Int32)) = (11 : Int32) from h0) (rh_c (show (xs 1) = (2 : Int32) from t1_2) (rh_c (show (xs 2) = (0 : Int32) from t2_0) (rh_c h7 (rh_c h8 (rh_c h9 (rh_c h10 (rh_c h11 (rh_c (show rcmp 4 (0 : Int32) (xs 3) = true from b3) (rh_c h12 (rh_c h13 (rh_c h14 (rh_c h15 (rh_c h16 (rh_c h17 (rh_c h18 (rh_c h19 (rh_c h20 (rh_c h21 (rh_c (show (xs 1) = (2 : Int32) from t1_2) (rh_c (show (xs 2) = (0 : Int32) from t2_0) (rh_c h7 (rh_c h8 (rh_c h9 (rh_c h10 (rh_c h11 (rh_c (show rcmp 4 (0 : Int32) (xs 3) = true from b3) (rh_c h12 (rh_c h13 (rh_c h14 (rh_c h15 (rh_c h16 (rh_c h17 (rh_c h18 (rh_c h19 (rh_c h20 (rh_c h21 (rh_c rfl (rh_c rc_lrefl (rholds_nil _)))))))))))))))))))))))))))))))))))))))))
      | false =>
        obtain ⟨e7, h7⟩ : ∃ e : Int64, e = (xs 4).toInt64 := ⟨_, rfl⟩
        obtain ⟨e8, h8⟩ : ∃ e : Int64, e = rsop 0 e7 (32 : Int32) := ⟨_, rfl⟩
        obtain ⟨e9, h9⟩ : ∃ e : Int64, e = (xs 5).toInt64 := ⟨_, rfl⟩
        obtain ⟨e10, h10⟩ : ∃ e : Int64, e = rlop 3 e9 (4294967295 : Int64) := ⟨_, rfl⟩
        obtain ⟨e11, h11⟩ : ∃ e : Int64, e = rlop 4 e8 e10 := ⟨_, rfl⟩
        obtain ⟨e12, h12⟩ : ∃ e : Int64, e = rlop 0 e11 (2870177450012600261 : Int64) := ⟨_, rfl⟩
        obtain ⟨e13, h13⟩ : ∃ e : Int64, e = rlop 0 e12 (0 : Int64) := ⟨_, rfl⟩
        obtain ⟨e14, h14⟩ : ∃ e : Int64, e = rsop 2 e13 (33 : Int32) := ⟨_, rfl⟩
        obtain ⟨e15, h15⟩ : ∃ e : Int64, e = rlop 5 e13 e14 := ⟨_, rfl⟩
        obtain ⟨e16, h16⟩ : ∃ e : Int64, e = rlop 2 e15 (-4417276706812531889 : Int64) := ⟨_, rfl⟩
        obtain ⟨e17, h17⟩ : ∃ e : Int64, e = rsop 2 e16 (29 : Int32) := ⟨_, rfl⟩
        obtain ⟨e18, h18⟩ : ∃ e : Int64, e = rlop 5 e16 e17 := ⟨_, rfl⟩
        obtain ⟨e19, h19⟩ : ∃ e : Int64, e = rlop 2 e18 (1609587929392839161 : Int64) := ⟨_, rfl⟩
        obtain ⟨e20, h20⟩ : ∃ e : Int64, e = rsop 2 e19 (32 : Int32) := ⟨_, rfl⟩
        obtain ⟨e21, h21⟩ : ∃ e : Int64, e = rlop 5 e19 e20 := ⟨_, rfl⟩
        exact rOk_of2 rr372 (rqv xs [(6, (rop 3 (xs 0) (31 : Int32))), (37, (lg_cmp e21 e21))] [(7, e7), (8, e8), (9, e9), (10, e10), (11, e11), (12, e12), (13, e13), (14, e14), (15, e15), (16, e16), (17, e17), (18, e18), (19, e19), (20, e20), (21, e21), (22, e7), (23, e8), (24, e9), (25, e10), (26, e11), (27, e12), (28, e13), (29, e14), (30, e15), (31, e16), (32, e17), (33, e18), (34, e19), (35, e20), (36, e21)]) (rqv_x rfl) (rh_c rfl (rh_c (show (rop 3 (xs 0) (31 : Int32)) = (11 : Int32) from h0) (rh_c (show (xs 1) = (2 : Int32) from t1_2) (rh_c (show (xs 2) = (0 : Int32) from t2_0) (rh_c h7 (rh_c h8 (rh_c h9 (rh_c h10 (rh_c h11 (rh_c (show rcmp 4 (0 : Int32) (xs 3) = false from b3) (rh_c (show rcmp 4 (xs 3) (0 : Int32) = true from (rg4t (by have z0 := rine t3_0; have z1 := ri4f b3; have y0 := li_0; omega))) (rh_c h12 (rh_c h13 (rh_c h14 (rh_c h15 (rh_c h16 (rh_c h17 (rh_c h18 (rh_c h19 (rh_c h20 (rh_c h21 (rh_c (show (xs 1) = (2 : Int32) from t1_2) (rh_c (show (xs 2) = (0 : Int32) from t2_0) (rh_c h7 (rh_c h8 (rh_c h9 (rh_c h10 (rh_c h11 (rh_c (show rcmp 4 (0 : Int32) (xs 3) = false from b3) (rh_c (show rcmp 4 (xs 3) (0 : Int32) = true from (rg4t (by have z0 := rine t3_0; have z1 := ri4f b3; have y0 := li_0; omega))) (rh_c h12 (rh_c h13 (rh_c h14 (rh_c h15 (rh_c h16 (rh_c h17 (rh_c h18 (rh_c h19 (rh_c h20 (rh_c h21 (rh_c rfl (rh_c rc_lrefl (rholds_nil _)))))))))))))))))))))))))))))))))))))))))))
    cases b2 : rcmp 4 (0 : Int32) (xs 2) with
    | true =>
      obtain ⟨e7, h7⟩ : ∃ e : Int64, e = (xs 4).toInt64 := ⟨_, rfl⟩
      obtain ⟨e8, h8⟩ : ∃ e : Int64, e = rsop 0 e7 (32 : Int32) := ⟨_, rfl⟩
      obtain ⟨e9, h9⟩ : ∃ e : Int64, e = (xs 5).toInt64 := ⟨_, rfl⟩
      obtain ⟨e10, h10⟩ : ∃ e : Int64, e = rlop 3 e9 (4294967295 : Int64) := ⟨_, rfl⟩
      obtain ⟨e11, h11⟩ : ∃ e : Int64, e = rlop 4 e8 e10 := ⟨_, rfl⟩
      obtain ⟨e12, h12⟩ : ∃ e : Int64, e = rlop 0 e11 (2870177450012600261 : Int64) := ⟨_, rfl⟩
      obtain ⟨e13, h13⟩ : ∃ e : Int64, e = rlop 0 e12 (0 : Int64) := ⟨_, rfl⟩
      obtain ⟨e14, h14⟩ : ∃ e : Int64, e = rsop 2 e13 (33 : Int32) := ⟨_, rfl⟩
      obtain ⟨e15, h15⟩ : ∃ e : Int64, e = rlop 5 e13 e14 := ⟨_, rfl⟩
      obtain ⟨e16, h16⟩ : ∃ e : Int64, e = rlop 2 e15 (-4417276706812531889 : Int64) := ⟨_, rfl⟩
      obtain ⟨e17, h17⟩ : ∃ e : Int64, e = rsop 2 e16 (29 : Int32) := ⟨_, rfl⟩
      obtain ⟨e18, h18⟩ : ∃ e : Int64, e = rlop 5 e16 e17 := ⟨_, rfl⟩
      obtain ⟨e19, h19⟩ : ∃ e : Int64, e = rlop 2 e18 (1609587929392839161 : Int64) := ⟨_, rfl⟩
      obtain ⟨e20, h20⟩ : ∃ e : Int64, e = rsop 2 e19 (32 : Int32) := ⟨_, rfl⟩
      obtain ⟨e21, h21⟩ : ∃ e : Int64, e = rlop 5 e19 e20 := ⟨_, rfl⟩
      exact rOk_of2 rr371 (rqv xs [(6, (rop 3 (xs 0) (31 : Int32))), (37, (lg_cmp e21 e21))] [(7, e7), (8, e8), (9, e9), (10, e10), (11, e11), (12, e12), (13, e13), (14, e14), (15, e15), (16, e16), (17, e17), (18, e18), (19, e19), (20, e20), (21, e21), (22, e7), (23, e8), (24, e9), (25, e10), (26, e11), (27, e12), (28, e13), (29, e14), (30, e15), (31, e16), (32, e17), (33, e18), (34, e19), (35, e20), (36, e21)]) (rqv_x rfl) (rh_c rfl (rh_c (show (rop 3 (xs 0) (31 : Int32)) = (11 : Int32) from h0) (rh_c (show (xs 1) = (2 : Int32) from t1_2) (rh_c h7 (rh_c h8 (rh_c h9 (rh_c h10 (rh_c h11 (rh_c (show rcmp 4 (0 : Int32) (xs 2) = true from b2) (rh_c h12 (rh_c h13 (rh_c h14 (rh_c h15 (rh_c h16 (rh_c h17 (rh_c h18 (rh_c h19 (rh_c h20 (rh_c h21 (rh_c (show (xs 1) = (2 : Int32) from t1_2) (rh_c h7 (rh_c h8 (rh_c h9 (rh_c h10 (rh_c h11 (rh_c (show rcmp 2 (xs 2) (0 : Int32) = true from (rg2t (by have z0 := rine t2_0; have z1 := ri4t b2; have y0 := li_0; omega))) (rh_c h12 (rh_c h13 (rh_c h14 (rh_c h15 (rh_c h16 (rh_c h17 (rh_c h18 (rh_c h19 (rh_c h20 (rh_c h21 (rh_c rfl (rh_c rc_lrefl (rholds_nil _)))))))))))))))))))))))))))))))))))))))
    | false =>
      cases b3 : rcmp 4 (xs 2) (xs 3) with
      | true =>
        obtain ⟨e7, h7⟩ : ∃ e : Int64, e = (xs 4).toInt64 := ⟨_, rfl⟩
        obtain ⟨e8, h8⟩ : ∃ e : Int64, e = rsop 0 e7 (32 : Int32) := ⟨_, rfl⟩
        obtain ⟨e9, h9⟩ : ∃ e : Int64, e = (xs 5).toInt64 := ⟨_, rfl⟩
        obtain ⟨e10, h10⟩ : ∃ e : Int64, e = rlop 3 e9 (4294967295 : Int64) := ⟨_, rfl⟩
        obtain ⟨e11, h11⟩ : ∃ e : Int64, e = rlop 4 e8 e10 := ⟨_, rfl⟩
        obtain ⟨e12, h12⟩ : ∃ e : Int64, e = rlop 0 e11 (2870177450012600261 : Int64) := ⟨_, rfl⟩
        obtain ⟨e13, h13⟩ : ∃ e : Int64, e = rlop 0 e12 (0 : Int64) := ⟨_, rfl⟩
        obtain ⟨e14, h14⟩ : ∃ e : Int64, e = rsop 2 e13 (33 : Int32) := ⟨_, rfl⟩
        obtain ⟨e15, h15⟩ : ∃ e : Int64, e = rlop 5 e13 e14 := ⟨_, rfl⟩
        obtain ⟨e16, h16⟩ : ∃ e : Int64, e = rlop 2 e15 (-4417276706812531889 : Int64) := ⟨_, rfl⟩
        obtain ⟨e17, h17⟩ : ∃ e : Int64, e = rsop 2 e16 (29 : Int32) := ⟨_, rfl⟩
        obtain ⟨e18, h18⟩ : ∃ e : Int64, e = rlop 5 e16 e17 := ⟨_, rfl⟩
        obtain ⟨e19, h19⟩ : ∃ e : Int64, e = rlop 2 e18 (1609587929392839161 : Int64) := ⟨_, rfl⟩
        obtain ⟨e20, h20⟩ : ∃ e : Int64, e = rsop 2 e19 (32 : Int32) := ⟨_, rfl⟩
        obtain ⟨e21, h21⟩ : ∃ e : Int64, e = rlop 5 e19 e20 := ⟨_, rfl⟩
        exact rOk_of2 rr370 (rqv xs [(6, (rop 3 (xs 0) (31 : Int32))), (37, (lg_cmp e21 e21))] [(7, e7), (8, e8), (9, e9), (10, e10), (11, e11), (12, e12), (13, e13), (14, e14), (15, e15), (16, e16), (17, e17), (18, e18), (19, e19), (20, e20), (21, e21), (22, e7), (23, e8), (24, e9), (25, e10), (26, e11), (27, e12), (28, e13), (29, e14), (30, e15), (31, e16), (32, e17), (33, e18), (34, e19), (35, e20), (36, e21)]) (rqv_x rfl) (rh_c rfl (rh_c (show (rop 3 (xs 0) (31 : Int32)) = (11 : Int32) from h0) (rh_c (show (xs 1) = (2 : Int32) from t1_2) (rh_c h7 (rh_c h8 (rh_c h9 (rh_c h10 (rh_c h11 (rh_c (show rcmp 4 (0 : Int32) (xs 2) = false from b2) (rh_c (show rcmp 4 (xs 2) (xs 3) = true from b3) (rh_c h12 (rh_c h13 (rh_c h14 (rh_c h15 (rh_c h16 (rh_c h17 (rh_c h18 (rh_c h19 (rh_c h20 (rh_c h21 (rh_c (show (xs 1) = (2 : Int32) from t1_2) (rh_c h7 (rh_c h8 (rh_c h9 (rh_c h10 (rh_c h11 (rh_c (show rcmp 2 (xs 2) (0 : Int32) = false from (rg2f (by have z0 := rine t2_0; have z1 := ri4f b2; have z2 := ri4t b3; have y0 := li_0; omega))) (rh_c (show rcmp 4 (xs 2) (xs 3) = true from b3) (rh_c h12 (rh_c h13 (rh_c h14 (rh_c h15 (rh_c h16 (rh_c h17 (rh_c h18 (rh_c h19 (rh_c h20 (rh_c h21 (rh_c rfl (rh_c rc_lrefl (rholds_nil _)))))))))))))))))))))))))))))))))))))))))
      | false =>
        obtain ⟨e7, h7⟩ : ∃ e : Int64, e = (xs 4).toInt64 := ⟨_, rfl⟩
        obtain ⟨e8, h8⟩ : ∃ e : Int64, e = rsop 0 e7 (32 : Int32) := ⟨_, rfl⟩
        obtain ⟨e9, h9⟩ : ∃ e : Int64, e = (xs 5).toInt64 := ⟨_, rfl⟩
        obtain ⟨e10, h10⟩ : ∃ e : Int64, e = rlop 3 e9 (4294967295 : Int64) := ⟨_, rfl⟩
        obtain ⟨e11, h11⟩ : ∃ e : Int64, e = rlop 4 e8 e10 := ⟨_, rfl⟩
        obtain ⟨e12, h12⟩ : ∃ e : Int64, e = rlop 0 e11 (2870177450012600261 : Int64) := ⟨_, rfl⟩
        obtain ⟨e13, h13⟩ : ∃ e : Int64, e = rlop 0 e12 (0 : Int64) := ⟨_, rfl⟩
        obtain ⟨e14, h14⟩ : ∃ e : Int64, e = rsop 2 e13 (33 : Int32) := ⟨_, rfl⟩
        obtain ⟨e15, h15⟩ : ∃ e : Int64, e = rlop 5 e13 e14 := ⟨_, rfl⟩
        obtain ⟨e16, h16⟩ : ∃ e : Int64, e = rlop 2 e15 (-4417276706812531889 : Int64) := ⟨_, rfl⟩
        obtain ⟨e17, h17⟩ : ∃ e : Int64, e = rsop 2 e16 (29 : Int32) := ⟨_, rfl⟩
        obtain ⟨e18, h18⟩ : ∃ e : Int64, e = rlop 5 e16 e17 := ⟨_, rfl⟩
        obtain ⟨e19, h19⟩ : ∃ e : Int64, e = rlop 2 e18 (1609587929392839161 : Int64) := ⟨_, rfl⟩
        obtain ⟨e20, h20⟩ : ∃ e : Int64, e = rsop 2 e19 (32 : Int32) := ⟨_, rfl⟩
        obtain ⟨e21, h21⟩ : ∃ e : Int64, e = rlop 5 e19 e20 := ⟨_, rfl⟩
        exact rOk_of2 rr369 (rqv xs [(6, (rop 3 (xs 0) (31 : Int32))), (37, (lg_cmp e21 e21))] [(7, e7), (8, e8), (9, e9), (10, e10), (11, e11), (12, e12), (13, e13), (14, e14), (15, e15), (16, e16), (17, e17), (18, e18), (19, e19), (20, e20), (21, e21), (22, e7), (23, e8), (24, e9), (25, e10), (26, e11), (27, e12), (28, e13), (29, e14), (30, e15), (31, e16), (32, e17), (33, e18), (34, e19), (35, e20), (36, e21)]) (rqv_x rfl) (rh_c rfl (rh_c (show (rop 3 (xs 0) (31 : Int32)) = (11 : Int32) from h0) (rh_c (show (xs 1) = (2 : Int32) from t1_2) (rh_c h7 (rh_c h8 (rh_c h9 (rh_c h10 (rh_c h11 (rh_c (show rcmp 4 (0 : Int32) (xs 2) = false from b2) (rh_c (show rcmp 4 (xs 2) (xs 3) = false from b3) (rh_c (show rcmp 4 (xs 3) (0 : Int32) = true from (rg4t (by have z0 := rine t2_0; have z1 := ri4f b2; have z2 := ri4f b3; have y0 := li_0; omega))) (rh_c h12 (rh_c h13 (rh_c h14 (rh_c h15 (rh_c h16 (rh_c h17 (rh_c h18 (rh_c h19 (rh_c h20 (rh_c h21 (rh_c (show (xs 1) = (2 : Int32) from t1_2) (rh_c h7 (rh_c h8 (rh_c h9 (rh_c h10 (rh_c h11 (rh_c (show rcmp 2 (xs 2) (0 : Int32) = false from (rg2f (by have z0 := rine t2_0; have z1 := ri4f b2; have z2 := ri4f b3; have y0 := li_0; omega))) (rh_c (show rcmp 4 (xs 2) (xs 3) = false from b3) (rh_c (show rcmp 4 (xs 3) (0 : Int32) = true from (rg4t (by have z0 := rine t2_0; have z1 := ri4f b2; have z2 := ri4f b3; have y0 := li_0; omega))) (rh_c h12 (rh_c h13 (rh_c h14 (rh_c h15 (rh_c h16 (rh_c h17 (rh_c h18 (rh_c h19 (rh_c h20 (rh_c h21 (rh_c rfl (rh_c rc_lrefl (rholds_nil _)))))))))))))))))))))))))))))))))))))))))))
  by_cases t1_3 : (xs 1) = (3 : Int32)
  · by_cases t2_0 : (xs 2) = (0 : Int32)
    · by_cases t3_0 : (xs 3) = (0 : Int32)
      · obtain ⟨e7, h7⟩ : ∃ e : Int64, e = (xs 4).toInt64 := ⟨_, rfl⟩
        obtain ⟨e8, h8⟩ : ∃ e : Int64, e = rsop 0 e7 (32 : Int32) := ⟨_, rfl⟩
        obtain ⟨e9, h9⟩ : ∃ e : Int64, e = (xs 5).toInt64 := ⟨_, rfl⟩
        obtain ⟨e10, h10⟩ : ∃ e : Int64, e = rlop 3 e9 (4294967295 : Int64) := ⟨_, rfl⟩
        obtain ⟨e11, h11⟩ : ∃ e : Int64, e = rlop 4 e8 e10 := ⟨_, rfl⟩
        obtain ⟨e12, h12⟩ : ∃ e : Int64, e = rlop 0 e11 (2870177450012600261 : Int64) := ⟨_, rfl⟩
        obtain ⟨e13, h13⟩ : ∃ e : Int64, e = rlop 0 e12 (0 : Int64) := ⟨_, rfl⟩
        obtain ⟨e14, h14⟩ : ∃ e : Int64, e = rsop 2 e13 (33 : Int32) := ⟨_, rfl⟩
        obtain ⟨e15, h15⟩ : ∃ e : Int64, e = rlop 5 e13 e14 := ⟨_, rfl⟩
        obtain ⟨e16, h16⟩ : ∃ e : Int64, e = rlop 2 e15 (-4417276706812531889 : Int64) := ⟨_, rfl⟩
        obtain ⟨e17, h17⟩ : ∃ e : Int64, e = rsop 2 e16 (29 : Int32) := ⟨_, rfl⟩
        obtain ⟨e18, h18⟩ : ∃ e : Int64, e = rlop 5 e16 e17 := ⟨_, rfl⟩
        obtain ⟨e19, h19⟩ : ∃ e : Int64, e = rlop 2 e18 (1609587929392839161 : Int64) := ⟨_, rfl⟩
        obtain ⟨e20, h20⟩ : ∃ e : Int64, e = rsop 2 e19 (32 : Int32) := ⟨_, rfl⟩
        obtain ⟨e21, h21⟩ : ∃ e : Int64, e = rlop 5 e19 e20 := ⟨_, rfl⟩
        exact rOk_of2 rr380 (rqv xs [(6, (rop 3 (xs 0) (31 : Int32))), (37, (lg_cmp e21 e21))] [(7, e7), (8, e8), (9, e9), (10, e10), (11, e11), (12, e12), (13, e13), (14, e14), (15, e15), (16, e16), (17, e17), (18, e18), (19, e19), (20, e20), (21, e21), (22, e7), (23, e8), (24, e9), (25, e10), (26, e11), (27, e12), (28, e13), (29, e14), (30, e15), (31, e16), (32, e17), (33, e18), (34, e19), (35, e20), (36, e21)]) (rqv_x rfl) (rh_c rfl (rh_c (show (rop 3 (xs 0) (31 : Int32)) = (11 : Int32) from h0) (rh_c (show (xs 1) = (3 : Int32) from t1_3) (rh_c (show (xs 2) = (0 : Int32) from t2_0) (rh_c (show (xs 3) = (0 : Int32) from t3_0) (rh_c h7 (rh_c h8 (rh_c h9 (rh_c h10 (rh_c h11 (rh_c h12 (rh_c h13 (rh_c h14 (rh_c h15 (rh_c h16 (rh_c h17 (rh_c h18 (rh_c h19 (rh_c h20 (rh_c h21 (rh_c (show (xs 1) = (3 : Int32) from t1_3) (rh_c (show (xs 2) = (0 : Int32) from t2_0) (rh_c (show (xs 3) = (0 : Int32) from t3_0) (rh_c h7 (rh_c h8 (rh_c h9 (rh_c h10 (rh_c h11 (rh_c h12 (rh_c h13 (rh_c h14 (rh_c h15 (rh_c h16 (rh_c h17 (rh_c h18 (rh_c h19 (rh_c h20 (rh_c h21 (rh_c rfl (rh_c rc_lrefl (rholds_nil _)))))))))))))))))))))))))))))))))))))))))
      cases b3 : rcmp 4 (0 : Int32) (xs 3) with
      | true =>
        obtain ⟨e7, h7⟩ : ∃ e : Int64, e = (xs 4).toInt64 := ⟨_, rfl⟩
        obtain ⟨e8, h8⟩ : ∃ e : Int64, e = rsop 0 e7 (32 : Int32) := ⟨_, rfl⟩
        obtain ⟨e9, h9⟩ : ∃ e : Int64, e = (xs 5).toInt64 := ⟨_, rfl⟩
        obtain ⟨e10, h10⟩ : ∃ e : Int64, e = rlop 3 e9 (4294967295 : Int64) := ⟨_, rfl⟩
        obtain ⟨e11, h11⟩ : ∃ e : Int64, e = rlop 4 e8 e10 := ⟨_, rfl⟩
        obtain ⟨e12, h12⟩ : ∃ e : Int64, e = rlop 0 e11 (2870177450012600261 : Int64) := ⟨_, rfl⟩
        obtain ⟨e13, h13⟩ : ∃ e : Int64, e = rlop 0 e12 (0 : Int64) := ⟨_, rfl⟩
        obtain ⟨e14, h14⟩ : ∃ e : Int64, e = rsop 2 e13 (33 : Int32) := ⟨_, rfl⟩
        obtain ⟨e15, h15⟩ : ∃ e : Int64, e = rlop 5 e13 e14 := ⟨_, rfl⟩
        obtain ⟨e16, h16⟩ : ∃ e : Int64, e = rlop 2 e15 (-4417276706812531889 : Int64) := ⟨_, rfl⟩
        obtain ⟨e17, h17⟩ : ∃ e : Int64, e = rsop 2 e16 (29 : Int32) := ⟨_, rfl⟩
        obtain ⟨e18, h18⟩ : ∃ e : Int64, e = rlop 5 e16 e17 := ⟨_, rfl⟩
        obtain ⟨e19, h19⟩ : ∃ e : Int64, e = rlop 2 e18 (1609587929392839161 : Int64) := ⟨_, rfl⟩
        obtain ⟨e20, h20⟩ : ∃ e : Int64, e = rsop 2 e19 (32 : Int32) := ⟨_, rfl⟩
        obtain ⟨e21, h21⟩ : ∃ e : Int64, e = rlop 5 e19 e20 := ⟨_, rfl⟩
        exact rOk_of2 rr379 (rqv xs [(6, (rop 3 (xs 0) (31 : Int32))), (37, (lg_cmp e21 e21))] [(7, e7), (8, e8), (9, e9), (10, e10), (11, e11), (12, e12), (13, e13), (14, e14), (15, e15), (16, e16), (17, e17), (18, e18), (19, e19), (20, e20), (21, e21), (22, e7), (23, e8), (24, e9), (25, e10), (26, e11), (27, e12), (28, e13), (29, e14), (30, e15), (31, e16), (32, e17), (33, e18), (34, e19), (35, e20), (36, e21)]) (rqv_x rfl) (rh_c rfl (rh_c (show (rop 3 (xs 0) (31 : Int32)) = (11 : Int32) from h0) (rh_c (show (xs 1) = (3 : Int32) from t1_3) (rh_c (show (xs 2) = (0 : Int32) from t2_0) (rh_c h7 (rh_c h8 (rh_c h9 (rh_c h10 (rh_c h11 (rh_c (show rcmp 4 (0 : Int32) (xs 3) = true from b3) (rh_c h12 (rh_c h13 (rh_c h14 (rh_c h15 (rh_c h16 (rh_c h17 (rh_c h18 (rh_c h19 (rh_c h20 (rh_c h21 (rh_c (show (xs 1) = (3 : Int32) from t1_3) (rh_c (show (xs 2) = (0 : Int32) from t2_0) (rh_c h7 (rh_c h8 (rh_c h9 (rh_c h10 (rh_c h11 (rh_c (show rcmp 4 (0 : Int32) (xs 3) = true from b3) (rh_c h12 (rh_c h13 (rh_c h14 (rh_c h15 (rh_c h16 (rh_c h17 (rh_c h18 (rh_c h19 (rh_c h20 (rh_c h21 (rh_c rfl (rh_c rc_lrefl (rholds_nil _)))))))))))))))))))))))))))))))))))))))))
      | false =>
        obtain ⟨e7, h7⟩ : ∃ e : Int64, e = (xs 4).toInt64 := ⟨_, rfl⟩
        obtain ⟨e8, h8⟩ : ∃ e : Int64, e = rsop 0 e7 (32 : Int32) := ⟨_, rfl⟩
        obtain ⟨e9, h9⟩ : ∃ e : Int64, e = (xs 5).toInt64 := ⟨_, rfl⟩
        obtain ⟨e10, h10⟩ : ∃ e : Int64, e = rlop 3 e9 (4294967295 : Int64) := ⟨_, rfl⟩
        obtain ⟨e11, h11⟩ : ∃ e : Int64, e = rlop 4 e8 e10 := ⟨_, rfl⟩
        obtain ⟨e12, h12⟩ : ∃ e : Int64, e = rlop 0 e11 (2870177450012600261 : Int64) := ⟨_, rfl⟩
        obtain ⟨e13, h13⟩ : ∃ e : Int64, e = rlop 0 e12 (0 : Int64) := ⟨_, rfl⟩
        obtain ⟨e14, h14⟩ : ∃ e : Int64, e = rsop 2 e13 (33 : Int32) := ⟨_, rfl⟩
        obtain ⟨e15, h15⟩ : ∃ e : Int64, e = rlop 5 e13 e14 := ⟨_, rfl⟩
        obtain ⟨e16, h16⟩ : ∃ e : Int64, e = rlop 2 e15 (-4417276706812531889 : Int64) := ⟨_, rfl⟩
        obtain ⟨e17, h17⟩ : ∃ e : Int64, e = rsop 2 e16 (29 : Int32) := ⟨_, rfl⟩
        obtain ⟨e18, h18⟩ : ∃ e : Int64, e = rlop 5 e16 e17 := ⟨_, rfl⟩
        obtain ⟨e19, h19⟩ : ∃ e : Int64, e = rlop 2 e18 (1609587929392839161 : Int64) := ⟨_, rfl⟩
        obtain ⟨e20, h20⟩ : ∃ e : Int64, e = rsop 2 e19 (32 : Int32) := ⟨_, rfl⟩
        obtain ⟨e21, h21⟩ : ∃ e : Int64, e = rlop 5 e19 e20 := ⟨_, rfl⟩
        exact rOk_of2 rr378 (rqv xs [(6, (rop 3 (xs 0) (31 : Int32))), (37, (lg_cmp e21 e21))] [(7, e7), (8, e8), (9, e9), (10, e10), (11, e11), (12, e12), (13, e13), (14, e14), (15, e15), (16, e16), (17, e17), (18, e18), (19, e19), (20, e20), (21, e21), (22, e7), (23, e8), (24, e9), (25, e10), (26, e11), (27, e12), (28, e13), (29, e14), (30, e15), (31, e16), (32, e17), (33, e18), (34, e19), (35, e20), (36, e21)]) (rqv_x rfl) (rh_c rfl (rh_c (show (rop 3 (xs 0) (31 : Int32)) = (11 : Int32) from h0) (rh_c (show (xs 1) = (3 : Int32) from t1_3) (rh_c (show (xs 2) = (0 : Int32) from t2_0) (rh_c h7 (rh_c h8 (rh_c h9 (rh_c h10 (rh_c h11 (rh_c (show rcmp 4 (0 : Int32) (xs 3) = false from b3) (rh_c (show rcmp 4 (xs 3) (0 : Int32) = true from (rg4t (by have z0 := rine t3_0; have z1 := ri4f b3; have y0 := li_0; omega))) (rh_c h12 (rh_c h13 (rh_c h14 (rh_c h15 (rh_c h16 (rh_c h17 (rh_c h18 (rh_c h19 (rh_c h20 (rh_c h21 (rh_c (show (xs 1) = (3 : Int32) from t1_3) (rh_c (show (xs 2) = (0 : Int32) from t2_0) (rh_c h7 (rh_c h8 (rh_c h9 (rh_c h10 (rh_c h11 (rh_c (show rcmp 4 (0 : Int32) (xs 3) = false from b3) (rh_c (show rcmp 4 (xs 3) (0 : Int32) = true from (rg4t (by have z0 := rine t3_0; have z1 := ri4f b3; have y0 := li_0; omega))) (rh_c h12 (rh_c h13 (rh_c h14 (rh_c h15 (rh_c h16 (rh_c h17 (rh_c h18 (rh_c h19 (rh_c h20 (rh_c h21 (rh_c rfl (rh_c rc_lrefl (rholds_nil _)))))))))))))))))))))))))))))))))))))))))))
    cases b2 : rcmp 4 (0 : Int32) (xs 2) with
    | true =>
      obtain ⟨e7, h7⟩ : ∃ e : Int64, e = (xs 4).toInt64 := ⟨_, rfl⟩
      obtain ⟨e8, h8⟩ : ∃ e : Int64, e = rsop 0 e7 (32 : Int32) := ⟨_, rfl⟩
      obtain ⟨e9, h9⟩ : ∃ e : Int64, e = (xs 5).toInt64 := ⟨_, rfl⟩
      obtain ⟨e10, h10⟩ : ∃ e : Int64, e = rlop 3 e9 (4294967295 : Int64) := ⟨_, rfl⟩
      obtain ⟨e11, h11⟩ : ∃ e : Int64, e = rlop 4 e8 e10 := ⟨_, rfl⟩
      obtain ⟨e12, h12⟩ : ∃ e : Int64, e = rlop 0 e11 (2870177450012600261 : Int64) := ⟨_, rfl⟩
      obtain ⟨e13, h13⟩ : ∃ e : Int64, e = rlop 0 e12 (0 : Int64) := ⟨_, rfl⟩
      obtain ⟨e14, h14⟩ : ∃ e : Int64, e = rsop 2 e13 (33 : Int32) := ⟨_, rfl⟩
      obtain ⟨e15, h15⟩ : ∃ e : Int64, e = rlop 5 e13 e14 := ⟨_, rfl⟩
      obtain ⟨e16, h16⟩ : ∃ e : Int64, e = rlop 2 e15 (-4417276706812531889 : Int64) := ⟨_, rfl⟩
      obtain ⟨e17, h17⟩ : ∃ e : Int64, e = rsop 2 e16 (29 : Int32) := ⟨_, rfl⟩
      obtain ⟨e18, h18⟩ : ∃ e : Int64, e = rlop 5 e16 e17 := ⟨_, rfl⟩
      obtain ⟨e19, h19⟩ : ∃ e : Int64, e = rlop 2 e18 (1609587929392839161 : Int64) := ⟨_, rfl⟩
      obtain ⟨e20, h20⟩ : ∃ e : Int64, e = rsop 2 e19 (32 : Int32) := ⟨_, rfl⟩
      obtain ⟨e21, h21⟩ : ∃ e : Int64, e = rlop 5 e19 e20 := ⟨_, rfl⟩
      exact rOk_of2 rr377 (rqv xs [(6, (rop 3 (xs 0) (31 : Int32))), (37, (lg_cmp e21 e21))] [(7, e7), (8, e8), (9, e9), (10, e10), (11, e11), (12, e12), (13, e13), (14, e14), (15, e15), (16, e16), (17, e17), (18, e18), (19, e19), (20, e20), (21, e21), (22, e7), (23, e8), (24, e9), (25, e10), (26, e11), (27, e12), (28, e13), (29, e14), (30, e15), (31, e16), (32, e17), (33, e18), (34, e19), (35, e20), (36, e21)]) (rqv_x rfl) (rh_c rfl (rh_c (show (rop 3 (xs 0) (31 : Int32)) = (11 : Int32) from h0) (rh_c (show (xs 1) = (3 : Int32) from t1_3) (rh_c h7 (rh_c h8 (rh_c h9 (rh_c h10 (rh_c h11 (rh_c (show rcmp 4 (0 : Int32) (xs 2) = true from b2) (rh_c h12 (rh_c h13 (rh_c h14 (rh_c h15 (rh_c h16 (rh_c h17 (rh_c h18 (rh_c h19 (rh_c h20 (rh_c h21 (rh_c (show (xs 1) = (3 : Int32) from t1_3) (rh_c h7 (rh_c h8 (rh_c h9 (rh_c h10 (rh_c h11 (rh_c (show rcmp 2 (xs 2) (0 : Int32) = true from (rg2t (by have z0 := rine t2_0; have z1 := ri4t b2; have y0 := li_0; omega))) (rh_c h12 (rh_c h13 (rh_c h14 (rh_c h15 (rh_c h16 (rh_c h17 (rh_c h18 (rh_c h19 (rh_c h20 (rh_c h21 (rh_c rfl (rh_c rc_lrefl (rholds_nil _)))))))))))))))))))))))))))))))))))))))
    | false =>
      cases b3 : rcmp 4 (xs 2) (xs 3) with
      | true =>
        obtain ⟨e7, h7⟩ : ∃ e : Int64, e = (xs 4).toInt64 := ⟨_, rfl⟩
        obtain ⟨e8, h8⟩ : ∃ e : Int64, e = rsop 0 e7 (32 : Int32) := ⟨_, rfl⟩
        obtain ⟨e9, h9⟩ : ∃ e : Int64, e = (xs 5).toInt64 := ⟨_, rfl⟩
        obtain ⟨e10, h10⟩ : ∃ e : Int64, e = rlop 3 e9 (4294967295 : Int64) := ⟨_, rfl⟩
        obtain ⟨e11, h11⟩ : ∃ e : Int64, e = rlop 4 e8 e10 := ⟨_, rfl⟩
        obtain ⟨e12, h12⟩ : ∃ e : Int64, e = rlop 0 e11 (2870177450012600261 : Int64) := ⟨_, rfl⟩
        obtain ⟨e13, h13⟩ : ∃ e : Int64, e = rlop 0 e12 (0 : Int64) := ⟨_, rfl⟩
        obtain ⟨e14, h14⟩ : ∃ e : Int64, e = rsop 2 e13 (33 : Int32) := ⟨_, rfl⟩
        obtain ⟨e15, h15⟩ : ∃ e : Int64, e = rlop 5 e13 e14 := ⟨_, rfl⟩
        obtain ⟨e16, h16⟩ : ∃ e : Int64, e = rlop 2 e15 (-4417276706812531889 : Int64) := ⟨_, rfl⟩
        obtain ⟨e17, h17⟩ : ∃ e : Int64, e = rsop 2 e16 (29 : Int32) := ⟨_, rfl⟩
        obtain ⟨e18, h18⟩ : ∃ e : Int64, e = rlop 5 e16 e17 := ⟨_, rfl⟩
        obtain ⟨e19, h19⟩ : ∃ e : Int64, e = rlop 2 e18 (1609587929392839161 : Int64) := ⟨_, rfl⟩
        obtain ⟨e20, h20⟩ : ∃ e : Int64, e = rsop 2 e19 (32 : Int32) := ⟨_, rfl⟩
        obtain ⟨e21, h21⟩ : ∃ e : Int64, e = rlop 5 e19 e20 := ⟨_, rfl⟩
        exact rOk_of2 rr376 (rqv xs [(6, (rop 3 (xs 0) (31 : Int32))), (37, (lg_cmp e21 e21))] [(7, e7), (8, e8), (9, e9), (10, e10), (11, e11), (12, e12), (13, e13), (14, e14), (15, e15), (16, e16), (17, e17), (18, e18), (19, e19), (20, e20), (21, e21), (22, e7), (23, e8), (24, e9), (25, e10), (26, e11), (27, e12), (28, e13), (29, e14), (30, e15), (31, e16), (32, e17), (33, e18), (34, e19), (35, e20), (36, e21)]) (rqv_x rfl) (rh_c rfl (rh_c (show (rop 3 (xs 0) (31 : Int32)) = (11 : Int32) from h0) (rh_c (show (xs 1) = (3 : Int32) from t1_3) (rh_c h7 (rh_c h8 (rh_c h9 (rh_c h10 (rh_c h11 (rh_c (show rcmp 4 (0 : Int32) (xs 2) = false from b2) (rh_c (show rcmp 4 (xs 2) (xs 3) = true from b3) (rh_c h12 (rh_c h13 (rh_c h14 (rh_c h15 (rh_c h16 (rh_c h17 (rh_c h18 (rh_c h19 (rh_c h20 (rh_c h21 (rh_c (show (xs 1) = (3 : Int32) from t1_3) (rh_c h7 (rh_c h8 (rh_c h9 (rh_c h10 (rh_c h11 (rh_c (show rcmp 2 (xs 2) (0 : Int32) = false from (rg2f (by have z0 := rine t2_0; have z1 := ri4f b2; have z2 := ri4t b3; have y0 := li_0; omega))) (rh_c (show rcmp 4 (xs 2) (xs 3) = true from b3) (rh_c h12 (rh_c h13 (rh_c h14 (rh_c h15 (rh_c h16 (rh_c h17 (rh_c h18 (rh_c h19 (rh_c h20 (rh_c h21 (rh_c rfl (rh_c rc_lrefl (rholds_nil _)))))))))))))))))))))))))))))))))))))))))
      | false =>
        obtain ⟨e7, h7⟩ : ∃ e : Int64, e = (xs 4).toInt64 := ⟨_, rfl⟩
        obtain ⟨e8, h8⟩ : ∃ e : Int64, e = rsop 0 e7 (32 : Int32) := ⟨_, rfl⟩
        obtain ⟨e9, h9⟩ : ∃ e : Int64, e = (xs 5).toInt64 := ⟨_, rfl⟩
        obtain ⟨e10, h10⟩ : ∃ e : Int64, e = rlop 3 e9 (4294967295 : Int64) := ⟨_, rfl⟩
        obtain ⟨e11, h11⟩ : ∃ e : Int64, e = rlop 4 e8 e10 := ⟨_, rfl⟩
        obtain ⟨e12, h12⟩ : ∃ e : Int64, e = rlop 0 e11 (2870177450012600261 : Int64) := ⟨_, rfl⟩
        obtain ⟨e13, h13⟩ : ∃ e : Int64, e = rlop 0 e12 (0 : Int64) := ⟨_, rfl⟩
        obtain ⟨e14, h14⟩ : ∃ e : Int64, e = rsop 2 e13 (33 : Int32) := ⟨_, rfl⟩
        obtain ⟨e15, h15⟩ : ∃ e : Int64, e = rlop 5 e13 e14 := ⟨_, rfl⟩
        obtain ⟨e16, h16⟩ : ∃ e : Int64, e = rlop 2 e15 (-4417276706812531889 : Int64) := ⟨_, rfl⟩
        obtain ⟨e17, h17⟩ : ∃ e : Int64, e = rsop 2 e16 (29 : Int32) := ⟨_, rfl⟩
        obtain ⟨e18, h18⟩ : ∃ e : Int64, e = rlop 5 e16 e17 := ⟨_, rfl⟩
        obtain ⟨e19, h19⟩ : ∃ e : Int64, e = rlop 2 e18 (1609587929392839161 : Int64) := ⟨_, rfl⟩
        obtain ⟨e20, h20⟩ : ∃ e : Int64, e = rsop 2 e19 (32 : Int32) := ⟨_, rfl⟩
        obtain ⟨e21, h21⟩ : ∃ e : Int64, e = rlop 5 e19 e20 := ⟨_, rfl⟩
        exact rOk_of2 rr375 (rqv xs [(6, (rop 3 (xs 0) (31 : Int32))), (37, (lg_cmp e21 e21))] [(7, e7), (8, e8), (9, e9), (10, e10), (11, e11), (12, e12), (13, e13), (14, e14), (15, e15), (16, e16), (17, e17), (18, e18), (19, e19), (20, e20), (21, e21), (22, e7), (23, e8), (24, e9), (25, e10), (26, e11), (27, e12), (28, e13), (29, e14), (30, e15), (31, e16), (32, e17), (33, e18), (34, e19), (35, e20), (36, e21)]) (rqv_x rfl) (rh_c rfl (rh_c (show (rop 3 (xs 0) (31 : Int32)) = (11 : Int32) from h0) (rh_c (show (xs 1) = (3 : Int32) from t1_3) (rh_c h7 (rh_c h8 (rh_c h9 (rh_c h10 (rh_c h11 (rh_c (show rcmp 4 (0 : Int32) (xs 2) = false from b2) (rh_c (show rcmp 4 (xs 2) (xs 3) = false from b3) (rh_c (show rcmp 4 (xs 3) (0 : Int32) = true from (rg4t (by have z0 := rine t2_0; have z1 := ri4f b2; have z2 := ri4f b3; have y0 := li_0; omega))) (rh_c h12 (rh_c h13 (rh_c h14 (rh_c h15 (rh_c h16 (rh_c h17 (rh_c h18 (rh_c h19 (rh_c h20 (rh_c h21 (rh_c (show (xs 1) = (3 : Int32) from t1_3) (rh_c h7 (rh_c h8 (rh_c h9 (rh_c h10 (rh_c h11 (rh_c (show rcmp 2 (xs 2) (0 : Int32) = false from (rg2f (by have z0 := rine t2_0; have z1 := ri4f b2; have z2 := ri4f b3; have y0 := li_0; omega))) (rh_c (show rcmp 4 (xs 2) (xs 3) = false from b3) (rh_c (show rcmp 4 (xs 3) (0 : Int32) = true from (rg4t (by have z0 := rine t2_0; have z1 := ri4f b2; have z2 := ri4f b3; have y0 := li_0; omega))) (rh_c h12 (rh_c h13 (rh_c h14 (rh_c h15 (rh_c h16 (rh_c h17 (rh_c h18 (rh_c h19 (rh_c h20 (rh_c h21 (rh_c rfl (rh_c rc_lrefl (rholds_nil _)))))))))))))))))))))))))))))))))))))))))))
  cases b1 : rcmp 2 (xs 1) (0 : Int32) with
  | true =>
    obtain ⟨e7, h7⟩ : ∃ e : Int64, e = (xs 4).toInt64 := ⟨_, rfl⟩
    obtain ⟨e8, h8⟩ : ∃ e : Int64, e = rsop 0 e7 (32 : Int32) := ⟨_, rfl⟩
    obtain ⟨e9, h9⟩ : ∃ e : Int64, e = (xs 5).toInt64 := ⟨_, rfl⟩
    obtain ⟨e10, h10⟩ : ∃ e : Int64, e = rlop 3 e9 (4294967295 : Int64) := ⟨_, rfl⟩
    obtain ⟨e11, h11⟩ : ∃ e : Int64, e = rlop 4 e8 e10 := ⟨_, rfl⟩
    exact rOk_of2 rr356 (rqv xs [(6, (rop 3 (xs 0) (31 : Int32)))] [(7, e7), (8, e8), (9, e9), (10, e10), (11, e11), (12, e7), (13, e8), (14, e9), (15, e10), (16, e11)]) (rqv_x rfl) (rh_c rfl (rh_c (show (rop 3 (xs 0) (31 : Int32)) = (11 : Int32) from h0) (rh_c h7 (rh_c h8 (rh_c h9 (rh_c h10 (rh_c h11 (rh_c (show rcmp 2 (xs 1) (0 : Int32) = true from b1) (rh_c h7 (rh_c h8 (rh_c h9 (rh_c h10 (rh_c h11 (rh_c (show rcmp 2 (xs 1) (0 : Int32) = true from b1) (rholds_nil _)))))))))))))))
  | false =>
    obtain ⟨e7, h7⟩ : ∃ e : Int64, e = (xs 4).toInt64 := ⟨_, rfl⟩
    obtain ⟨e8, h8⟩ : ∃ e : Int64, e = rsop 0 e7 (32 : Int32) := ⟨_, rfl⟩
    obtain ⟨e9, h9⟩ : ∃ e : Int64, e = (xs 5).toInt64 := ⟨_, rfl⟩
    obtain ⟨e10, h10⟩ : ∃ e : Int64, e = rlop 3 e9 (4294967295 : Int64) := ⟨_, rfl⟩
    obtain ⟨e11, h11⟩ : ∃ e : Int64, e = rlop 4 e8 e10 := ⟨_, rfl⟩
    exact rOk_of2 rr355 (rqv xs [(6, (rop 3 (xs 0) (31 : Int32)))] [(7, e7), (8, e8), (9, e9), (10, e10), (11, e11), (12, e7), (13, e8), (14, e9), (15, e10), (16, e11)]) (rqv_x rfl) (rh_c rfl (rh_c (show (rop 3 (xs 0) (31 : Int32)) = (11 : Int32) from h0) (rh_c h7 (rh_c h8 (rh_c h9 (rh_c h10 (rh_c h11 (rh_c (show rcmp 2 (xs 1) (0 : Int32) = false from b1) (rh_c (show rcmp 4 (xs 1) (3 : Int32) = true from (rg4t (by have z0 := rine t1_0; have z1 := rine t1_1; have z2 := rine t1_2; have z3 := rine t1_3; have z4 := ri2f b1; have y0 := li_0; have y1 := li_1; have y2 := li_2; have y3 := li_3; omega))) (rh_c h7 (rh_c h8 (rh_c h9 (rh_c h10 (rh_c h11 (rh_c (show rcmp 2 (xs 1) (0 : Int32) = false from b1) (rh_c (show rcmp 3 (xs 1) (4 : Int32) = true from (rg3t (by have z0 := rine t1_0; have z1 := rine t1_1; have z2 := rine t1_2; have z3 := rine t1_3; have z4 := ri2f b1; have y0 := li_0; have y1 := li_1; have y2 := li_2; have y3 := li_3; have y4 := li_4; omega))) (rholds_nil _)))))))))))))))))
