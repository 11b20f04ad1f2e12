/-! every script is one of the runs -/
theorem li_0 : (0 : Int32).toInt = 0 := by decide +kernel
theorem li_1 : (1 : Int32).toInt = 1 := by decide +kernel
theorem li_2 : (2 : Int32).toInt = 2 := by decide +kernel
theorem li_3 : (3 : Int32).toInt = 3 := by decide +kernel
theorem li_4 : (4 : Int32).toInt = 4 := by decide +kernel
theorem li_5 : (5 : Int32).toInt = 5 := by decide +kernel
theorem li_6 : (6 : Int32).toInt = 6 := by decide +kernel
theorem li_7 : (7 : Int32).toInt = 7 := by decide +kernel
theorem li_8 : (8 : Int32).toInt = 8 := by decide +kernel
theorem li_9 : (9 : Int32).toInt = 9 := by decide +kernel
theorem li_10 : (10 : Int32).toInt = 10 := by decide +kernel
theorem li_11 : (11 : Int32).toInt = 11 := by decide +kernel
theorem li_12 : (12 : Int32).toInt = 12 := by decide +kernel
theorem li_13 : (13 : Int32).toInt = 13 := by decide +kernel
theorem li_14 : (14 : Int32).toInt = 14 := by decide +kernel
theorem li_15 : (15 : Int32).toInt = 15 := by decide +kernel
theorem li_16 : (16 : Int32).toInt = 16 := by decide +kernel
theorem li_17 : (17 : Int32).toInt = 17 := by decide +kernel
theorem li_18 : (18 : Int32).toInt = 18 := by decide +kernel
theorem li_19 : (19 : Int32).toInt = 19 := by decide +kernel
theorem li_20 : (20 : Int32).toInt = 20 := by decide +kernel
theorem li_64 : (64 : Int32).toInt = 64 := by decide +kernel
theorem li_65 : (65 : Int32).toInt = 65 := by decide +kernel
theorem li_66 : (66 : Int32).toInt = 66 := by decide +kernel
theorem li_67 : (67 : Int32).toInt = 67 := by decide +kernel
theorem li_68 : (68 : Int32).toInt = 68 := by decide +kernel
theorem li_69 : (69 : Int32).toInt = 69 := by decide +kernel
theorem li_70 : (70 : Int32).toInt = 70 := by decide +kernel
theorem li_71 : (71 : Int32).toInt = 71 := by decide +kernel
theorem li_72 : (72 : Int32).toInt = 72 := by decide +kernel
theorem li_73 : (73 : Int32).toInt = 73 := by decide +kernel
theorem li_74 : (74 : Int32).toInt = 74 := by decide +kernel
theorem li_75 : (75 : Int32).toInt = 75 := by decide +kernel
theorem li_76 : (76 : Int32).toInt = 76 := by decide +kernel
theorem li_77 : (77 : Int32).toInt = 77 := by decide +kernel
theorem li_78 : (78 : Int32).toInt = 78 := by decide +kernel
theorem li_79 : (79 : Int32).toInt = 79 := by decide +kernel
theorem li_80 : (80 : Int32).toInt = 80 := by decide +kernel
theorem li_81 : (81 : Int32).toInt = 81 := by decide +kernel
theorem li_82 : (82 : Int32).toInt = 82 := by decide +kernel
theorem li_83 : (83 : Int32).toInt = 83 := by decide +kernel
theorem li_84 : (84 : Int32).toInt = 84 := by decide +kernel
theorem li_85 : (85 : Int32).toInt = 85 := by decide +kernel
theorem li_86 : (86 : Int32).toInt = 86 := by decide +kernel
theorem li_87 : (87 : Int32).toInt = 87 := by decide +kernel
theorem li_88 : (88 : Int32).toInt = 88 := by decide +kernel
theorem li_89 : (89 : Int32).toInt = 89 := by decide +kernel
theorem li_90 : (90 : Int32).toInt = 90 := by decide +kernel
theorem li_91 : (91 : Int32).toInt = 91 := by decide +kernel
theorem li_92 : (92 : Int32).toInt = 92 := by decide +kernel
theorem li_93 : (93 : Int32).toInt = 93 := by decide +kernel
theorem li_94 : (94 : Int32).toInt = 94 := by decide +kernel
theorem li_95 : (95 : Int32).toInt = 95 := by decide +kernel
theorem li_96 : (96 : Int32).toInt = 96 := by decide +kernel
theorem li_97 : (97 : Int32).toInt = 97 := by decide +kernel
theorem li_98 : (98 : Int32).toInt = 98 := by decide +kernel
theorem li_99 : (99 : Int32).toInt = 99 := by decide +kernel
theorem li_100 : (100 : Int32).toInt = 100 := by decide +kernel
theorem li_101 : (101 : Int32).toInt = 101 := by decide +kernel
theorem li_102 : (102 : Int32).toInt = 102 := by decide +kernel
theorem li_103 : (103 : Int32).toInt = 103 := by decide +kernel
theorem li_104 : (104 : Int32).toInt = 104 := by decide +kernel
theorem li_105 : (105 : Int32).toInt = 105 := by decide +kernel
theorem li_106 : (106 : Int32).toInt = 106 := by decide +kernel
theorem li_107 : (107 : Int32).toInt = 107 := by decide +kernel
theorem li_108 : (108 : Int32).toInt = 108 := by decide +kernel
theorem li_109 : (109 : Int32).toInt = 109 := by decide +kernel
theorem li_110 : (110 : Int32).toInt = 110 := by decide +kernel
theorem li_111 : (111 : Int32).toInt = 111 := by decide +kernel
theorem li_112 : (112 : Int32).toInt = 112 := by decide +kernel
theorem li_113 : (113 : Int32).toInt = 113 := by decide +kernel
theorem li_114 : (114 : Int32).toInt = 114 := by decide +kernel
theorem li_115 : (115 : Int32).toInt = 115 := by decide +kernel
theorem li_116 : (116 : Int32).toInt = 116 := by decide +kernel
theorem li_117 : (117 : Int32).toInt = 117 := by decide +kernel
theorem li_118 : (118 : Int32).toInt = 118 := by decide +kernel
theorem li_119 : (119 : Int32).toInt = 119 := by decide +kernel
theorem li_120 : (120 : Int32).toInt = 120 := by decide +kernel
theorem li_121 : (121 : Int32).toInt = 121 := by decide +kernel
theorem li_122 : (122 : Int32).toInt = 122 := by decide +kernel
theorem li_123 : (123 : Int32).toInt = 123 := by decide +kernel
theorem li_124 : (124 : Int32).toInt = 124 := by decide +kernel
theorem li_125 : (125 : Int32).toInt = 125 := by decide +kernel
theorem li_126 : (126 : Int32).toInt = 126 := by decide +kernel
theorem li_127 : (127 : Int32).toInt = 127 := by decide +kernel
theorem li_16384 : (16384 : Int32).toInt = 16384 := by decide +kernel
theorem li_65536 : (65536 : Int32).toInt = 65536 := by decide +kernel
theorem rc0 {x y : Int32} : rcmp 0 x y = true ↔ x.toInt = y.toInt := by simp [rcmp, Int32.lt_iff_toInt_lt, Int32.le_iff_toInt_le, ← Int32.toInt_inj]
theorem ri0t {x y : Int32} (h : rcmp 0 x y = true) : x.toInt = y.toInt := rc0.mp h
theorem ri0f {x y : Int32} (h : rcmp 0 x y = false) : x.toInt ≠ y.toInt := by
  have h2 := (not_congr (rc0 (x := x) (y := y))).mp (by rw [h]; decide)
  omega
theorem rg0t {x y : Int32} (h : x.toInt = y.toInt) : rcmp 0 x y = true := rc0.mpr h
theorem rg0f {x y : Int32} (h : x.toInt ≠ y.toInt) : rcmp 0 x y = false := by
  cases hb : rcmp 0 x y with
  | false => rfl
  | true => have := rc0.mp hb; omega
theorem rc1 {x y : Int32} : rcmp 1 x y = true ↔ x.toInt ≠ y.toInt := by simp [rcmp, Int32.lt_iff_toInt_lt, Int32.le_iff_toInt_le, ← Int32.toInt_inj]
theorem ri1t {x y : Int32} (h : rcmp 1 x y = true) : x.toInt ≠ y.toInt := rc1.mp h
theorem ri1f {x y : Int32} (h : rcmp 1 x y = false) : x.toInt = y.toInt := by
  have h2 := (not_congr (rc1 (x := x) (y := y))).mp (by rw [h]; decide)
  omega
theorem rg1t {x y : Int32} (h : x.toInt ≠ y.toInt) : rcmp 1 x y = true := rc1.mpr h
theorem rg1f {x y : Int32} (h : x.toInt = y.toInt) : rcmp 1 x y = false := by
  cases hb : rcmp 1 x y with
  | false => rfl
  | true => have := rc1.mp hb; omega
theorem rc2 {x y : Int32} : rcmp 2 x y = true ↔ x.toInt < y.toInt := by simp [rcmp, Int32.lt_iff_toInt_lt, Int32.le_iff_toInt_le, ← Int32.toInt_inj]
theorem ri2t {x y : Int32} (h : rcmp 2 x y = true) : x.toInt < y.toInt := rc2.mp h
theorem ri2f {x y : Int32} (h : rcmp 2 x y = false) : ¬ x.toInt < y.toInt := by
  have h2 := (not_congr (rc2 (x := x) (y := y))).mp (by rw [h]; decide)
  omega
theorem rg2t {x y : Int32} (h : x.toInt < y.toInt) : rcmp 2 x y = true := rc2.mpr h
theorem rg2f {x y : Int32} (h : ¬ x.toInt < y.toInt) : rcmp 2 x y = false := by
  cases hb : rcmp 2 x y with
  | false => rfl
  | true => have := rc2.mp hb; omega
theorem rc3 {x y : Int32} : rcmp 3 x y = true ↔ y.toInt ≤ x.toInt := by simp [rcmp, Int32.lt_iff_toInt_lt, Int32.le_iff_toInt_le, ← Int32.toInt_inj]
theorem ri3t {x y : Int32} (h : rcmp 3 x y = true) : y.toInt ≤ x.toInt := rc3.mp h
theorem ri3f {x y : Int32} (h : rcmp 3 x y = false) : ¬ y.toInt ≤ x.toInt := by
  have h2 := (not_congr (rc3 (x := x) (y := y))).mp (by rw [h]; decide)
  omega
theorem rg3t {x y : Int32} (h : y.toInt ≤ x.toInt) : rcmp 3 x y = true := rc3.mpr h
theorem rg3f {x y : Int32} (h : ¬ y.toInt ≤ x.toInt) : rcmp 3 x y = false := by
  cases hb : rcmp 3 x y with
  | false => rfl
  | true => have := rc3.mp hb; omega
theorem rc4 {x y : Int32} : rcmp 4 x y = true ↔ y.toInt < x.toInt := by simp [rcmp, Int32.lt_iff_toInt_lt, Int32.le_iff_toInt_le, ← Int32.toInt_inj]
theorem ri4t {x y : Int32} (h : rcmp 4 x y = true) : y.toInt < x.toInt := rc4.mp h
theorem ri4f {x y : Int32} (h : rcmp 4 x y = false) : ¬ y.toInt < x.toInt := by
  have h2 := (not_congr (rc4 (x := x) (y := y))).mp (by rw [h]; decide)
  omega
theorem rg4t {x y : Int32} (h : y.toInt < x.toInt) : rcmp 4 x y = true := rc4.mpr h
theorem rg4f {x y : Int32} (h : ¬ y.toInt < x.toInt) : rcmp 4 x y = false := by
  cases hb : rcmp 4 x y with
  | false => rfl
  | true => have := rc4.mp hb; omega
theorem rc5 {x y : Int32} : rcmp 5 x y = true ↔ x.toInt ≤ y.toInt := by simp [rcmp, Int32.lt_iff_toInt_lt, Int32.le_iff_toInt_le, ← Int32.toInt_inj]
theorem ri5t {x y : Int32} (h : rcmp 5 x y = true) : x.toInt ≤ y.toInt := rc5.mp h
theorem ri5f {x y : Int32} (h : rcmp 5 x y = false) : ¬ x.toInt ≤ y.toInt := by
  have h2 := (not_congr (rc5 (x := x) (y := y))).mp (by rw [h]; decide)
  omega
theorem rg5t {x y : Int32} (h : x.toInt ≤ y.toInt) : rcmp 5 x y = true := rc5.mpr h
theorem rg5f {x y : Int32} (h : ¬ x.toInt ≤ y.toInt) : rcmp 5 x y = false := by
  cases hb : rcmp 5 x y with
  | false => rfl
  | true => have := rc5.mp hb; omega
theorem rqv_x {xs : Nat → Int32} {f : List (Nat × Int32)} {d : List (Nat × Int64)} (h : f.all (fun q => Nat.ble 6 q.1) = true) : ∀ j, j < 6 → (rqv xs f d).1 j = xs j := fun _ hj => rq_lt hj h
theorem rieq {x y : Int32} (h : x = y) : x.toInt = y.toInt := by rw [h]
theorem rine {x y : Int32} (h : ¬ x = y) : ¬ x.toInt = y.toInt := fun q => h (Int32.toInt_inj.mp q)
theorem rc_refl {x : Int32} : rcmp 0 x x = true := by simp [rcmp]
theorem rc_lrefl {x : Int64} : rcmp 0 (lg_cmp x x) 0 = true := by simp [rcmp, lg_cmp]
theorem rsp8m (v : Int32) : v = (v &&& -62) ||| (v &&& 61) := by
  apply Int32.toBitVec_inj.mp
  apply BitVec.eq_of_getLsbD_eq
  intro i hi
  have hm : ∀ i : Nat, i < 32 → ((-62 : Int32).toBitVec.getLsbD i || (61 : Int32).toBitVec.getLsbD i) = true := by decide +kernel
  have h := hm i hi
  rw [Int32.toBitVec_or, Int32.toBitVec_and, Int32.toBitVec_and, BitVec.getLsbD_or, BitVec.getLsbD_and, BitVec.getLsbD_and]
  revert h
  cases v.toBitVec.getLsbD i <;> cases (-62 : Int32).toBitVec.getLsbD i <;> cases (61 : Int32).toBitVec.getLsbD i <;> simp
theorem rsp8n (v : Int32) : v &&& 61 = (v &&& 63) &&& 61 := by
  apply Int32.toBitVec_inj.mp
  apply BitVec.eq_of_getLsbD_eq
  intro i hi
  have hm : ∀ i : Nat, i < 32 → ((61 : Int32).toBitVec.getLsbD i = ((63 : Int32).toBitVec.getLsbD i && (61 : Int32).toBitVec.getLsbD i)) := by decide +kernel
  have h := hm i hi
  rw [Int32.toBitVec_and, Int32.toBitVec_and, Int32.toBitVec_and, BitVec.getLsbD_and, BitVec.getLsbD_and, BitVec.getLsbD_and, h]
  cases v.toBitVec.getLsbD i <;> cases (63 : Int32).toBitVec.getLsbD i <;> cases (61 : Int32).toBitVec.getLsbD i <;> simp
theorem rsp8 {v : Int32} (h : v.toInt < 64 ∨ 127 < v.toInt) : rcmp 1 (rop 3 v (-62)) 64 = true := by
  refine rg1t fun e => ?_
  have e : v &&& -62 = 64 := Int32.toInt_inj.mp e
  obtain ⟨j, hj, hv⟩ := pk_andE v (m := 63) 6 (by decide +kernel)
  have h2 : ∀ j : Nat, j < 64 → 64 ≤ ((64 : Int32) ||| (nI j &&& 61)).toInt ∧ ((64 : Int32) ||| (nI j &&& 61)).toInt ≤ 127 := by decide +kernel
  have h3 := h2 j hj
  have h4 : v = 64 ||| (nI j &&& 61) := by rw [← hv, ← rsp8n, ← e]; exact rsp8m v
  rw [← h4] at h3
  omega
theorem rsp20q {j : Nat} (h : j ≤ 16384) : rop 9 (rop 1 (rop 0 (nI j) 65536) 1) 65536 = nI ((j + 65535) / 65536) := by
  show (nI j + nI 65536 - nI 1) / nI 65536 = _
  rw [nI_add, pk_sub (by omega), pk_div (by omega) (by omega) (by omega)]
  congr 2
theorem rsp20f {x : Int32} (h : x.toInt = 0) : rcmp 3 (rop 9 (rop 1 (rop 0 x 65536) 1) 65536) 1 = false := by
  have e : x = nI 0 := Int32.toInt_inj.mp (h.trans (by decide +kernel))
  rw [e]
  decide +kernel
theorem rsp20t {x : Int32} (h : 0 < x.toInt ∧ x.toInt ≤ 16384) : rcmp 3 (rop 9 (rop 1 (rop 0 x 65536) 1) 65536) 1 = true := by
  obtain ⟨j, hj, rfl⟩ := nI_of (x := x) (fun q => by have := Int32.lt_iff_toInt_lt.mp q; rw [show (0 : Int32).toInt = 0 by decide +kernel] at this; omega)
  rw [nI_toInt hj] at h
  rw [rsp20q (by omega), show (j + 65535) / 65536 = 1 by omega]
  decide +kernel
