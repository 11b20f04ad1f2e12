section
/-! W1pac.make -/
theorem ce_pac_0 : rat (mstat ++ ml_pac) (κ_pac.getD 0 0) = some (.inl (0, [.ref 1000, .ref 1001, .ref 1002, .ref 1003, .ref 1004, .ref 1005, .ref 1006, .ref 1007, .retAddr 8, .retAddr 9, .ref 1010, .ref 12, .retAddr 12, .ref 1013, .ref 1014, .ref 1015, .ref 1016, .float 17, .float 18])) := (rat_mst (l := ml_pac) (i := 0)).trans rfl
theorem ce_pac_2 : rat (mstat ++ ml_pac) (κ_pac.getD 2 0) = some (.inr (6, 2, .null, [(0, .ref 14), (1, .ref 37)])) := (rat_mst (l := ml_pac) (i := 2)).trans rfl
theorem ce_pac_4 : rat (mstat ++ ml_pac) (κ_pac.getD 4 0) = some (.inr (1, 256, .int 0, [])) := (rat_mst (l := ml_pac) (i := 4)).trans rfl
theorem ce_pac_5 : rat (mstat ++ ml_pac) (κ_pac.getD 5 0) = some (.inr (1, 256, .int 0, [])) := (rat_mst (l := ml_pac) (i := 5)).trans rfl
theorem ce_pac_6 : rat (mstat ++ ml_pac) (κ_pac.getD 6 0) = some (.inr (1, 2048, .int 0, [])) := (rat_mst (l := ml_pac) (i := 6)).trans rfl
theorem ce_pac_7 : rat (mstat ++ ml_pac) (κ_pac.getD 7 0) = some (.inr (1, 256, .int 0, [])) := (rat_mst (l := ml_pac) (i := 7)).trans rfl
theorem ce_pac_8 : rat (mstat ++ ml_pac) (κ_pac.getD 8 0) = some (.inr (1, 12, .int 0, [])) := (rat_mst (l := ml_pac) (i := 8)).trans rfl
theorem ce_pac_9 : rat (mstat ++ ml_pac) (κ_pac.getD 9 0) = some (.inl (8, [.int 0, .int 12, .ref 21, .ref 22, .ref 23, .ref 24, .ref 25, .ref 26, .ref 27, .ref 28, .null, .int 0, .int 0])) := (rat_mst (l := ml_pac) (i := 9)).trans rfl
theorem ce_pac_10 : rat (mstat ++ ml_pac) (κ_pac.getD 10 0) = some (.inr (1, 12, .int 0, [])) := (rat_mst (l := ml_pac) (i := 10)).trans rfl
theorem ce_pac_11 : rat (mstat ++ ml_pac) (κ_pac.getD 11 0) = some (.inr (1, 12, .int 0, [])) := (rat_mst (l := ml_pac) (i := 11)).trans rfl
theorem ce_pac_12 : rat (mstat ++ ml_pac) (κ_pac.getD 12 0) = some (.inr (1, 12, .int 0, [])) := (rat_mst (l := ml_pac) (i := 12)).trans rfl
theorem ce_pac_13 : rat (mstat ++ ml_pac) (κ_pac.getD 13 0) = some (.inr (1, 12, .int 0, [])) := (rat_mst (l := ml_pac) (i := 13)).trans rfl
theorem ce_pac_14 : rat (mstat ++ ml_pac) (κ_pac.getD 14 0) = some (.inr (1, 12, .int 0, [])) := (rat_mst (l := ml_pac) (i := 14)).trans rfl
theorem ce_pac_15 : rat (mstat ++ ml_pac) (κ_pac.getD 15 0) = some (.inr (1, 64, .int 0, [])) := (rat_mst (l := ml_pac) (i := 15)).trans rfl
theorem ce_pac_16 : rat (mstat ++ ml_pac) (κ_pac.getD 16 0) = some (.inr (1, 64, .int 0, [])) := (rat_mst (l := ml_pac) (i := 16)).trans rfl
theorem ce_pac_17 : rat (mstat ++ ml_pac) (κ_pac.getD 17 0) = some (.inr (1, 64, .int 0, [])) := (rat_mst (l := ml_pac) (i := 17)).trans rfl
theorem ce_pac_18 : rat (mstat ++ ml_pac) (κ_pac.getD 18 0) = some (.inl (7, [.ref 30, .int 0, .int 0, .int 0, .int 0])) := (rat_mst (l := ml_pac) (i := 18)).trans rfl
theorem ce_pac_19 : rat (mstat ++ ml_pac) (κ_pac.getD 19 0) = some (.inr (0, 0, .int 0, [])) := (rat_mst (l := ml_pac) (i := 19)).trans rfl
theorem ce_pac_20 : rat (mstat ++ ml_pac) (κ_pac.getD 20 0) = some (.inl (7, [.ref 32, .int 0, .int 0, .int 0, .int 0])) := (rat_mst (l := ml_pac) (i := 20)).trans rfl
theorem ce_pac_21 : rat (mstat ++ ml_pac) (κ_pac.getD 21 0) = some (.inr (0, 0, .int 0, [])) := (rat_mst (l := ml_pac) (i := 21)).trans rfl
theorem ce_pac_23 : rat (mstat ++ ml_pac) (κ_pac.getD 23 0) = some (.inr (1, 256, .int 0, [])) := (rat_mst (l := ml_pac) (i := 23)).trans rfl
theorem ce_pac_24 : rat (mstat ++ ml_pac) (κ_pac.getD 24 0) = some (.inr (1, 512, .int 0, [])) := (rat_mst (l := ml_pac) (i := 24)).trans rfl
theorem ce_pac_25 : rat (mstat ++ ml_pac) (κ_pac.getD 25 0) = some (.inr (1, 512, .int 0, [])) := (rat_mst (l := ml_pac) (i := 25)).trans rfl
theorem ce_pac_27 : rat (mstat ++ ml_pac) (κ_pac.getD 27 0) = some (.inr (1, 256, .int 0, [])) := (rat_mst (l := ml_pac) (i := 27)).trans rfl
theorem ce_pac_28 : rat (mstat ++ ml_pac) (κ_pac.getD 28 0) = some (.inr (1, 256, .int 0, [])) := (rat_mst (l := ml_pac) (i := 28)).trans rfl
theorem ce_pac_29 : rat (mstat ++ ml_pac) (κ_pac.getD 29 0) = some (.inr (1, 2048, .int 0, [])) := (rat_mst (l := ml_pac) (i := 29)).trans rfl
theorem ce_pac_30 : rat (mstat ++ ml_pac) (κ_pac.getD 30 0) = some (.inr (1, 256, .int 0, [])) := (rat_mst (l := ml_pac) (i := 30)).trans rfl
theorem ce_pac_31 : rat (mstat ++ ml_pac) (κ_pac.getD 31 0) = some (.inr (1, 12, .int 0, [])) := (rat_mst (l := ml_pac) (i := 31)).trans rfl
theorem ce_pac_32 : rat (mstat ++ ml_pac) (κ_pac.getD 32 0) = some (.inl (8, [.int 0, .int 12, .ref 44, .ref 45, .ref 46, .ref 47, .ref 48, .ref 49, .ref 50, .ref 51, .null, .int 0, .int 0])) := (rat_mst (l := ml_pac) (i := 32)).trans rfl
theorem ce_pac_33 : rat (mstat ++ ml_pac) (κ_pac.getD 33 0) = some (.inr (1, 12, .int 0, [])) := (rat_mst (l := ml_pac) (i := 33)).trans rfl
theorem ce_pac_34 : rat (mstat ++ ml_pac) (κ_pac.getD 34 0) = some (.inr (1, 12, .int 0, [])) := (rat_mst (l := ml_pac) (i := 34)).trans rfl
theorem ce_pac_35 : rat (mstat ++ ml_pac) (κ_pac.getD 35 0) = some (.inr (1, 12, .int 0, [])) := (rat_mst (l := ml_pac) (i := 35)).trans rfl
theorem ce_pac_36 : rat (mstat ++ ml_pac) (κ_pac.getD 36 0) = some (.inr (1, 12, .int 0, [])) := (rat_mst (l := ml_pac) (i := 36)).trans rfl
theorem ce_pac_37 : rat (mstat ++ ml_pac) (κ_pac.getD 37 0) = some (.inr (1, 12, .int 0, [])) := (rat_mst (l := ml_pac) (i := 37)).trans rfl
theorem ce_pac_38 : rat (mstat ++ ml_pac) (κ_pac.getD 38 0) = some (.inr (1, 64, .int 0, [])) := (rat_mst (l := ml_pac) (i := 38)).trans rfl
theorem ce_pac_39 : rat (mstat ++ ml_pac) (κ_pac.getD 39 0) = some (.inr (1, 64, .int 0, [])) := (rat_mst (l := ml_pac) (i := 39)).trans rfl
theorem ce_pac_40 : rat (mstat ++ ml_pac) (κ_pac.getD 40 0) = some (.inr (1, 64, .int 0, [])) := (rat_mst (l := ml_pac) (i := 40)).trans rfl
theorem ce_pac_41 : rat (mstat ++ ml_pac) (κ_pac.getD 41 0) = some (.inl (7, [.ref 53, .int 0, .int 0, .int 0, .int 0])) := (rat_mst (l := ml_pac) (i := 41)).trans rfl
theorem ce_pac_42 : rat (mstat ++ ml_pac) (κ_pac.getD 42 0) = some (.inr (0, 0, .int 0, [])) := (rat_mst (l := ml_pac) (i := 42)).trans rfl
theorem ce_pac_43 : rat (mstat ++ ml_pac) (κ_pac.getD 43 0) = some (.inl (7, [.ref 55, .int 0, .int 0, .int 0, .int 0])) := (rat_mst (l := ml_pac) (i := 43)).trans rfl
theorem ce_pac_44 : rat (mstat ++ ml_pac) (κ_pac.getD 44 0) = some (.inr (0, 0, .int 0, [])) := (rat_mst (l := ml_pac) (i := 44)).trans rfl
theorem ce_pac_46 : rat (mstat ++ ml_pac) (κ_pac.getD 46 0) = some (.inr (1, 256, .int 0, [])) := (rat_mst (l := ml_pac) (i := 46)).trans rfl
theorem ce_pac_47 : rat (mstat ++ ml_pac) (κ_pac.getD 47 0) = some (.inr (1, 512, .int 0, [])) := (rat_mst (l := ml_pac) (i := 47)).trans rfl
theorem ce_pac_48 : rat (mstat ++ ml_pac) (κ_pac.getD 48 0) = some (.inr (1, 512, .int 0, [])) := (rat_mst (l := ml_pac) (i := 48)).trans rfl
theorem ce_pac_49 : rat (mstat ++ ml_pac) (κ_pac.getD 49 0) = some (.inr (5, 3, .null, [(0, .ref 61), (1, .ref 70), (2, .ref 79)])) := (rat_mst (l := ml_pac) (i := 49)).trans rfl
theorem ce_pac_50 : rat (mstat ++ ml_pac) (κ_pac.getD 50 0) = some (.inl (8, [.int 0, .int 36, .ref 62, .ref 63, .ref 64, .ref 65, .ref 66, .ref 67, .ref 68, .ref 69, .null, .int 0, .int 0])) := (rat_mst (l := ml_pac) (i := 50)).trans rfl
theorem ce_pac_51 : rat (mstat ++ ml_pac) (κ_pac.getD 51 0) = some (.inr (1, 36, .int 0, [])) := (rat_mst (l := ml_pac) (i := 51)).trans rfl
theorem ce_pac_52 : rat (mstat ++ ml_pac) (κ_pac.getD 52 0) = some (.inr (1, 36, .int 0, [])) := (rat_mst (l := ml_pac) (i := 52)).trans rfl
theorem ce_pac_53 : rat (mstat ++ ml_pac) (κ_pac.getD 53 0) = some (.inr (1, 36, .int 0, [])) := (rat_mst (l := ml_pac) (i := 53)).trans rfl
theorem ce_pac_54 : rat (mstat ++ ml_pac) (κ_pac.getD 54 0) = some (.inr (1, 36, .int 0, [])) := (rat_mst (l := ml_pac) (i := 54)).trans rfl
theorem ce_pac_55 : rat (mstat ++ ml_pac) (κ_pac.getD 55 0) = some (.inr (1, 36, .int 0, [])) := (rat_mst (l := ml_pac) (i := 55)).trans rfl
theorem ce_pac_56 : rat (mstat ++ ml_pac) (κ_pac.getD 56 0) = some (.inr (1, 512, .int 0, [])) := (rat_mst (l := ml_pac) (i := 56)).trans rfl
theorem ce_pac_57 : rat (mstat ++ ml_pac) (κ_pac.getD 57 0) = some (.inr (1, 512, .int 0, [])) := (rat_mst (l := ml_pac) (i := 57)).trans rfl
theorem ce_pac_58 : rat (mstat ++ ml_pac) (κ_pac.getD 58 0) = some (.inr (1, 512, .int 0, [])) := (rat_mst (l := ml_pac) (i := 58)).trans rfl
theorem ce_pac_59 : rat (mstat ++ ml_pac) (κ_pac.getD 59 0) = some (.inl (8, [.int 0, .int 32, .ref 71, .ref 72, .ref 73, .ref 74, .ref 75, .ref 76, .ref 77, .ref 78, .null, .int 0, .int 0])) := (rat_mst (l := ml_pac) (i := 59)).trans rfl
theorem ce_pac_60 : rat (mstat ++ ml_pac) (κ_pac.getD 60 0) = some (.inr (1, 32, .int 0, [])) := (rat_mst (l := ml_pac) (i := 60)).trans rfl
theorem ce_pac_61 : rat (mstat ++ ml_pac) (κ_pac.getD 61 0) = some (.inr (1, 32, .int 0, [])) := (rat_mst (l := ml_pac) (i := 61)).trans rfl
theorem ce_pac_62 : rat (mstat ++ ml_pac) (κ_pac.getD 62 0) = some (.inr (1, 32, .int 0, [])) := (rat_mst (l := ml_pac) (i := 62)).trans rfl
theorem ce_pac_63 : rat (mstat ++ ml_pac) (κ_pac.getD 63 0) = some (.inr (1, 32, .int 0, [])) := (rat_mst (l := ml_pac) (i := 63)).trans rfl
theorem ce_pac_64 : rat (mstat ++ ml_pac) (κ_pac.getD 64 0) = some (.inr (1, 32, .int 0, [])) := (rat_mst (l := ml_pac) (i := 64)).trans rfl
theorem ce_pac_65 : rat (mstat ++ ml_pac) (κ_pac.getD 65 0) = some (.inr (1, 256, .int 0, [])) := (rat_mst (l := ml_pac) (i := 65)).trans rfl
theorem ce_pac_66 : rat (mstat ++ ml_pac) (κ_pac.getD 66 0) = some (.inr (1, 256, .int 0, [])) := (rat_mst (l := ml_pac) (i := 66)).trans rfl
theorem ce_pac_67 : rat (mstat ++ ml_pac) (κ_pac.getD 67 0) = some (.inr (1, 256, .int 0, [])) := (rat_mst (l := ml_pac) (i := 67)).trans rfl
theorem ce_pac_68 : rat (mstat ++ ml_pac) (κ_pac.getD 68 0) = some (.inl (8, [.int 0, .int 53, .ref 80, .ref 81, .ref 82, .ref 83, .ref 84, .ref 85, .ref 86, .ref 87, .null, .int 0, .int 0])) := (rat_mst (l := ml_pac) (i := 68)).trans rfl
theorem ce_pac_69 : rat (mstat ++ ml_pac) (κ_pac.getD 69 0) = some (.inr (1, 53, .int 0, [])) := (rat_mst (l := ml_pac) (i := 69)).trans rfl
theorem ce_pac_70 : rat (mstat ++ ml_pac) (κ_pac.getD 70 0) = some (.inr (1, 53, .int 0, [])) := (rat_mst (l := ml_pac) (i := 70)).trans rfl
theorem ce_pac_71 : rat (mstat ++ ml_pac) (κ_pac.getD 71 0) = some (.inr (1, 53, .int 0, [])) := (rat_mst (l := ml_pac) (i := 71)).trans rfl
theorem ce_pac_72 : rat (mstat ++ ml_pac) (κ_pac.getD 72 0) = some (.inr (1, 53, .int 0, [])) := (rat_mst (l := ml_pac) (i := 72)).trans rfl
theorem ce_pac_73 : rat (mstat ++ ml_pac) (κ_pac.getD 73 0) = some (.inr (1, 53, .int 0, [])) := (rat_mst (l := ml_pac) (i := 73)).trans rfl
theorem ce_pac_74 : rat (mstat ++ ml_pac) (κ_pac.getD 74 0) = some (.inr (1, 512, .int 0, [])) := (rat_mst (l := ml_pac) (i := 74)).trans rfl
theorem ce_pac_75 : rat (mstat ++ ml_pac) (κ_pac.getD 75 0) = some (.inr (1, 512, .int 0, [])) := (rat_mst (l := ml_pac) (i := 75)).trans rfl
theorem ce_pac_76 : rat (mstat ++ ml_pac) (κ_pac.getD 76 0) = some (.inr (1, 512, .int 0, [])) := (rat_mst (l := ml_pac) (i := 76)).trans rfl
theorem ce_pac_77 : rat (mstat ++ ml_pac) (κ_pac.getD 77 0) = some (.inr (5, 3, .null, [(0, .ref 89), (1, .ref 98), (2, .ref 107)])) := (rat_mst (l := ml_pac) (i := 77)).trans rfl
theorem ce_pac_78 : rat (mstat ++ ml_pac) (κ_pac.getD 78 0) = some (.inl (8, [.int 0, .int 36, .ref 90, .ref 91, .ref 92, .ref 93, .ref 94, .ref 95, .ref 96, .ref 97, .null, .int 0, .int 0])) := (rat_mst (l := ml_pac) (i := 78)).trans rfl
theorem ce_pac_79 : rat (mstat ++ ml_pac) (κ_pac.getD 79 0) = some (.inr (1, 36, .int 0, [])) := (rat_mst (l := ml_pac) (i := 79)).trans rfl
theorem ce_pac_80 : rat (mstat ++ ml_pac) (κ_pac.getD 80 0) = some (.inr (1, 36, .int 0, [])) := (rat_mst (l := ml_pac) (i := 80)).trans rfl
theorem ce_pac_81 : rat (mstat ++ ml_pac) (κ_pac.getD 81 0) = some (.inr (1, 36, .int 0, [])) := (rat_mst (l := ml_pac) (i := 81)).trans rfl
theorem ce_pac_82 : rat (mstat ++ ml_pac) (κ_pac.getD 82 0) = some (.inr (1, 36, .int 0, [])) := (rat_mst (l := ml_pac) (i := 82)).trans rfl
theorem ce_pac_83 : rat (mstat ++ ml_pac) (κ_pac.getD 83 0) = some (.inr (1, 36, .int 0, [])) := (rat_mst (l := ml_pac) (i := 83)).trans rfl
theorem ce_pac_84 : rat (mstat ++ ml_pac) (κ_pac.getD 84 0) = some (.inr (1, 512, .int 0, [])) := (rat_mst (l := ml_pac) (i := 84)).trans rfl
theorem ce_pac_85 : rat (mstat ++ ml_pac) (κ_pac.getD 85 0) = some (.inr (1, 512, .int 0, [])) := (rat_mst (l := ml_pac) (i := 85)).trans rfl
theorem ce_pac_86 : rat (mstat ++ ml_pac) (κ_pac.getD 86 0) = some (.inr (1, 512, .int 0, [])) := (rat_mst (l := ml_pac) (i := 86)).trans rfl
theorem ce_pac_87 : rat (mstat ++ ml_pac) (κ_pac.getD 87 0) = some (.inl (8, [.int 0, .int 32, .ref 99, .ref 100, .ref 101, .ref 102, .ref 103, .ref 104, .ref 105, .ref 106, .null, .int 0, .int 0])) := (rat_mst (l := ml_pac) (i := 87)).trans rfl
theorem ce_pac_88 : rat (mstat ++ ml_pac) (κ_pac.getD 88 0) = some (.inr (1, 32, .int 0, [])) := (rat_mst (l := ml_pac) (i := 88)).trans rfl
theorem ce_pac_89 : rat (mstat ++ ml_pac) (κ_pac.getD 89 0) = some (.inr (1, 32, .int 0, [])) := (rat_mst (l := ml_pac) (i := 89)).trans rfl
theorem ce_pac_90 : rat (mstat ++ ml_pac) (κ_pac.getD 90 0) = some (.inr (1, 32, .int 0, [])) := (rat_mst (l := ml_pac) (i := 90)).trans rfl
theorem ce_pac_91 : rat (mstat ++ ml_pac) (κ_pac.getD 91 0) = some (.inr (1, 32, .int 0, [])) := (rat_mst (l := ml_pac) (i := 91)).trans rfl
theorem ce_pac_92 : rat (mstat ++ ml_pac) (κ_pac.getD 92 0) = some (.inr (1, 32, .int 0, [])) := (rat_mst (l := ml_pac) (i := 92)).trans rfl
theorem ce_pac_93 : rat (mstat ++ ml_pac) (κ_pac.getD 93 0) = some (.inr (1, 256, .int 0, [])) := (rat_mst (l := ml_pac) (i := 93)).trans rfl
theorem ce_pac_94 : rat (mstat ++ ml_pac) (κ_pac.getD 94 0) = some (.inr (1, 256, .int 0, [])) := (rat_mst (l := ml_pac) (i := 94)).trans rfl
theorem ce_pac_95 : rat (mstat ++ ml_pac) (κ_pac.getD 95 0) = some (.inr (1, 256, .int 0, [])) := (rat_mst (l := ml_pac) (i := 95)).trans rfl
theorem ce_pac_96 : rat (mstat ++ ml_pac) (κ_pac.getD 96 0) = some (.inl (8, [.int 0, .int 53, .ref 108, .ref 109, .ref 110, .ref 111, .ref 112, .ref 113, .ref 114, .ref 115, .null, .int 0, .int 0])) := (rat_mst (l := ml_pac) (i := 96)).trans rfl
theorem ce_pac_97 : rat (mstat ++ ml_pac) (κ_pac.getD 97 0) = some (.inr (1, 53, .int 0, [])) := (rat_mst (l := ml_pac) (i := 97)).trans rfl
theorem ce_pac_98 : rat (mstat ++ ml_pac) (κ_pac.getD 98 0) = some (.inr (1, 53, .int 0, [])) := (rat_mst (l := ml_pac) (i := 98)).trans rfl
theorem ce_pac_99 : rat (mstat ++ ml_pac) (κ_pac.getD 99 0) = some (.inr (1, 53, .int 0, [])) := (rat_mst (l := ml_pac) (i := 99)).trans rfl
theorem ce_pac_100 : rat (mstat ++ ml_pac) (κ_pac.getD 100 0) = some (.inr (1, 53, .int 0, [])) := (rat_mst (l := ml_pac) (i := 100)).trans rfl
theorem ce_pac_101 : rat (mstat ++ ml_pac) (κ_pac.getD 101 0) = some (.inr (1, 53, .int 0, [])) := (rat_mst (l := ml_pac) (i := 101)).trans rfl
theorem ce_pac_102 : rat (mstat ++ ml_pac) (κ_pac.getD 102 0) = some (.inr (1, 512, .int 0, [])) := (rat_mst (l := ml_pac) (i := 102)).trans rfl
theorem ce_pac_103 : rat (mstat ++ ml_pac) (κ_pac.getD 103 0) = some (.inr (1, 512, .int 0, [])) := (rat_mst (l := ml_pac) (i := 103)).trans rfl
theorem ce_pac_104 : rat (mstat ++ ml_pac) (κ_pac.getD 104 0) = some (.inr (1, 512, .int 0, [])) := (rat_mst (l := ml_pac) (i := 104)).trans rfl
theorem ce_pac_106 : rat (mstat ++ ml_pac) (κ_pac.getD 106 0) = some (.inr (5, 3, .null, [])) := (rat_mst (l := ml_pac) (i := 106)).trans rfl
theorem ce_pac_107 : rat (mstat ++ ml_pac) (κ_pac.getD 107 0) = some (.inr (2, 3, .long 0, [(0, .long 1), (1, .long 4), (2, .long 8)])) := (rat_mst (l := ml_pac) (i := 107)).trans rfl
theorem ce_pac_109 : rat (mstat ++ ml_pac) (κ_pac.getD 109 0) = some (.inr (5, 3, .null, [])) := (rat_mst (l := ml_pac) (i := 109)).trans rfl
theorem ce_pac_110 : rat (mstat ++ ml_pac) (κ_pac.getD 110 0) = some (.inr (2, 3, .long 0, [(0, .long 1), (1, .long 4), (2, .long 8)])) := (rat_mst (l := ml_pac) (i := 110)).trans rfl
theorem ce_pac_111 : rat (mstat ++ ml_pac) (κ_pac.getD 111 0) = some (.inl (7, [.ref 123, .int 0, .int 0, .int 0, .int 0])) := (rat_mst (l := ml_pac) (i := 111)).trans rfl
theorem ce_pac_112 : rat (mstat ++ ml_pac) (κ_pac.getD 112 0) = some (.inr (0, 0, .int 0, [])) := (rat_mst (l := ml_pac) (i := 112)).trans rfl
theorem ce_pac_113 : rat (mstat ++ ml_pac) (κ_pac.getD 113 0) = some (.inl (7, [.ref 125, .int 0, .int 0, .int 0, .int 0])) := (rat_mst (l := ml_pac) (i := 113)).trans rfl
theorem ce_pac_114 : rat (mstat ++ ml_pac) (κ_pac.getD 114 0) = some (.inr (0, 0, .int 0, [])) := (rat_mst (l := ml_pac) (i := 114)).trans rfl
theorem ce_pac_115 : rat (mstat ++ ml_pac) (κ_pac.getD 115 0) = some (.inl (7, [.ref 127, .int 0, .int 0, .int 0, .int 0])) := (rat_mst (l := ml_pac) (i := 115)).trans rfl
theorem ce_pac_116 : rat (mstat ++ ml_pac) (κ_pac.getD 116 0) = some (.inr (0, 0, .int 0, [])) := (rat_mst (l := ml_pac) (i := 116)).trans rfl
theorem ce_pac_117 : rat (mstat ++ ml_pac) (κ_pac.getD 117 0) = some (.inr (1, 256, .int 0, [])) := (rat_mst (l := ml_pac) (i := 117)).trans rfl
theorem ce_pac_118 : rat (mstat ++ ml_pac) (κ_pac.getD 118 0) = some (.inr (1, 53, .int 0, [])) := (rat_mst (l := ml_pac) (i := 118)).trans rfl
theorem ce_pac_119 : rat (mstat ++ ml_pac) (κ_pac.getD 119 0) = some (.inr (7, 3, .null, [(0, .ref 131), (1, .ref 132), (2, .ref 133)])) := (rat_mst (l := ml_pac) (i := 119)).trans rfl
theorem ce_pac_120 : rat (mstat ++ ml_pac) (κ_pac.getD 120 0) = some (.inr (1, 0, .int 0, [])) := (rat_mst (l := ml_pac) (i := 120)).trans rfl
theorem ce_pac_121 : rat (mstat ++ ml_pac) (κ_pac.getD 121 0) = some (.inr (1, 0, .int 0, [])) := (rat_mst (l := ml_pac) (i := 121)).trans rfl
theorem ce_pac_122 : rat (mstat ++ ml_pac) (κ_pac.getD 122 0) = some (.inr (1, 0, .int 0, [])) := (rat_mst (l := ml_pac) (i := 122)).trans rfl
theorem ce_pac_123 : rat (mstat ++ ml_pac) (κ_pac.getD 123 0) = some (.inr (1, 0, .int 0, [])) := (rat_mst (l := ml_pac) (i := 123)).trans rfl
theorem ce_pac_124 : rat (mstat ++ ml_pac) (κ_pac.getD 124 0) = some (.inr (1, 3, .int 0, [])) := (rat_mst (l := ml_pac) (i := 124)).trans rfl
theorem ce_pac_125 : rat (mstat ++ ml_pac) (κ_pac.getD 125 0) = some (.inr (1, 13, .int 0, [])) := (rat_mst (l := ml_pac) (i := 125)).trans rfl
set_option maxRecDepth 100000 in
theorem T_mk_pac {Dc : DcS} {g : Nat → Bool} {σ : rS} {D N : Nat → Nat} {F : hF} {A : hA} {d c s : Nat} {Q : wQ} (X : PHI Dc g σ D N F A) (hn5 : g 5 = false) (hg1 : g 1 = true) (hg4 : g 4 = true) (k : ∀ (σₚ : rS) (Dₚ Nₚ : Nat → Nat) (Fₚ : hF) (Aₚ : hA) (cₚ sₚ : Nat), PHI Dc (gset g [5]) σₚ Dₚ Nₚ Fₚ Aₚ → STP g σ D N A c s (gset g [5]) σₚ Dₚ Nₚ Aₚ cₚ sₚ → KEP g 0 D N F A Dₚ Nₚ Fₚ Aₚ → Fₚ 0 18 = F 0 18 → Q (some (.ref (Dₚ 75))) σₚ cₚ sₚ) : Ew 39 (d + 4) 0 (rargs 0 [.ref (D 0)]) [] σ c s Q := by
  rw [Nat.add_comm d 4]
  obtain ⟨HX, HT, hg0, hPF, hAB, hNZ, hGI, hI0, hI1, hI2, hI3, hI4, hI5, hI6, hI7, hI8, hI9⟩ := X
  have hq := SPH_not (g := g) (ι := ι_pac) (W := W_pac) (gs := [5]) (by intro j hj; simp at hj; subst hj; exact hn5) rfl (by decide +kernel)
  have hm : mkin ι_pac [5] = true := by decide +kernel
  have hmk : ∀ j ∈ ([5] : List Nat), g j = false := (by intro j hj; simp at hj; subst hj; exact hn5)
  have hhv : ∀ j ∈ ([1, 4] : List Nat), g j = true := (by intro j hj; simp at hj; rcases hj with rfl | rfl <;> assumption)
  refine mk_ev (V := VPH) (W := W_pac) (ι := ι_pac) (κ := κ_pac) (x0 := 0) ev_pac HX HT (by decide +kernel) hg0 rfl rfl fl_ok_pac ?_ VPH_3 vs_pac rfl rfl (kap_ok rfl (by decide +kernel)) mv_pac hq (fun σₚ Hₚ HT' hst hlen => ?_)
  · intro k hk
    have hk : k < 19 := hk
    rcases (show k = 0 ∨ k = 1 ∨ k = 2 ∨ k = 3 ∨ k = 4 ∨ k = 5 ∨ k = 6 ∨ k = 7 ∨ k = 8 ∨ k = 9 ∨ k = 10 ∨ k = 11 ∨ k = 12 ∨ k = 13 ∨ k = 14 ∨ k = 15 ∨ k = 16 ∨ k = 17 ∨ k = 18 by omega) with rfl | rfl | rfl | rfl | rfl | rfl | rfl | rfl | rfl | rfl | rfl | rfl | rfl | rfl | rfl | rfl | rfl | rfl | rfl
    · exact ⟨fun h => absurd h (by decide), fun _ => by have := (show F 0 0 = (D 1 : Int) from hPF (0, 0, 0, 1) (List.mem_of_getElem? (i := 0) rfl) hg0 hg0); omega⟩
    · exact ⟨fun h => absurd h (by decide), fun _ => by have := (show F 0 1 = (D 10 : Int) from hPF (0, 0, 1, 10) (List.mem_of_getElem? (i := 9) rfl) hg0 hg0); omega⟩
    · exact ⟨fun h => absurd h (by decide), fun _ => by have := (show F 0 2 = (D 11 : Int) from hPF (0, 0, 2, 11) (List.mem_of_getElem? (i := 10) rfl) hg0 hg0); omega⟩
    · exact ⟨fun h => absurd h (by decide), fun _ => by have := (show F 0 3 = (D 13 : Int) from hPF (0, 0, 3, 13) (List.mem_of_getElem? (i := 12) rfl) hg0 hg0); omega⟩
    · exact ⟨fun h => absurd h (by decide), fun _ => by have := (show F 0 4 = (D 19 : Int) from hPF (0, 0, 4, 19) (List.mem_of_getElem? (i := 18) rfl) hg0 hg0); omega⟩
    · exact ⟨fun h => absurd h (by decide), fun _ => by have := (show F 0 5 = (D 25 : Int) from hPF (0, 0, 5, 25) (List.mem_of_getElem? (i := 24) rfl) hg0 hg0); omega⟩
    · exact ⟨fun h => absurd h (by decide), fun _ => by have := (show F 0 6 = (D 27 : Int) from hPF (0, 0, 6, 27) (List.mem_of_getElem? (i := 26) rfl) hg0 hg0); omega⟩
    · exact ⟨fun h => absurd h (by decide), fun _ => by have := (show F 0 7 = (D 33 : Int) from hPF (0, 0, 7, 33) (List.mem_of_getElem? (i := 32) rfl) hg0 hg1); omega⟩
    · exact ⟨fun h => absurd h (by decide), fun h => absurd h (by decide)⟩
    · exact ⟨fun h => absurd h (by decide), fun h => absurd h (by decide)⟩
    · exact ⟨fun h => absurd h (by decide), fun _ => by have := (show F 0 10 = (D 47 : Int) from hPF (0, 0, 10, 47) (List.mem_of_getElem? (i := 46) rfl) hg0 hg4); omega⟩
    · exact ⟨fun _ => hAB (5, 0, 11) (List.mem_of_getElem? (i := 4) rfl) hn5, fun h => absurd h (by decide)⟩
    · exact ⟨fun h => absurd h (by decide), fun h => absurd h (by decide)⟩
    · exact ⟨fun h => absurd h (by decide), fun _ => by have := (show F 0 13 = (D 29 : Int) from hPF (0, 0, 13, 29) (List.mem_of_getElem? (i := 28) rfl) hg0 hg0); omega⟩
    · exact ⟨fun h => absurd h (by decide), fun _ => by have := (show F 0 14 = (D 30 : Int) from hPF (0, 0, 14, 30) (List.mem_of_getElem? (i := 29) rfl) hg0 hg0); omega⟩
    · exact ⟨fun h => absurd h (by decide), fun _ => by have := (show F 0 15 = (D 31 : Int) from hPF (0, 0, 15, 31) (List.mem_of_getElem? (i := 30) rfl) hg0 hg0); omega⟩
    · exact ⟨fun h => absurd h (by decide), fun _ => by have := (show F 0 16 = (D 32 : Int) from hPF (0, 0, 16, 32) (List.mem_of_getElem? (i := 31) rfl) hg0 hg0); omega⟩
    · exact ⟨fun h => absurd h (by decide), fun h => absurd h (by decide)⟩
    · exact ⟨fun h => absurd h (by decide), fun h => absurd h (by decide)⟩
  · have kp : KEP g 0 D N F A (glu ι_pac D (fun x => (mrho (D 0) σ.length (F 0)) (κ_pac.getD x 0))) (glu ι_pac N (mN κ_pac (mstat ++ ml_pac))) (glu ι_pac F (mFd (mnu (F 0)) (mrho (D 0) σ.length (F 0)) κ_pac (mstat ++ ml_pac))) (glu ι_pac A (mA (mnu (F 0)) (mrho (D 0) σ.length (F 0)) κ_pac (mstat ++ ml_pac))) := KEP_make (fun x a b => hq x a b) rfl rfl
    have hr := RM_make hNZ (show SPH g 0 = true from hg0) rfl kp
    have e1 : gset g [5] 1 = g 1 := gset_e rfl
    have e2 : gset g [5] 2 = g 2 := gset_e rfl
    have e3 : gset g [5] 3 = g 3 := gset_e rfl
    have e4 : gset g [5] 4 = g 4 := gset_e rfl
    have e5 : gset g [5] 5 = true := gset_m rfl
    have e6 : gset g [5] 6 = g 6 := gset_e rfl
    have e7 : gset g [5] 7 = g 7 := gset_e rfl
    have e8 : gset g [5] 8 = g 8 := gset_e rfl
    have hKC : KC (gset g [5]) = KC g + 125 := by unfold KC; simp only [e1, e2, e3, e4, e5, e6, e7, e8, hn5, kadd_t, kadd_f]; omega
    have hKS : KS (gset g [5]) = KS g + 18162 := by unfold KS; simp only [e1, e2, e3, e4, e5, e6, e7, e8, hn5, kadd_t, kadd_f]; omega
    refine k σₚ (glu ι_pac D (fun x => (mrho (D 0) σ.length (F 0)) (κ_pac.getD x 0))) (glu ι_pac N (mN κ_pac (mstat ++ ml_pac))) (glu ι_pac F (mFd (mnu (F 0)) (mrho (D 0) σ.length (F 0)) κ_pac (mstat ++ ml_pac))) (glu ι_pac A (mA (mnu (F 0)) (mrho (D 0) σ.length (F 0)) κ_pac (mstat ++ ml_pac))) _ _ ⟨HWs_make hm Hₚ, HT', gset_o hg0, PFI_mk (x0 := 0) hPF hGI hm hmk rfl hg0 rfl (by decide +kernel), ABS_mk (x0 := 0) (hv := [1, 4]) hAB hhv rfl (by decide +kernel), NZ_make hm hNZ (by decide +kernel) (by decide +kernel) hg0, ⟨fun h => gset_o (hGI.1 (gset_n h rfl)), fun h => gset_o (hGI.2.1 (gset_n h rfl)), fun _ => gset_o hg1, fun _ => gset_o hg4, fun h => gset_o (hGI.2.2.2.2 (gset_n h rfl))⟩, INV0_eq (EQD_out (by decide +kernel)) hI0, fun h => INV1_eq (EQD_out (by decide +kernel)) (hI1 (gset_n h rfl)), fun h => INV2_eq (EQD_out (by decide +kernel)) (hI2 (gset_n h rfl)), fun h => INV3_eq (EQD_out (by decide +kernel)) (hI3 (gset_n h rfl)), fun h => INV4_eq (EQD_out (by decide +kernel)) (hI4 (gset_n h rfl)), ?_, fun h => INV6_eq (EQD_out (by decide +kernel)) (hI6 (gset_n h rfl)), fun h => INV7_eq (EQD_out (by decide +kernel)) (hI7 (gset_n h rfl)), fun h => INV8_eq (EQD_out (by decide +kernel)) (hI8 (gset_n h rfl)), fun h => INV9_eq (EQD_out (by decide +kernel)) (hI9 (gset_f h))⟩ ⟨⟨ST2_make (x0 := 0) (f := F 0) (κ := κ_pac) hm (by decide +kernel) hg0 kp hst hlen rfl rfl (by decide +kernel) (fun p hp hf => glu_s hf) vs_pac.2.1, rfl, ?_, ?_⟩, rfl⟩ kp (show (mFd (mnu (F 0)) (mrho (D 0) σ.length (F 0)) κ_pac (mstat ++ ml_pac)) 0 18 = F 0 18 from (mFd_at (k := 18) ce_pac_0).trans (toI_ofI (HX.krg 0 18 (by decide +kernel) hg0)))
    · intro _
      have n76 : (glu ι_pac N (mN κ_pac (mstat ++ ml_pac))) 76 = 2 := (mN_at ce_pac_2)
      have n78 : (glu ι_pac N (mN κ_pac (mstat ++ ml_pac))) 78 = 256 := (mN_at ce_pac_4)
      have n79 : (glu ι_pac N (mN κ_pac (mstat ++ ml_pac))) 79 = 256 := (mN_at ce_pac_5)
      have n80 : (glu ι_pac N (mN κ_pac (mstat ++ ml_pac))) 80 = 2048 := (mN_at ce_pac_6)
      have n81 : (glu ι_pac N (mN κ_pac (mstat ++ ml_pac))) 81 = 256 := (mN_at ce_pac_7)
      have n82 : (glu ι_pac N (mN κ_pac (mstat ++ ml_pac))) 82 = 12 := (mN_at ce_pac_8)
      have n84 : (glu ι_pac N (mN κ_pac (mstat ++ ml_pac))) 84 = 12 := (mN_at ce_pac_10)
      have n85 : (glu ι_pac N (mN κ_pac (mstat ++ ml_pac))) 85 = 12 := (mN_at ce_pac_11)
      have n86 : (glu ι_pac N (mN κ_pac (mstat ++ ml_pac))) 86 = 12 := (mN_at ce_pac_12)
      have n87 : (glu ι_pac N (mN κ_pac (mstat ++ ml_pac))) 87 = 12 := (mN_at ce_pac_13)
      have n88 : (glu ι_pac N (mN κ_pac (mstat ++ ml_pac))) 88 = 12 := (mN_at ce_pac_14)
      have n89 : (glu ι_pac N (mN κ_pac (mstat ++ ml_pac))) 89 = 64 := (mN_at ce_pac_15)
      have n90 : (glu ι_pac N (mN κ_pac (mstat ++ ml_pac))) 90 = 64 := (mN_at ce_pac_16)
      have n91 : (glu ι_pac N (mN κ_pac (mstat ++ ml_pac))) 91 = 64 := (mN_at ce_pac_17)
      have n93 : (glu ι_pac N (mN κ_pac (mstat ++ ml_pac))) 93 = 0 := (mN_at ce_pac_19)
      have n95 : (glu ι_pac N (mN κ_pac (mstat ++ ml_pac))) 95 = 0 := (mN_at ce_pac_21)
      have n97 : (glu ι_pac N (mN κ_pac (mstat ++ ml_pac))) 97 = 256 := (mN_at ce_pac_23)
      have n98 : (glu ι_pac N (mN κ_pac (mstat ++ ml_pac))) 98 = 512 := (mN_at ce_pac_24)
      have n99 : (glu ι_pac N (mN κ_pac (mstat ++ ml_pac))) 99 = 512 := (mN_at ce_pac_25)
      have n101 : (glu ι_pac N (mN κ_pac (mstat ++ ml_pac))) 101 = 256 := (mN_at ce_pac_27)
      have n102 : (glu ι_pac N (mN κ_pac (mstat ++ ml_pac))) 102 = 256 := (mN_at ce_pac_28)
      have n103 : (glu ι_pac N (mN κ_pac (mstat ++ ml_pac))) 103 = 2048 := (mN_at ce_pac_29)
      have n104 : (glu ι_pac N (mN κ_pac (mstat ++ ml_pac))) 104 = 256 := (mN_at ce_pac_30)
      have n105 : (glu ι_pac N (mN κ_pac (mstat ++ ml_pac))) 105 = 12 := (mN_at ce_pac_31)
      have n107 : (glu ι_pac N (mN κ_pac (mstat ++ ml_pac))) 107 = 12 := (mN_at ce_pac_33)
      have n108 : (glu ι_pac N (mN κ_pac (mstat ++ ml_pac))) 108 = 12 := (mN_at ce_pac_34)
      have n109 : (glu ι_pac N (mN κ_pac (mstat ++ ml_pac))) 109 = 12 := (mN_at ce_pac_35)
      have n110 : (glu ι_pac N (mN κ_pac (mstat ++ ml_pac))) 110 = 12 := (mN_at ce_pac_36)
      have n111 : (glu ι_pac N (mN κ_pac (mstat ++ ml_pac))) 111 = 12 := (mN_at ce_pac_37)
      have n112 : (glu ι_pac N (mN κ_pac (mstat ++ ml_pac))) 112 = 64 := (mN_at ce_pac_38)
      have n113 : (glu ι_pac N (mN κ_pac (mstat ++ ml_pac))) 113 = 64 := (mN_at ce_pac_39)
      have n114 : (glu ι_pac N (mN κ_pac (mstat ++ ml_pac))) 114 = 64 := (mN_at ce_pac_40)
      have n116 : (glu ι_pac N (mN κ_pac (mstat ++ ml_pac))) 116 = 0 := (mN_at ce_pac_42)
      have n118 : (glu ι_pac N (mN κ_pac (mstat ++ ml_pac))) 118 = 0 := (mN_at ce_pac_44)
      have n120 : (glu ι_pac N (mN κ_pac (mstat ++ ml_pac))) 120 = 256 := (mN_at ce_pac_46)
      have n121 : (glu ι_pac N (mN κ_pac (mstat ++ ml_pac))) 121 = 512 := (mN_at ce_pac_47)
      have n122 : (glu ι_pac N (mN κ_pac (mstat ++ ml_pac))) 122 = 512 := (mN_at ce_pac_48)
      have n123 : (glu ι_pac N (mN κ_pac (mstat ++ ml_pac))) 123 = 3 := (mN_at ce_pac_49)
      have n125 : (glu ι_pac N (mN κ_pac (mstat ++ ml_pac))) 125 = 36 := (mN_at ce_pac_51)
      have n126 : (glu ι_pac N (mN κ_pac (mstat ++ ml_pac))) 126 = 36 := (mN_at ce_pac_52)
      have n127 : (glu ι_pac N (mN κ_pac (mstat ++ ml_pac))) 127 = 36 := (mN_at ce_pac_53)
      have n128 : (glu ι_pac N (mN κ_pac (mstat ++ ml_pac))) 128 = 36 := (mN_at ce_pac_54)
      have n129 : (glu ι_pac N (mN κ_pac (mstat ++ ml_pac))) 129 = 36 := (mN_at ce_pac_55)
      have n130 : (glu ι_pac N (mN κ_pac (mstat ++ ml_pac))) 130 = 512 := (mN_at ce_pac_56)
      have n131 : (glu ι_pac N (mN κ_pac (mstat ++ ml_pac))) 131 = 512 := (mN_at ce_pac_57)
      have n132 : (glu ι_pac N (mN κ_pac (mstat ++ ml_pac))) 132 = 512 := (mN_at ce_pac_58)
      have n134 : (glu ι_pac N (mN κ_pac (mstat ++ ml_pac))) 134 = 32 := (mN_at ce_pac_60)
      have n135 : (glu ι_pac N (mN κ_pac (mstat ++ ml_pac))) 135 = 32 := (mN_at ce_pac_61)
      have n136 : (glu ι_pac N (mN κ_pac (mstat ++ ml_pac))) 136 = 32 := (mN_at ce_pac_62)
      have n137 : (glu ι_pac N (mN κ_pac (mstat ++ ml_pac))) 137 = 32 := (mN_at ce_pac_63)
      have n138 : (glu ι_pac N (mN κ_pac (mstat ++ ml_pac))) 138 = 32 := (mN_at ce_pac_64)
      have n139 : (glu ι_pac N (mN κ_pac (mstat ++ ml_pac))) 139 = 256 := (mN_at ce_pac_65)
      have n140 : (glu ι_pac N (mN κ_pac (mstat ++ ml_pac))) 140 = 256 := (mN_at ce_pac_66)
      have n141 : (glu ι_pac N (mN κ_pac (mstat ++ ml_pac))) 141 = 256 := (mN_at ce_pac_67)
      have n143 : (glu ι_pac N (mN κ_pac (mstat ++ ml_pac))) 143 = 53 := (mN_at ce_pac_69)
      have n144 : (glu ι_pac N (mN κ_pac (mstat ++ ml_pac))) 144 = 53 := (mN_at ce_pac_70)
      have n145 : (glu ι_pac N (mN κ_pac (mstat ++ ml_pac))) 145 = 53 := (mN_at ce_pac_71)
      have n146 : (glu ι_pac N (mN κ_pac (mstat ++ ml_pac))) 146 = 53 := (mN_at ce_pac_72)
      have n147 : (glu ι_pac N (mN κ_pac (mstat ++ ml_pac))) 147 = 53 := (mN_at ce_pac_73)
      have n148 : (glu ι_pac N (mN κ_pac (mstat ++ ml_pac))) 148 = 512 := (mN_at ce_pac_74)
      have n149 : (glu ι_pac N (mN κ_pac (mstat ++ ml_pac))) 149 = 512 := (mN_at ce_pac_75)
      have n150 : (glu ι_pac N (mN κ_pac (mstat ++ ml_pac))) 150 = 512 := (mN_at ce_pac_76)
      have n151 : (glu ι_pac N (mN κ_pac (mstat ++ ml_pac))) 151 = 3 := (mN_at ce_pac_77)
      have n153 : (glu ι_pac N (mN κ_pac (mstat ++ ml_pac))) 153 = 36 := (mN_at ce_pac_79)
      have n154 : (glu ι_pac N (mN κ_pac (mstat ++ ml_pac))) 154 = 36 := (mN_at ce_pac_80)
      have n155 : (glu ι_pac N (mN κ_pac (mstat ++ ml_pac))) 155 = 36 := (mN_at ce_pac_81)
      have n156 : (glu ι_pac N (mN κ_pac (mstat ++ ml_pac))) 156 = 36 := (mN_at ce_pac_82)
      have n157 : (glu ι_pac N (mN κ_pac (mstat ++ ml_pac))) 157 = 36 := (mN_at ce_pac_83)
      have n158 : (glu ι_pac N (mN κ_pac (mstat ++ ml_pac))) 158 = 512 := (mN_at ce_pac_84)
      have n159 : (glu ι_pac N (mN κ_pac (mstat ++ ml_pac))) 159 = 512 := (mN_at ce_pac_85)
      have n160 : (glu ι_pac N (mN κ_pac (mstat ++ ml_pac))) 160 = 512 := (mN_at ce_pac_86)
      have n162 : (glu ι_pac N (mN κ_pac (mstat ++ ml_pac))) 162 = 32 := (mN_at ce_pac_88)
      have n163 : (glu ι_pac N (mN κ_pac (mstat ++ ml_pac))) 163 = 32 := (mN_at ce_pac_89)
      have n164 : (glu ι_pac N (mN κ_pac (mstat ++ ml_pac))) 164 = 32 := (mN_at ce_pac_90)
      have n165 : (glu ι_pac N (mN κ_pac (mstat ++ ml_pac))) 165 = 32 := (mN_at ce_pac_91)
      have n166 : (glu ι_pac N (mN κ_pac (mstat ++ ml_pac))) 166 = 32 := (mN_at ce_pac_92)
      have n167 : (glu ι_pac N (mN κ_pac (mstat ++ ml_pac))) 167 = 256 := (mN_at ce_pac_93)
      have n168 : (glu ι_pac N (mN κ_pac (mstat ++ ml_pac))) 168 = 256 := (mN_at ce_pac_94)
      have n169 : (glu ι_pac N (mN κ_pac (mstat ++ ml_pac))) 169 = 256 := (mN_at ce_pac_95)
      have n171 : (glu ι_pac N (mN κ_pac (mstat ++ ml_pac))) 171 = 53 := (mN_at ce_pac_97)
      have n172 : (glu ι_pac N (mN κ_pac (mstat ++ ml_pac))) 172 = 53 := (mN_at ce_pac_98)
      have n173 : (glu ι_pac N (mN κ_pac (mstat ++ ml_pac))) 173 = 53 := (mN_at ce_pac_99)
      have n174 : (glu ι_pac N (mN κ_pac (mstat ++ ml_pac))) 174 = 53 := (mN_at ce_pac_100)
      have n175 : (glu ι_pac N (mN κ_pac (mstat ++ ml_pac))) 175 = 53 := (mN_at ce_pac_101)
      have n176 : (glu ι_pac N (mN κ_pac (mstat ++ ml_pac))) 176 = 512 := (mN_at ce_pac_102)
      have n177 : (glu ι_pac N (mN κ_pac (mstat ++ ml_pac))) 177 = 512 := (mN_at ce_pac_103)
      have n178 : (glu ι_pac N (mN κ_pac (mstat ++ ml_pac))) 178 = 512 := (mN_at ce_pac_104)
      have n180 : (glu ι_pac N (mN κ_pac (mstat ++ ml_pac))) 180 = 3 := (mN_at ce_pac_106)
      have n181 : (glu ι_pac N (mN κ_pac (mstat ++ ml_pac))) 181 = 3 := (mN_at ce_pac_107)
      have n183 : (glu ι_pac N (mN κ_pac (mstat ++ ml_pac))) 183 = 3 := (mN_at ce_pac_109)
      have n184 : (glu ι_pac N (mN κ_pac (mstat ++ ml_pac))) 184 = 3 := (mN_at ce_pac_110)
      have n186 : (glu ι_pac N (mN κ_pac (mstat ++ ml_pac))) 186 = 0 := (mN_at ce_pac_112)
      have n188 : (glu ι_pac N (mN κ_pac (mstat ++ ml_pac))) 188 = 0 := (mN_at ce_pac_114)
      have n190 : (glu ι_pac N (mN κ_pac (mstat ++ ml_pac))) 190 = 0 := (mN_at ce_pac_116)
      have n191 : (glu ι_pac N (mN κ_pac (mstat ++ ml_pac))) 191 = 256 := (mN_at ce_pac_117)
      have n192 : (glu ι_pac N (mN κ_pac (mstat ++ ml_pac))) 192 = 53 := (mN_at ce_pac_118)
      have n193 : (glu ι_pac N (mN κ_pac (mstat ++ ml_pac))) 193 = 3 := (mN_at ce_pac_119)
      have n194 : (glu ι_pac N (mN κ_pac (mstat ++ ml_pac))) 194 = 0 := (mN_at ce_pac_120)
      have n195 : (glu ι_pac N (mN κ_pac (mstat ++ ml_pac))) 195 = 0 := (mN_at ce_pac_121)
      have n196 : (glu ι_pac N (mN κ_pac (mstat ++ ml_pac))) 196 = 0 := (mN_at ce_pac_122)
      have n197 : (glu ι_pac N (mN κ_pac (mstat ++ ml_pac))) 197 = 0 := (mN_at ce_pac_123)
      have n198 : (glu ι_pac N (mN κ_pac (mstat ++ ml_pac))) 198 = 3 := (mN_at ce_pac_124)
      have n199 : (glu ι_pac N (mN κ_pac (mstat ++ ml_pac))) 199 = 13 := (mN_at ce_pac_125)
      have f83_1 : (glu ι_pac F (mFd (mnu (F 0)) (mrho (D 0) σ.length (F 0)) κ_pac (mstat ++ ml_pac))) 83 1 = 12 := (show (mFd (mnu (F 0)) (mrho (D 0) σ.length (F 0)) κ_pac (mstat ++ ml_pac)) 9 1 = 12 from (mFd_at (k := 1) ce_pac_9).trans (show ((12 : Int32)).toInt = 12 by decide))
      have f92_1 : (glu ι_pac F (mFd (mnu (F 0)) (mrho (D 0) σ.length (F 0)) κ_pac (mstat ++ ml_pac))) 92 1 = 0 := (show (mFd (mnu (F 0)) (mrho (D 0) σ.length (F 0)) κ_pac (mstat ++ ml_pac)) 18 1 = 0 from (mFd_at (k := 1) ce_pac_18).trans (show ((0 : Int32)).toInt = 0 by decide))
      have f94_1 : (glu ι_pac F (mFd (mnu (F 0)) (mrho (D 0) σ.length (F 0)) κ_pac (mstat ++ ml_pac))) 94 1 = 0 := (show (mFd (mnu (F 0)) (mrho (D 0) σ.length (F 0)) κ_pac (mstat ++ ml_pac)) 20 1 = 0 from (mFd_at (k := 1) ce_pac_20).trans (show ((0 : Int32)).toInt = 0 by decide))
      have f106_1 : (glu ι_pac F (mFd (mnu (F 0)) (mrho (D 0) σ.length (F 0)) κ_pac (mstat ++ ml_pac))) 106 1 = 12 := (show (mFd (mnu (F 0)) (mrho (D 0) σ.length (F 0)) κ_pac (mstat ++ ml_pac)) 32 1 = 12 from (mFd_at (k := 1) ce_pac_32).trans (show ((12 : Int32)).toInt = 12 by decide))
      have f115_1 : (glu ι_pac F (mFd (mnu (F 0)) (mrho (D 0) σ.length (F 0)) κ_pac (mstat ++ ml_pac))) 115 1 = 0 := (show (mFd (mnu (F 0)) (mrho (D 0) σ.length (F 0)) κ_pac (mstat ++ ml_pac)) 41 1 = 0 from (mFd_at (k := 1) ce_pac_41).trans (show ((0 : Int32)).toInt = 0 by decide))
      have f117_1 : (glu ι_pac F (mFd (mnu (F 0)) (mrho (D 0) σ.length (F 0)) κ_pac (mstat ++ ml_pac))) 117 1 = 0 := (show (mFd (mnu (F 0)) (mrho (D 0) σ.length (F 0)) κ_pac (mstat ++ ml_pac)) 43 1 = 0 from (mFd_at (k := 1) ce_pac_43).trans (show ((0 : Int32)).toInt = 0 by decide))
      have f124_1 : (glu ι_pac F (mFd (mnu (F 0)) (mrho (D 0) σ.length (F 0)) κ_pac (mstat ++ ml_pac))) 124 1 = 36 := (show (mFd (mnu (F 0)) (mrho (D 0) σ.length (F 0)) κ_pac (mstat ++ ml_pac)) 50 1 = 36 from (mFd_at (k := 1) ce_pac_50).trans (show ((36 : Int32)).toInt = 36 by decide))
      have f133_1 : (glu ι_pac F (mFd (mnu (F 0)) (mrho (D 0) σ.length (F 0)) κ_pac (mstat ++ ml_pac))) 133 1 = 32 := (show (mFd (mnu (F 0)) (mrho (D 0) σ.length (F 0)) κ_pac (mstat ++ ml_pac)) 59 1 = 32 from (mFd_at (k := 1) ce_pac_59).trans (show ((32 : Int32)).toInt = 32 by decide))
      have f142_1 : (glu ι_pac F (mFd (mnu (F 0)) (mrho (D 0) σ.length (F 0)) κ_pac (mstat ++ ml_pac))) 142 1 = 53 := (show (mFd (mnu (F 0)) (mrho (D 0) σ.length (F 0)) κ_pac (mstat ++ ml_pac)) 68 1 = 53 from (mFd_at (k := 1) ce_pac_68).trans (show ((53 : Int32)).toInt = 53 by decide))
      have f152_1 : (glu ι_pac F (mFd (mnu (F 0)) (mrho (D 0) σ.length (F 0)) κ_pac (mstat ++ ml_pac))) 152 1 = 36 := (show (mFd (mnu (F 0)) (mrho (D 0) σ.length (F 0)) κ_pac (mstat ++ ml_pac)) 78 1 = 36 from (mFd_at (k := 1) ce_pac_78).trans (show ((36 : Int32)).toInt = 36 by decide))
      have f161_1 : (glu ι_pac F (mFd (mnu (F 0)) (mrho (D 0) σ.length (F 0)) κ_pac (mstat ++ ml_pac))) 161 1 = 32 := (show (mFd (mnu (F 0)) (mrho (D 0) σ.length (F 0)) κ_pac (mstat ++ ml_pac)) 87 1 = 32 from (mFd_at (k := 1) ce_pac_87).trans (show ((32 : Int32)).toInt = 32 by decide))
      have f170_1 : (glu ι_pac F (mFd (mnu (F 0)) (mrho (D 0) σ.length (F 0)) κ_pac (mstat ++ ml_pac))) 170 1 = 53 := (show (mFd (mnu (F 0)) (mrho (D 0) σ.length (F 0)) κ_pac (mstat ++ ml_pac)) 96 1 = 53 from (mFd_at (k := 1) ce_pac_96).trans (show ((53 : Int32)).toInt = 53 by decide))
      have f185_1 : (glu ι_pac F (mFd (mnu (F 0)) (mrho (D 0) σ.length (F 0)) κ_pac (mstat ++ ml_pac))) 185 1 = 0 := (show (mFd (mnu (F 0)) (mrho (D 0) σ.length (F 0)) κ_pac (mstat ++ ml_pac)) 111 1 = 0 from (mFd_at (k := 1) ce_pac_111).trans (show ((0 : Int32)).toInt = 0 by decide))
      have f187_1 : (glu ι_pac F (mFd (mnu (F 0)) (mrho (D 0) σ.length (F 0)) κ_pac (mstat ++ ml_pac))) 187 1 = 0 := (show (mFd (mnu (F 0)) (mrho (D 0) σ.length (F 0)) κ_pac (mstat ++ ml_pac)) 113 1 = 0 from (mFd_at (k := 1) ce_pac_113).trans (show ((0 : Int32)).toInt = 0 by decide))
      have f189_1 : (glu ι_pac F (mFd (mnu (F 0)) (mrho (D 0) σ.length (F 0)) κ_pac (mstat ++ ml_pac))) 189 1 = 0 := (show (mFd (mnu (F 0)) (mrho (D 0) σ.length (F 0)) κ_pac (mstat ++ ml_pac)) 115 1 = 0 from (mFd_at (k := 1) ce_pac_115).trans (show ((0 : Int32)).toInt = 0 by decide))
      have a80 : (glu ι_pac A (mA (mnu (F 0)) (mrho (D 0) σ.length (F 0)) κ_pac (mstat ++ ml_pac))) 80 = izl [] := (show (mA (mnu (F 0)) (mrho (D 0) σ.length (F 0)) κ_pac (mstat ++ ml_pac)) 6 = izl [] from mA_izl ce_pac_6 rfl)
      have a103 : (glu ι_pac A (mA (mnu (F 0)) (mrho (D 0) σ.length (F 0)) κ_pac (mstat ++ ml_pac))) 103 = izl [] := (show (mA (mnu (F 0)) (mrho (D 0) σ.length (F 0)) κ_pac (mstat ++ ml_pac)) 29 = izl [] from mA_izl ce_pac_29 rfl)
      have a198 : (glu ι_pac A (mA (mnu (F 0)) (mrho (D 0) σ.length (F 0)) κ_pac (mstat ++ ml_pac))) 198 = izl [] := (show (mA (mnu (F 0)) (mrho (D 0) σ.length (F 0)) κ_pac (mstat ++ ml_pac)) 124 = izl [] from mA_izl ce_pac_124 rfl)
      exact ⟨show 0 ≤ ((glu ι_pac F (mFd (mnu (F 0)) (mrho (D 0) σ.length (F 0)) κ_pac (mstat ++ ml_pac))) 185 1) ∧ ((glu ι_pac F (mFd (mnu (F 0)) (mrho (D 0) σ.length (F 0)) κ_pac (mstat ++ ml_pac))) 185 1) ≤ ((((glu ι_pac N (mN κ_pac (mstat ++ ml_pac))) 186 : Nat) : Int)) ∧ ((((glu ι_pac N (mN κ_pac (mstat ++ ml_pac))) 186 : Nat) : Int)) ≤ 65536 from (by omega), show 0 ≤ ((glu ι_pac F (mFd (mnu (F 0)) (mrho (D 0) σ.length (F 0)) κ_pac (mstat ++ ml_pac))) 187 1) ∧ ((glu ι_pac F (mFd (mnu (F 0)) (mrho (D 0) σ.length (F 0)) κ_pac (mstat ++ ml_pac))) 187 1) ≤ ((((glu ι_pac N (mN κ_pac (mstat ++ ml_pac))) 188 : Nat) : Int)) ∧ ((((glu ι_pac N (mN κ_pac (mstat ++ ml_pac))) 188 : Nat) : Int)) ≤ 65536 from (by omega), show 0 ≤ ((glu ι_pac F (mFd (mnu (F 0)) (mrho (D 0) σ.length (F 0)) κ_pac (mstat ++ ml_pac))) 189 1) ∧ ((glu ι_pac F (mFd (mnu (F 0)) (mrho (D 0) σ.length (F 0)) κ_pac (mstat ++ ml_pac))) 189 1) ≤ ((((glu ι_pac N (mN κ_pac (mstat ++ ml_pac))) 190 : Nat) : Int)) ∧ ((((glu ι_pac N (mN κ_pac (mstat ++ ml_pac))) 190 : Nat) : Int)) ≤ 65536 from (by omega), show ((((glu ι_pac N (mN κ_pac (mstat ++ ml_pac))) 191 : Nat) : Int)) = 256 ∧ ((((glu ι_pac N (mN κ_pac (mstat ++ ml_pac))) 192 : Nat) : Int)) = 53 ∧ ((((glu ι_pac N (mN κ_pac (mstat ++ ml_pac))) 199 : Nat) : Int)) = 13 ∧ ((((glu ι_pac N (mN κ_pac (mstat ++ ml_pac))) 198 : Nat) : Int)) = 3 ∧ ((((glu ι_pac N (mN κ_pac (mstat ++ ml_pac))) 76 : Nat) : Int)) = 2 ∧ ((((glu ι_pac N (mN κ_pac (mstat ++ ml_pac))) 180 : Nat) : Int)) = 3 ∧ ((((glu ι_pac N (mN κ_pac (mstat ++ ml_pac))) 181 : Nat) : Int)) = 3 ∧ ((((glu ι_pac N (mN κ_pac (mstat ++ ml_pac))) 183 : Nat) : Int)) = 3 ∧ ((((glu ι_pac N (mN κ_pac (mstat ++ ml_pac))) 184 : Nat) : Int)) = 3 ∧ ((((glu ι_pac N (mN κ_pac (mstat ++ ml_pac))) 123 : Nat) : Int)) = 3 ∧ ((((glu ι_pac N (mN κ_pac (mstat ++ ml_pac))) 151 : Nat) : Int)) = 3 from (by omega), show ((((glu ι_pac N (mN κ_pac (mstat ++ ml_pac))) 193 : Nat) : Int)) = 3 ∧ ((((glu ι_pac N (mN κ_pac (mstat ++ ml_pac))) 194 : Nat) : Int)) = ((((glu ι_pac N (mN κ_pac (mstat ++ ml_pac))) 197 : Nat) : Int)) ∧ ((((glu ι_pac N (mN κ_pac (mstat ++ ml_pac))) 195 : Nat) : Int)) = ((((glu ι_pac N (mN κ_pac (mstat ++ ml_pac))) 197 : Nat) : Int)) ∧ ((((glu ι_pac N (mN κ_pac (mstat ++ ml_pac))) 196 : Nat) : Int)) = ((((glu ι_pac N (mN κ_pac (mstat ++ ml_pac))) 197 : Nat) : Int)) ∧ lgq (((((glu ι_pac N (mN κ_pac (mstat ++ ml_pac))) 197 : Nat) : Int))) = 0 ∧ ((((glu ι_pac N (mN κ_pac (mstat ++ ml_pac))) 197 : Nat) : Int)) ≤ 16384 from (by try unfold lgq; omega), show CDZD (((((glu ι_pac N (mN κ_pac (mstat ++ ml_pac))) 78 : Nat) : Int))) (((((glu ι_pac N (mN κ_pac (mstat ++ ml_pac))) 79 : Nat) : Int))) (((((glu ι_pac N (mN κ_pac (mstat ++ ml_pac))) 80 : Nat) : Int))) (((((glu ι_pac N (mN κ_pac (mstat ++ ml_pac))) 81 : Nat) : Int))) (((((glu ι_pac N (mN κ_pac (mstat ++ ml_pac))) 82 : Nat) : Int))) (((((glu ι_pac N (mN κ_pac (mstat ++ ml_pac))) 97 : Nat) : Int))) (((((glu ι_pac N (mN κ_pac (mstat ++ ml_pac))) 98 : Nat) : Int))) (((((glu ι_pac N (mN κ_pac (mstat ++ ml_pac))) 99 : Nat) : Int))) from (by unfold CDZD; rw [n78, n79, n80, n81, n82, n97, n98, n99]; decide), show SHZD (((((glu ι_pac N (mN κ_pac (mstat ++ ml_pac))) 84 : Nat) : Int))) (((((glu ι_pac N (mN κ_pac (mstat ++ ml_pac))) 85 : Nat) : Int))) (((((glu ι_pac N (mN κ_pac (mstat ++ ml_pac))) 86 : Nat) : Int))) (((((glu ι_pac N (mN κ_pac (mstat ++ ml_pac))) 87 : Nat) : Int))) (((((glu ι_pac N (mN κ_pac (mstat ++ ml_pac))) 88 : Nat) : Int))) (((((glu ι_pac N (mN κ_pac (mstat ++ ml_pac))) 89 : Nat) : Int))) (((((glu ι_pac N (mN κ_pac (mstat ++ ml_pac))) 90 : Nat) : Int))) (((((glu ι_pac N (mN κ_pac (mstat ++ ml_pac))) 91 : Nat) : Int))) (((glu ι_pac F (mFd (mnu (F 0)) (mrho (D 0) σ.length (F 0)) κ_pac (mstat ++ ml_pac))) 83 1)) 12 64 from (by unfold SHZD; rw [f83_1, n84, n85, n86, n87, n88, n89, n90, n91]; decide), show 0 ≤ ((glu ι_pac F (mFd (mnu (F 0)) (mrho (D 0) σ.length (F 0)) κ_pac (mstat ++ ml_pac))) 92 1) ∧ ((glu ι_pac F (mFd (mnu (F 0)) (mrho (D 0) σ.length (F 0)) κ_pac (mstat ++ ml_pac))) 92 1) ≤ ((((glu ι_pac N (mN κ_pac (mstat ++ ml_pac))) 93 : Nat) : Int)) ∧ ((((glu ι_pac N (mN κ_pac (mstat ++ ml_pac))) 93 : Nat) : Int)) ≤ 65536 from (by omega), show 0 ≤ ((glu ι_pac F (mFd (mnu (F 0)) (mrho (D 0) σ.length (F 0)) κ_pac (mstat ++ ml_pac))) 94 1) ∧ ((glu ι_pac F (mFd (mnu (F 0)) (mrho (D 0) σ.length (F 0)) κ_pac (mstat ++ ml_pac))) 94 1) ≤ ((((glu ι_pac N (mN κ_pac (mstat ++ ml_pac))) 95 : Nat) : Int)) ∧ ((((glu ι_pac N (mN κ_pac (mstat ++ ml_pac))) 95 : Nat) : Int)) ≤ 65536 from (by omega), show CEL (((glu ι_pac A (mA (mnu (F 0)) (mrho (D 0) σ.length (F 0)) κ_pac (mstat ++ ml_pac))) 80)) from (by rw [a80]; exact CEL_0), show CDZD (((((glu ι_pac N (mN κ_pac (mstat ++ ml_pac))) 101 : Nat) : Int))) (((((glu ι_pac N (mN κ_pac (mstat ++ ml_pac))) 102 : Nat) : Int))) (((((glu ι_pac N (mN κ_pac (mstat ++ ml_pac))) 103 : Nat) : Int))) (((((glu ι_pac N (mN κ_pac (mstat ++ ml_pac))) 104 : Nat) : Int))) (((((glu ι_pac N (mN κ_pac (mstat ++ ml_pac))) 105 : Nat) : Int))) (((((glu ι_pac N (mN κ_pac (mstat ++ ml_pac))) 120 : Nat) : Int))) (((((glu ι_pac N (mN κ_pac (mstat ++ ml_pac))) 121 : Nat) : Int))) (((((glu ι_pac N (mN κ_pac (mstat ++ ml_pac))) 122 : Nat) : Int))) from (by unfold CDZD; rw [n101, n102, n103, n104, n105, n120, n121, n122]; decide), show SHZD (((((glu ι_pac N (mN κ_pac (mstat ++ ml_pac))) 107 : Nat) : Int))) (((((glu ι_pac N (mN κ_pac (mstat ++ ml_pac))) 108 : Nat) : Int))) (((((glu ι_pac N (mN κ_pac (mstat ++ ml_pac))) 109 : Nat) : Int))) (((((glu ι_pac N (mN κ_pac (mstat ++ ml_pac))) 110 : Nat) : Int))) (((((glu ι_pac N (mN κ_pac (mstat ++ ml_pac))) 111 : Nat) : Int))) (((((glu ι_pac N (mN κ_pac (mstat ++ ml_pac))) 112 : Nat) : Int))) (((((glu ι_pac N (mN κ_pac (mstat ++ ml_pac))) 113 : Nat) : Int))) (((((glu ι_pac N (mN κ_pac (mstat ++ ml_pac))) 114 : Nat) : Int))) (((glu ι_pac F (mFd (mnu (F 0)) (mrho (D 0) σ.length (F 0)) κ_pac (mstat ++ ml_pac))) 106 1)) 12 64 from (by unfold SHZD; rw [f106_1, n107, n108, n109, n110, n111, n112, n113, n114]; decide), show 0 ≤ ((glu ι_pac F (mFd (mnu (F 0)) (mrho (D 0) σ.length (F 0)) κ_pac (mstat ++ ml_pac))) 115 1) ∧ ((glu ι_pac F (mFd (mnu (F 0)) (mrho (D 0) σ.length (F 0)) κ_pac (mstat ++ ml_pac))) 115 1) ≤ ((((glu ι_pac N (mN κ_pac (mstat ++ ml_pac))) 116 : Nat) : Int)) ∧ ((((glu ι_pac N (mN κ_pac (mstat ++ ml_pac))) 116 : Nat) : Int)) ≤ 65536 from (by omega), show 0 ≤ ((glu ι_pac F (mFd (mnu (F 0)) (mrho (D 0) σ.length (F 0)) κ_pac (mstat ++ ml_pac))) 117 1) ∧ ((glu ι_pac F (mFd (mnu (F 0)) (mrho (D 0) σ.length (F 0)) κ_pac (mstat ++ ml_pac))) 117 1) ≤ ((((glu ι_pac N (mN κ_pac (mstat ++ ml_pac))) 118 : Nat) : Int)) ∧ ((((glu ι_pac N (mN κ_pac (mstat ++ ml_pac))) 118 : Nat) : Int)) ≤ 65536 from (by omega), show CEL (((glu ι_pac A (mA (mnu (F 0)) (mrho (D 0) σ.length (F 0)) κ_pac (mstat ++ ml_pac))) 103)) from (by rw [a103]; exact CEL_0), show SHZD (((((glu ι_pac N (mN κ_pac (mstat ++ ml_pac))) 125 : Nat) : Int))) (((((glu ι_pac N (mN κ_pac (mstat ++ ml_pac))) 126 : Nat) : Int))) (((((glu ι_pac N (mN κ_pac (mstat ++ ml_pac))) 127 : Nat) : Int))) (((((glu ι_pac N (mN κ_pac (mstat ++ ml_pac))) 128 : Nat) : Int))) (((((glu ι_pac N (mN κ_pac (mstat ++ ml_pac))) 129 : Nat) : Int))) (((((glu ι_pac N (mN κ_pac (mstat ++ ml_pac))) 130 : Nat) : Int))) (((((glu ι_pac N (mN κ_pac (mstat ++ ml_pac))) 131 : Nat) : Int))) (((((glu ι_pac N (mN κ_pac (mstat ++ ml_pac))) 132 : Nat) : Int))) (((glu ι_pac F (mFd (mnu (F 0)) (mrho (D 0) σ.length (F 0)) κ_pac (mstat ++ ml_pac))) 124 1)) 36 512 from (by unfold SHZD; rw [f124_1, n125, n126, n127, n128, n129, n130, n131, n132]; decide), show SHZD (((((glu ι_pac N (mN κ_pac (mstat ++ ml_pac))) 153 : Nat) : Int))) (((((glu ι_pac N (mN κ_pac (mstat ++ ml_pac))) 154 : Nat) : Int))) (((((glu ι_pac N (mN κ_pac (mstat ++ ml_pac))) 155 : Nat) : Int))) (((((glu ι_pac N (mN κ_pac (mstat ++ ml_pac))) 156 : Nat) : Int))) (((((glu ι_pac N (mN κ_pac (mstat ++ ml_pac))) 157 : Nat) : Int))) (((((glu ι_pac N (mN κ_pac (mstat ++ ml_pac))) 158 : Nat) : Int))) (((((glu ι_pac N (mN κ_pac (mstat ++ ml_pac))) 159 : Nat) : Int))) (((((glu ι_pac N (mN κ_pac (mstat ++ ml_pac))) 160 : Nat) : Int))) (((glu ι_pac F (mFd (mnu (F 0)) (mrho (D 0) σ.length (F 0)) κ_pac (mstat ++ ml_pac))) 152 1)) 36 512 from (by unfold SHZD; rw [f152_1, n153, n154, n155, n156, n157, n158, n159, n160]; decide), show SHZD (((((glu ι_pac N (mN κ_pac (mstat ++ ml_pac))) 134 : Nat) : Int))) (((((glu ι_pac N (mN κ_pac (mstat ++ ml_pac))) 135 : Nat) : Int))) (((((glu ι_pac N (mN κ_pac (mstat ++ ml_pac))) 136 : Nat) : Int))) (((((glu ι_pac N (mN κ_pac (mstat ++ ml_pac))) 137 : Nat) : Int))) (((((glu ι_pac N (mN κ_pac (mstat ++ ml_pac))) 138 : Nat) : Int))) (((((glu ι_pac N (mN κ_pac (mstat ++ ml_pac))) 139 : Nat) : Int))) (((((glu ι_pac N (mN κ_pac (mstat ++ ml_pac))) 140 : Nat) : Int))) (((((glu ι_pac N (mN κ_pac (mstat ++ ml_pac))) 141 : Nat) : Int))) (((glu ι_pac F (mFd (mnu (F 0)) (mrho (D 0) σ.length (F 0)) κ_pac (mstat ++ ml_pac))) 133 1)) 32 256 from (by unfold SHZD; rw [f133_1, n134, n135, n136, n137, n138, n139, n140, n141]; decide), show SHZD (((((glu ι_pac N (mN κ_pac (mstat ++ ml_pac))) 162 : Nat) : Int))) (((((glu ι_pac N (mN κ_pac (mstat ++ ml_pac))) 163 : Nat) : Int))) (((((glu ι_pac N (mN κ_pac (mstat ++ ml_pac))) 164 : Nat) : Int))) (((((glu ι_pac N (mN κ_pac (mstat ++ ml_pac))) 165 : Nat) : Int))) (((((glu ι_pac N (mN κ_pac (mstat ++ ml_pac))) 166 : Nat) : Int))) (((((glu ι_pac N (mN κ_pac (mstat ++ ml_pac))) 167 : Nat) : Int))) (((((glu ι_pac N (mN κ_pac (mstat ++ ml_pac))) 168 : Nat) : Int))) (((((glu ι_pac N (mN κ_pac (mstat ++ ml_pac))) 169 : Nat) : Int))) (((glu ι_pac F (mFd (mnu (F 0)) (mrho (D 0) σ.length (F 0)) κ_pac (mstat ++ ml_pac))) 161 1)) 32 256 from (by unfold SHZD; rw [f161_1, n162, n163, n164, n165, n166, n167, n168, n169]; decide), show SHZD (((((glu ι_pac N (mN κ_pac (mstat ++ ml_pac))) 143 : Nat) : Int))) (((((glu ι_pac N (mN κ_pac (mstat ++ ml_pac))) 144 : Nat) : Int))) (((((glu ι_pac N (mN κ_pac (mstat ++ ml_pac))) 145 : Nat) : Int))) (((((glu ι_pac N (mN κ_pac (mstat ++ ml_pac))) 146 : Nat) : Int))) (((((glu ι_pac N (mN κ_pac (mstat ++ ml_pac))) 147 : Nat) : Int))) (((((glu ι_pac N (mN κ_pac (mstat ++ ml_pac))) 148 : Nat) : Int))) (((((glu ι_pac N (mN κ_pac (mstat ++ ml_pac))) 149 : Nat) : Int))) (((((glu ι_pac N (mN κ_pac (mstat ++ ml_pac))) 150 : Nat) : Int))) (((glu ι_pac F (mFd (mnu (F 0)) (mrho (D 0) σ.length (F 0)) κ_pac (mstat ++ ml_pac))) 142 1)) 53 512 from (by unfold SHZD; rw [f142_1, n143, n144, n145, n146, n147, n148, n149, n150]; decide), show SHZD (((((glu ι_pac N (mN κ_pac (mstat ++ ml_pac))) 171 : Nat) : Int))) (((((glu ι_pac N (mN κ_pac (mstat ++ ml_pac))) 172 : Nat) : Int))) (((((glu ι_pac N (mN κ_pac (mstat ++ ml_pac))) 173 : Nat) : Int))) (((((glu ι_pac N (mN κ_pac (mstat ++ ml_pac))) 174 : Nat) : Int))) (((((glu ι_pac N (mN κ_pac (mstat ++ ml_pac))) 175 : Nat) : Int))) (((((glu ι_pac N (mN κ_pac (mstat ++ ml_pac))) 176 : Nat) : Int))) (((((glu ι_pac N (mN κ_pac (mstat ++ ml_pac))) 177 : Nat) : Int))) (((((glu ι_pac N (mN κ_pac (mstat ++ ml_pac))) 178 : Nat) : Int))) (((glu ι_pac F (mFd (mnu (F 0)) (mrho (D 0) σ.length (F 0)) κ_pac (mstat ++ ml_pac))) 170 1)) 53 512 from (by unfold SHZD; rw [f170_1, n171, n172, n173, n174, n175, n176, n177, n178]; decide), show 0 ≤ (((glu ι_pac A (mA (mnu (F 0)) (mrho (D 0) σ.length (F 0)) κ_pac (mstat ++ ml_pac))) 198)) 0 ∧ (((glu ι_pac A (mA (mnu (F 0)) (mrho (D 0) σ.length (F 0)) κ_pac (mstat ++ ml_pac))) 198)) 0 ≤ 3 ∧ 0 ≤ (((glu ι_pac A (mA (mnu (F 0)) (mrho (D 0) σ.length (F 0)) κ_pac (mstat ++ ml_pac))) 198)) 1 ∧ (((glu ι_pac A (mA (mnu (F 0)) (mrho (D 0) σ.length (F 0)) κ_pac (mstat ++ ml_pac))) 198)) 1 ≤ 3 ∧ 0 ≤ (((glu ι_pac A (mA (mnu (F 0)) (mrho (D 0) σ.length (F 0)) κ_pac (mstat ++ ml_pac))) 198)) 2 ∧ (((glu ι_pac A (mA (mnu (F 0)) (mrho (D 0) σ.length (F 0)) κ_pac (mstat ++ ml_pac))) 198)) 2 ≤ 3 from (by rw [a198]; decide)⟩
    · have := hr.1
      unfold PCg
      omega
    · have := hr.2
      unfold PSg
      omega


end
section
/-! W1pacF.make -/
theorem ce_pacF_0 : rat (mstat ++ ml_pacF) (κ_pacF.getD 0 0) = some (.inl (0, [.ref 1000, .ref 1001, .ref 1002, .ref 1003, .ref 1004, .ref 1005, .ref 1006, .ref 13, .retAddr 8, .retAddr 9, .ref 1010, .ref 12, .retAddr 12, .ref 1013, .ref 1014, .ref 1015, .ref 1016, .float 17, .float 18])) := (rat_mst (l := ml_pacF) (i := 0)).trans rfl
theorem ce_pacF_2 : rat (mstat ++ ml_pacF) (κ_pacF.getD 2 0) = some (.inl (7, [.ref 15, .int 0, .int 0, .int 0, .int 0])) := (rat_mst (l := ml_pacF) (i := 3)).trans rfl
theorem ce_pacF_3 : rat (mstat ++ ml_pacF) (κ_pacF.getD 3 0) = some (.inr (0, 0, .int 0, [])) := (rat_mst (l := ml_pacF) (i := 4)).trans rfl
theorem ce_pacF_4 : rat (mstat ++ ml_pacF) (κ_pacF.getD 4 0) = some (.inr (1, 0, .int 0, [])) := (rat_mst (l := ml_pacF) (i := 5)).trans rfl
theorem ce_pacF_5 : rat (mstat ++ ml_pacF) (κ_pacF.getD 5 0) = some (.inr (1, 0, .int 0, [])) := (rat_mst (l := ml_pacF) (i := 6)).trans rfl
theorem ce_pacF_6 : rat (mstat ++ ml_pacF) (κ_pacF.getD 6 0) = some (.inr (1, 0, .int 0, [])) := (rat_mst (l := ml_pacF) (i := 7)).trans rfl
theorem ce_pacF_7 : rat (mstat ++ ml_pacF) (κ_pacF.getD 7 0) = some (.inr (1, 0, .int 0, [])) := (rat_mst (l := ml_pacF) (i := 8)).trans rfl
theorem ce_pacF_8 : rat (mstat ++ ml_pacF) (κ_pacF.getD 8 0) = some (.inr (1, 0, .int 0, [])) := (rat_mst (l := ml_pacF) (i := 9)).trans rfl
theorem ce_pacF_10 : rat (mstat ++ ml_pacF) (κ_pacF.getD 10 0) = some (.inr (6, 2, .null, [(0, .ref 22), (1, .ref 45)])) := (rat_mst (l := ml_pacF) (i := 10)).trans rfl
theorem ce_pacF_12 : rat (mstat ++ ml_pacF) (κ_pacF.getD 12 0) = some (.inr (1, 256, .int 0, [])) := (rat_mst (l := ml_pacF) (i := 12)).trans rfl
theorem ce_pacF_13 : rat (mstat ++ ml_pacF) (κ_pacF.getD 13 0) = some (.inr (1, 256, .int 0, [])) := (rat_mst (l := ml_pacF) (i := 13)).trans rfl
theorem ce_pacF_14 : rat (mstat ++ ml_pacF) (κ_pacF.getD 14 0) = some (.inr (1, 2048, .int 0, [])) := (rat_mst (l := ml_pacF) (i := 14)).trans rfl
theorem ce_pacF_15 : rat (mstat ++ ml_pacF) (κ_pacF.getD 15 0) = some (.inr (1, 256, .int 0, [])) := (rat_mst (l := ml_pacF) (i := 15)).trans rfl
theorem ce_pacF_16 : rat (mstat ++ ml_pacF) (κ_pacF.getD 16 0) = some (.inr (1, 12, .int 0, [])) := (rat_mst (l := ml_pacF) (i := 16)).trans rfl
theorem ce_pacF_17 : rat (mstat ++ ml_pacF) (κ_pacF.getD 17 0) = some (.inl (8, [.int 0, .int 12, .ref 29, .ref 30, .ref 31, .ref 32, .ref 33, .ref 34, .ref 35, .ref 36, .null, .int 0, .int 0])) := (rat_mst (l := ml_pacF) (i := 17)).trans rfl
theorem ce_pacF_18 : rat (mstat ++ ml_pacF) (κ_pacF.getD 18 0) = some (.inr (1, 12, .int 0, [])) := (rat_mst (l := ml_pacF) (i := 18)).trans rfl
theorem ce_pacF_19 : rat (mstat ++ ml_pacF) (κ_pacF.getD 19 0) = some (.inr (1, 12, .int 0, [])) := (rat_mst (l := ml_pacF) (i := 19)).trans rfl
theorem ce_pacF_20 : rat (mstat ++ ml_pacF) (κ_pacF.getD 20 0) = some (.inr (1, 12, .int 0, [])) := (rat_mst (l := ml_pacF) (i := 20)).trans rfl
theorem ce_pacF_21 : rat (mstat ++ ml_pacF) (κ_pacF.getD 21 0) = some (.inr (1, 12, .int 0, [])) := (rat_mst (l := ml_pacF) (i := 21)).trans rfl
theorem ce_pacF_22 : rat (mstat ++ ml_pacF) (κ_pacF.getD 22 0) = some (.inr (1, 12, .int 0, [])) := (rat_mst (l := ml_pacF) (i := 22)).trans rfl
theorem ce_pacF_23 : rat (mstat ++ ml_pacF) (κ_pacF.getD 23 0) = some (.inr (1, 64, .int 0, [])) := (rat_mst (l := ml_pacF) (i := 23)).trans rfl
theorem ce_pacF_24 : rat (mstat ++ ml_pacF) (κ_pacF.getD 24 0) = some (.inr (1, 64, .int 0, [])) := (rat_mst (l := ml_pacF) (i := 24)).trans rfl
theorem ce_pacF_25 : rat (mstat ++ ml_pacF) (κ_pacF.getD 25 0) = some (.inr (1, 64, .int 0, [])) := (rat_mst (l := ml_pacF) (i := 25)).trans rfl
theorem ce_pacF_26 : rat (mstat ++ ml_pacF) (κ_pacF.getD 26 0) = some (.inl (7, [.ref 38, .int 0, .int 0, .int 0, .int 0])) := (rat_mst (l := ml_pacF) (i := 26)).trans rfl
theorem ce_pacF_27 : rat (mstat ++ ml_pacF) (κ_pacF.getD 27 0) = some (.inr (0, 0, .int 0, [])) := (rat_mst (l := ml_pacF) (i := 27)).trans rfl
theorem ce_pacF_28 : rat (mstat ++ ml_pacF) (κ_pacF.getD 28 0) = some (.inl (7, [.ref 40, .int 0, .int 0, .int 0, .int 0])) := (rat_mst (l := ml_pacF) (i := 28)).trans rfl
theorem ce_pacF_29 : rat (mstat ++ ml_pacF) (κ_pacF.getD 29 0) = some (.inr (0, 0, .int 0, [])) := (rat_mst (l := ml_pacF) (i := 29)).trans rfl
theorem ce_pacF_31 : rat (mstat ++ ml_pacF) (κ_pacF.getD 31 0) = some (.inr (1, 256, .int 0, [])) := (rat_mst (l := ml_pacF) (i := 31)).trans rfl
theorem ce_pacF_32 : rat (mstat ++ ml_pacF) (κ_pacF.getD 32 0) = some (.inr (1, 512, .int 0, [])) := (rat_mst (l := ml_pacF) (i := 32)).trans rfl
theorem ce_pacF_33 : rat (mstat ++ ml_pacF) (κ_pacF.getD 33 0) = some (.inr (1, 512, .int 0, [])) := (rat_mst (l := ml_pacF) (i := 33)).trans rfl
theorem ce_pacF_35 : rat (mstat ++ ml_pacF) (κ_pacF.getD 35 0) = some (.inr (1, 256, .int 0, [])) := (rat_mst (l := ml_pacF) (i := 35)).trans rfl
theorem ce_pacF_36 : rat (mstat ++ ml_pacF) (κ_pacF.getD 36 0) = some (.inr (1, 256, .int 0, [])) := (rat_mst (l := ml_pacF) (i := 36)).trans rfl
theorem ce_pacF_37 : rat (mstat ++ ml_pacF) (κ_pacF.getD 37 0) = some (.inr (1, 2048, .int 0, [])) := (rat_mst (l := ml_pacF) (i := 37)).trans rfl
theorem ce_pacF_38 : rat (mstat ++ ml_pacF) (κ_pacF.getD 38 0) = some (.inr (1, 256, .int 0, [])) := (rat_mst (l := ml_pacF) (i := 38)).trans rfl
theorem ce_pacF_39 : rat (mstat ++ ml_pacF) (κ_pacF.getD 39 0) = some (.inr (1, 12, .int 0, [])) := (rat_mst (l := ml_pacF) (i := 39)).trans rfl
theorem ce_pacF_40 : rat (mstat ++ ml_pacF) (κ_pacF.getD 40 0) = some (.inl (8, [.int 0, .int 12, .ref 52, .ref 53, .ref 54, .ref 55, .ref 56, .ref 57, .ref 58, .ref 59, .null, .int 0, .int 0])) := (rat_mst (l := ml_pacF) (i := 40)).trans rfl
theorem ce_pacF_41 : rat (mstat ++ ml_pacF) (κ_pacF.getD 41 0) = some (.inr (1, 12, .int 0, [])) := (rat_mst (l := ml_pacF) (i := 41)).trans rfl
theorem ce_pacF_42 : rat (mstat ++ ml_pacF) (κ_pacF.getD 42 0) = some (.inr (1, 12, .int 0, [])) := (rat_mst (l := ml_pacF) (i := 42)).trans rfl
theorem ce_pacF_43 : rat (mstat ++ ml_pacF) (κ_pacF.getD 43 0) = some (.inr (1, 12, .int 0, [])) := (rat_mst (l := ml_pacF) (i := 43)).trans rfl
theorem ce_pacF_44 : rat (mstat ++ ml_pacF) (κ_pacF.getD 44 0) = some (.inr (1, 12, .int 0, [])) := (rat_mst (l := ml_pacF) (i := 44)).trans rfl
theorem ce_pacF_45 : rat (mstat ++ ml_pacF) (κ_pacF.getD 45 0) = some (.inr (1, 12, .int 0, [])) := (rat_mst (l := ml_pacF) (i := 45)).trans rfl
theorem ce_pacF_46 : rat (mstat ++ ml_pacF) (κ_pacF.getD 46 0) = some (.inr (1, 64, .int 0, [])) := (rat_mst (l := ml_pacF) (i := 46)).trans rfl
theorem ce_pacF_47 : rat (mstat ++ ml_pacF) (κ_pacF.getD 47 0) = some (.inr (1, 64, .int 0, [])) := (rat_mst (l := ml_pacF) (i := 47)).trans rfl
theorem ce_pacF_48 : rat (mstat ++ ml_pacF) (κ_pacF.getD 48 0) = some (.inr (1, 64, .int 0, [])) := (rat_mst (l := ml_pacF) (i := 48)).trans rfl
theorem ce_pacF_49 : rat (mstat ++ ml_pacF) (κ_pacF.getD 49 0) = some (.inl (7, [.ref 61, .int 0, .int 0, .int 0, .int 0])) := (rat_mst (l := ml_pacF) (i := 49)).trans rfl
theorem ce_pacF_50 : rat (mstat ++ ml_pacF) (κ_pacF.getD 50 0) = some (.inr (0, 0, .int 0, [])) := (rat_mst (l := ml_pacF) (i := 50)).trans rfl
theorem ce_pacF_51 : rat (mstat ++ ml_pacF) (κ_pacF.getD 51 0) = some (.inl (7, [.ref 63, .int 0, .int 0, .int 0, .int 0])) := (rat_mst (l := ml_pacF) (i := 51)).trans rfl
theorem ce_pacF_52 : rat (mstat ++ ml_pacF) (κ_pacF.getD 52 0) = some (.inr (0, 0, .int 0, [])) := (rat_mst (l := ml_pacF) (i := 52)).trans rfl
theorem ce_pacF_54 : rat (mstat ++ ml_pacF) (κ_pacF.getD 54 0) = some (.inr (1, 256, .int 0, [])) := (rat_mst (l := ml_pacF) (i := 54)).trans rfl
theorem ce_pacF_55 : rat (mstat ++ ml_pacF) (κ_pacF.getD 55 0) = some (.inr (1, 512, .int 0, [])) := (rat_mst (l := ml_pacF) (i := 55)).trans rfl
theorem ce_pacF_56 : rat (mstat ++ ml_pacF) (κ_pacF.getD 56 0) = some (.inr (1, 512, .int 0, [])) := (rat_mst (l := ml_pacF) (i := 56)).trans rfl
theorem ce_pacF_57 : rat (mstat ++ ml_pacF) (κ_pacF.getD 57 0) = some (.inr (5, 3, .null, [(0, .ref 69), (1, .ref 78), (2, .ref 87)])) := (rat_mst (l := ml_pacF) (i := 57)).trans rfl
theorem ce_pacF_58 : rat (mstat ++ ml_pacF) (κ_pacF.getD 58 0) = some (.inl (8, [.int 0, .int 36, .ref 70, .ref 71, .ref 72, .ref 73, .ref 74, .ref 75, .ref 76, .ref 77, .null, .int 0, .int 0])) := (rat_mst (l := ml_pacF) (i := 58)).trans rfl
theorem ce_pacF_59 : rat (mstat ++ ml_pacF) (κ_pacF.getD 59 0) = some (.inr (1, 36, .int 0, [])) := (rat_mst (l := ml_pacF) (i := 59)).trans rfl
theorem ce_pacF_60 : rat (mstat ++ ml_pacF) (κ_pacF.getD 60 0) = some (.inr (1, 36, .int 0, [])) := (rat_mst (l := ml_pacF) (i := 60)).trans rfl
theorem ce_pacF_61 : rat (mstat ++ ml_pacF) (κ_pacF.getD 61 0) = some (.inr (1, 36, .int 0, [])) := (rat_mst (l := ml_pacF) (i := 61)).trans rfl
theorem ce_pacF_62 : rat (mstat ++ ml_pacF) (κ_pacF.getD 62 0) = some (.inr (1, 36, .int 0, [])) := (rat_mst (l := ml_pacF) (i := 62)).trans rfl
theorem ce_pacF_63 : rat (mstat ++ ml_pacF) (κ_pacF.getD 63 0) = some (.inr (1, 36, .int 0, [])) := (rat_mst (l := ml_pacF) (i := 63)).trans rfl
theorem ce_pacF_64 : rat (mstat ++ ml_pacF) (κ_pacF.getD 64 0) = some (.inr (1, 512, .int 0, [])) := (rat_mst (l := ml_pacF) (i := 64)).trans rfl
theorem ce_pacF_65 : rat (mstat ++ ml_pacF) (κ_pacF.getD 65 0) = some (.inr (1, 512, .int 0, [])) := (rat_mst (l := ml_pacF) (i := 65)).trans rfl
theorem ce_pacF_66 : rat (mstat ++ ml_pacF) (κ_pacF.getD 66 0) = some (.inr (1, 512, .int 0, [])) := (rat_mst (l := ml_pacF) (i := 66)).trans rfl
theorem ce_pacF_67 : rat (mstat ++ ml_pacF) (κ_pacF.getD 67 0) = some (.inl (8, [.int 0, .int 32, .ref 79, .ref 80, .ref 81, .ref 82, .ref 83, .ref 84, .ref 85, .ref 86, .null, .int 0, .int 0])) := (rat_mst (l := ml_pacF) (i := 67)).trans rfl
theorem ce_pacF_68 : rat (mstat ++ ml_pacF) (κ_pacF.getD 68 0) = some (.inr (1, 32, .int 0, [])) := (rat_mst (l := ml_pacF) (i := 68)).trans rfl
theorem ce_pacF_69 : rat (mstat ++ ml_pacF) (κ_pacF.getD 69 0) = some (.inr (1, 32, .int 0, [])) := (rat_mst (l := ml_pacF) (i := 69)).trans rfl
theorem ce_pacF_70 : rat (mstat ++ ml_pacF) (κ_pacF.getD 70 0) = some (.inr (1, 32, .int 0, [])) := (rat_mst (l := ml_pacF) (i := 70)).trans rfl
theorem ce_pacF_71 : rat (mstat ++ ml_pacF) (κ_pacF.getD 71 0) = some (.inr (1, 32, .int 0, [])) := (rat_mst (l := ml_pacF) (i := 71)).trans rfl
theorem ce_pacF_72 : rat (mstat ++ ml_pacF) (κ_pacF.getD 72 0) = some (.inr (1, 32, .int 0, [])) := (rat_mst (l := ml_pacF) (i := 72)).trans rfl
theorem ce_pacF_73 : rat (mstat ++ ml_pacF) (κ_pacF.getD 73 0) = some (.inr (1, 256, .int 0, [])) := (rat_mst (l := ml_pacF) (i := 73)).trans rfl
theorem ce_pacF_74 : rat (mstat ++ ml_pacF) (κ_pacF.getD 74 0) = some (.inr (1, 256, .int 0, [])) := (rat_mst (l := ml_pacF) (i := 74)).trans rfl
theorem ce_pacF_75 : rat (mstat ++ ml_pacF) (κ_pacF.getD 75 0) = some (.inr (1, 256, .int 0, [])) := (rat_mst (l := ml_pacF) (i := 75)).trans rfl
theorem ce_pacF_76 : rat (mstat ++ ml_pacF) (κ_pacF.getD 76 0) = some (.inl (8, [.int 0, .int 53, .ref 88, .ref 89, .ref 90, .ref 91, .ref 92, .ref 93, .ref 94, .ref 95, .null, .int 0, .int 0])) := (rat_mst (l := ml_pacF) (i := 76)).trans rfl
theorem ce_pacF_77 : rat (mstat ++ ml_pacF) (κ_pacF.getD 77 0) = some (.inr (1, 53, .int 0, [])) := (rat_mst (l := ml_pacF) (i := 77)).trans rfl
theorem ce_pacF_78 : rat (mstat ++ ml_pacF) (κ_pacF.getD 78 0) = some (.inr (1, 53, .int 0, [])) := (rat_mst (l := ml_pacF) (i := 78)).trans rfl
theorem ce_pacF_79 : rat (mstat ++ ml_pacF) (κ_pacF.getD 79 0) = some (.inr (1, 53, .int 0, [])) := (rat_mst (l := ml_pacF) (i := 79)).trans rfl
theorem ce_pacF_80 : rat (mstat ++ ml_pacF) (κ_pacF.getD 80 0) = some (.inr (1, 53, .int 0, [])) := (rat_mst (l := ml_pacF) (i := 80)).trans rfl
theorem ce_pacF_81 : rat (mstat ++ ml_pacF) (κ_pacF.getD 81 0) = some (.inr (1, 53, .int 0, [])) := (rat_mst (l := ml_pacF) (i := 81)).trans rfl
theorem ce_pacF_82 : rat (mstat ++ ml_pacF) (κ_pacF.getD 82 0) = some (.inr (1, 512, .int 0, [])) := (rat_mst (l := ml_pacF) (i := 82)).trans rfl
theorem ce_pacF_83 : rat (mstat ++ ml_pacF) (κ_pacF.getD 83 0) = some (.inr (1, 512, .int 0, [])) := (rat_mst (l := ml_pacF) (i := 83)).trans rfl
theorem ce_pacF_84 : rat (mstat ++ ml_pacF) (κ_pacF.getD 84 0) = some (.inr (1, 512, .int 0, [])) := (rat_mst (l := ml_pacF) (i := 84)).trans rfl
theorem ce_pacF_85 : rat (mstat ++ ml_pacF) (κ_pacF.getD 85 0) = some (.inr (5, 3, .null, [(0, .ref 97), (1, .ref 106), (2, .ref 115)])) := (rat_mst (l := ml_pacF) (i := 85)).trans rfl
theorem ce_pacF_86 : rat (mstat ++ ml_pacF) (κ_pacF.getD 86 0) = some (.inl (8, [.int 0, .int 36, .ref 98, .ref 99, .ref 100, .ref 101, .ref 102, .ref 103, .ref 104, .ref 105, .null, .int 0, .int 0])) := (rat_mst (l := ml_pacF) (i := 86)).trans rfl
theorem ce_pacF_87 : rat (mstat ++ ml_pacF) (κ_pacF.getD 87 0) = some (.inr (1, 36, .int 0, [])) := (rat_mst (l := ml_pacF) (i := 87)).trans rfl
theorem ce_pacF_88 : rat (mstat ++ ml_pacF) (κ_pacF.getD 88 0) = some (.inr (1, 36, .int 0, [])) := (rat_mst (l := ml_pacF) (i := 88)).trans rfl
theorem ce_pacF_89 : rat (mstat ++ ml_pacF) (κ_pacF.getD 89 0) = some (.inr (1, 36, .int 0, [])) := (rat_mst (l := ml_pacF) (i := 89)).trans rfl
theorem ce_pacF_90 : rat (mstat ++ ml_pacF) (κ_pacF.getD 90 0) = some (.inr (1, 36, .int 0, [])) := (rat_mst (l := ml_pacF) (i := 90)).trans rfl
theorem ce_pacF_91 : rat (mstat ++ ml_pacF) (κ_pacF.getD 91 0) = some (.inr (1, 36, .int 0, [])) := (rat_mst (l := ml_pacF) (i := 91)).trans rfl
theorem ce_pacF_92 : rat (mstat ++ ml_pacF) (κ_pacF.getD 92 0) = some (.inr (1, 512, .int 0, [])) := (rat_mst (l := ml_pacF) (i := 92)).trans rfl
theorem ce_pacF_93 : rat (mstat ++ ml_pacF) (κ_pacF.getD 93 0) = some (.inr (1, 512, .int 0, [])) := (rat_mst (l := ml_pacF) (i := 93)).trans rfl
theorem ce_pacF_94 : rat (mstat ++ ml_pacF) (κ_pacF.getD 94 0) = some (.inr (1, 512, .int 0, [])) := (rat_mst (l := ml_pacF) (i := 94)).trans rfl
theorem ce_pacF_95 : rat (mstat ++ ml_pacF) (κ_pacF.getD 95 0) = some (.inl (8, [.int 0, .int 32, .ref 107, .ref 108, .ref 109, .ref 110, .ref 111, .ref 112, .ref 113, .ref 114, .null, .int 0, .int 0])) := (rat_mst (l := ml_pacF) (i := 95)).trans rfl
theorem ce_pacF_96 : rat (mstat ++ ml_pacF) (κ_pacF.getD 96 0) = some (.inr (1, 32, .int 0, [])) := (rat_mst (l := ml_pacF) (i := 96)).trans rfl
theorem ce_pacF_97 : rat (mstat ++ ml_pacF) (κ_pacF.getD 97 0) = some (.inr (1, 32, .int 0, [])) := (rat_mst (l := ml_pacF) (i := 97)).trans rfl
theorem ce_pacF_98 : rat (mstat ++ ml_pacF) (κ_pacF.getD 98 0) = some (.inr (1, 32, .int 0, [])) := (rat_mst (l := ml_pacF) (i := 98)).trans rfl
theorem ce_pacF_99 : rat (mstat ++ ml_pacF) (κ_pacF.getD 99 0) = some (.inr (1, 32, .int 0, [])) := (rat_mst (l := ml_pacF) (i := 99)).trans rfl
theorem ce_pacF_100 : rat (mstat ++ ml_pacF) (κ_pacF.getD 100 0) = some (.inr (1, 32, .int 0, [])) := (rat_mst (l := ml_pacF) (i := 100)).trans rfl
theorem ce_pacF_101 : rat (mstat ++ ml_pacF) (κ_pacF.getD 101 0) = some (.inr (1, 256, .int 0, [])) := (rat_mst (l := ml_pacF) (i := 101)).trans rfl
theorem ce_pacF_102 : rat (mstat ++ ml_pacF) (κ_pacF.getD 102 0) = some (.inr (1, 256, .int 0, [])) := (rat_mst (l := ml_pacF) (i := 102)).trans rfl
theorem ce_pacF_103 : rat (mstat ++ ml_pacF) (κ_pacF.getD 103 0) = some (.inr (1, 256, .int 0, [])) := (rat_mst (l := ml_pacF) (i := 103)).trans rfl
theorem ce_pacF_104 : rat (mstat ++ ml_pacF) (κ_pacF.getD 104 0) = some (.inl (8, [.int 0, .int 53, .ref 116, .ref 117, .ref 118, .ref 119, .ref 120, .ref 121, .ref 122, .ref 123, .null, .int 0, .int 0])) := (rat_mst (l := ml_pacF) (i := 104)).trans rfl
theorem ce_pacF_105 : rat (mstat ++ ml_pacF) (κ_pacF.getD 105 0) = some (.inr (1, 53, .int 0, [])) := (rat_mst (l := ml_pacF) (i := 105)).trans rfl
theorem ce_pacF_106 : rat (mstat ++ ml_pacF) (κ_pacF.getD 106 0) = some (.inr (1, 53, .int 0, [])) := (rat_mst (l := ml_pacF) (i := 106)).trans rfl
theorem ce_pacF_107 : rat (mstat ++ ml_pacF) (κ_pacF.getD 107 0) = some (.inr (1, 53, .int 0, [])) := (rat_mst (l := ml_pacF) (i := 107)).trans rfl
theorem ce_pacF_108 : rat (mstat ++ ml_pacF) (κ_pacF.getD 108 0) = some (.inr (1, 53, .int 0, [])) := (rat_mst (l := ml_pacF) (i := 108)).trans rfl
theorem ce_pacF_109 : rat (mstat ++ ml_pacF) (κ_pacF.getD 109 0) = some (.inr (1, 53, .int 0, [])) := (rat_mst (l := ml_pacF) (i := 109)).trans rfl
theorem ce_pacF_110 : rat (mstat ++ ml_pacF) (κ_pacF.getD 110 0) = some (.inr (1, 512, .int 0, [])) := (rat_mst (l := ml_pacF) (i := 110)).trans rfl
theorem ce_pacF_111 : rat (mstat ++ ml_pacF) (κ_pacF.getD 111 0) = some (.inr (1, 512, .int 0, [])) := (rat_mst (l := ml_pacF) (i := 111)).trans rfl
theorem ce_pacF_112 : rat (mstat ++ ml_pacF) (κ_pacF.getD 112 0) = some (.inr (1, 512, .int 0, [])) := (rat_mst (l := ml_pacF) (i := 112)).trans rfl
theorem ce_pacF_114 : rat (mstat ++ ml_pacF) (κ_pacF.getD 114 0) = some (.inr (5, 3, .null, [])) := (rat_mst (l := ml_pacF) (i := 114)).trans rfl
theorem ce_pacF_115 : rat (mstat ++ ml_pacF) (κ_pacF.getD 115 0) = some (.inr (2, 3, .long 0, [(0, .long 1), (1, .long 4), (2, .long 8)])) := (rat_mst (l := ml_pacF) (i := 115)).trans rfl
theorem ce_pacF_117 : rat (mstat ++ ml_pacF) (κ_pacF.getD 117 0) = some (.inr (5, 3, .null, [])) := (rat_mst (l := ml_pacF) (i := 117)).trans rfl
theorem ce_pacF_118 : rat (mstat ++ ml_pacF) (κ_pacF.getD 118 0) = some (.inr (2, 3, .long 0, [(0, .long 1), (1, .long 4), (2, .long 8)])) := (rat_mst (l := ml_pacF) (i := 118)).trans rfl
theorem ce_pacF_119 : rat (mstat ++ ml_pacF) (κ_pacF.getD 119 0) = some (.inl (7, [.ref 131, .int 0, .int 0, .int 0, .int 0])) := (rat_mst (l := ml_pacF) (i := 119)).trans rfl
theorem ce_pacF_120 : rat (mstat ++ ml_pacF) (κ_pacF.getD 120 0) = some (.inr (0, 0, .int 0, [])) := (rat_mst (l := ml_pacF) (i := 120)).trans rfl
theorem ce_pacF_121 : rat (mstat ++ ml_pacF) (κ_pacF.getD 121 0) = some (.inl (7, [.ref 133, .int 0, .int 0, .int 0, .int 0])) := (rat_mst (l := ml_pacF) (i := 121)).trans rfl
theorem ce_pacF_122 : rat (mstat ++ ml_pacF) (κ_pacF.getD 122 0) = some (.inr (0, 0, .int 0, [])) := (rat_mst (l := ml_pacF) (i := 122)).trans rfl
theorem ce_pacF_123 : rat (mstat ++ ml_pacF) (κ_pacF.getD 123 0) = some (.inl (7, [.ref 135, .int 0, .int 0, .int 0, .int 0])) := (rat_mst (l := ml_pacF) (i := 123)).trans rfl
theorem ce_pacF_124 : rat (mstat ++ ml_pacF) (κ_pacF.getD 124 0) = some (.inr (0, 0, .int 0, [])) := (rat_mst (l := ml_pacF) (i := 124)).trans rfl
theorem ce_pacF_125 : rat (mstat ++ ml_pacF) (κ_pacF.getD 125 0) = some (.inr (1, 256, .int 0, [])) := (rat_mst (l := ml_pacF) (i := 125)).trans rfl
theorem ce_pacF_126 : rat (mstat ++ ml_pacF) (κ_pacF.getD 126 0) = some (.inr (1, 53, .int 0, [])) := (rat_mst (l := ml_pacF) (i := 126)).trans rfl
theorem ce_pacF_127 : rat (mstat ++ ml_pacF) (κ_pacF.getD 127 0) = some (.inr (7, 3, .null, [(0, .ref 139), (1, .ref 140), (2, .ref 141)])) := (rat_mst (l := ml_pacF) (i := 127)).trans rfl
theorem ce_pacF_128 : rat (mstat ++ ml_pacF) (κ_pacF.getD 128 0) = some (.inr (1, 0, .int 0, [])) := (rat_mst (l := ml_pacF) (i := 128)).trans rfl
theorem ce_pacF_129 : rat (mstat ++ ml_pacF) (κ_pacF.getD 129 0) = some (.inr (1, 0, .int 0, [])) := (rat_mst (l := ml_pacF) (i := 129)).trans rfl
theorem ce_pacF_130 : rat (mstat ++ ml_pacF) (κ_pacF.getD 130 0) = some (.inr (1, 0, .int 0, [])) := (rat_mst (l := ml_pacF) (i := 130)).trans rfl
theorem ce_pacF_131 : rat (mstat ++ ml_pacF) (κ_pacF.getD 131 0) = some (.inr (1, 0, .int 0, [])) := (rat_mst (l := ml_pacF) (i := 131)).trans rfl
theorem ce_pacF_132 : rat (mstat ++ ml_pacF) (κ_pacF.getD 132 0) = some (.inr (1, 3, .int 0, [])) := (rat_mst (l := ml_pacF) (i := 132)).trans rfl
theorem ce_pacF_133 : rat (mstat ++ ml_pacF) (κ_pacF.getD 133 0) = some (.inr (1, 13, .int 0, [])) := (rat_mst (l := ml_pacF) (i := 133)).trans rfl
set_option maxRecDepth 100000 in
theorem T_mk_pacF {Dc : DcS} {g : Nat → Bool} {σ : rS} {D N : Nat → Nat} {F : hF} {A : hA} {d c s : Nat} {Q : wQ} (X : PHI Dc g σ D N F A) (hn1 : g 1 = false) (hn5 : g 5 = false) (hg4 : g 4 = true) (k : ∀ (σₚ : rS) (Dₚ Nₚ : Nat → Nat) (Fₚ : hF) (Aₚ : hA) (cₚ sₚ : Nat), PHI Dc (gset g [1, 5]) σₚ Dₚ Nₚ Fₚ Aₚ → STP g σ D N A c s (gset g [1, 5]) σₚ Dₚ Nₚ Aₚ cₚ sₚ → KEP g 0 D N F A Dₚ Nₚ Fₚ Aₚ → Fₚ 0 18 = F 0 18 → Q (some (.ref (Dₚ 75))) σₚ cₚ sₚ) : Ew 39 (d + 4) 0 (rargs 0 [.ref (D 0)]) [] σ c s Q := by
  rw [Nat.add_comm d 4]
  obtain ⟨HX, HT, hg0, hPF, hAB, hNZ, hGI, hI0, hI1, hI2, hI3, hI4, hI5, hI6, hI7, hI8, hI9⟩ := X
  have hq := SPH_not (g := g) (ι := ι_pacF) (W := W_pacF) (gs := [1, 5]) (by intro j hj; simp at hj; rcases hj with rfl | rfl <;> assumption) rfl (by decide +kernel)
  have hm : mkin ι_pacF [1, 5] = true := by decide +kernel
  have hmk : ∀ j ∈ ([1, 5] : List Nat), g j = false := (by intro j hj; simp at hj; rcases hj with rfl | rfl <;> assumption)
  have hhv : ∀ j ∈ ([4] : List Nat), g j = true := (by intro j hj; simp at hj; subst hj; exact hg4)
  refine mk_ev (V := VPH) (W := W_pacF) (ι := ι_pacF) (κ := κ_pacF) (x0 := 0) ev_pacF HX HT (by decide +kernel) hg0 rfl rfl fl_ok_pacF ?_ VPH_3 vs_pacF rfl rfl (kap_ok rfl (by decide +kernel)) mv_pacF hq (fun σₚ Hₚ HT' hst hlen => ?_)
  · intro k hk
    have hk : k < 19 := hk
    rcases (show k = 0 ∨ k = 1 ∨ k = 2 ∨ k = 3 ∨ k = 4 ∨ k = 5 ∨ k = 6 ∨ k = 7 ∨ k = 8 ∨ k = 9 ∨ k = 10 ∨ k = 11 ∨ k = 12 ∨ k = 13 ∨ k = 14 ∨ k = 15 ∨ k = 16 ∨ k = 17 ∨ k = 18 by omega) with rfl | rfl | rfl | rfl | rfl | rfl | rfl | rfl | rfl | rfl | rfl | rfl | rfl | rfl | rfl | rfl | rfl | rfl | rfl
    · exact ⟨fun h => absurd h (by decide), fun _ => by have := (show F 0 0 = (D 1 : Int) from hPF (0, 0, 0, 1) (List.mem_of_getElem? (i := 0) rfl) hg0 hg0); omega⟩
    · exact ⟨fun h => absurd h (by decide), fun _ => by have := (show F 0 1 = (D 10 : Int) from hPF (0, 0, 1, 10) (List.mem_of_getElem? (i := 9) rfl) hg0 hg0); omega⟩
    · exact ⟨fun h => absurd h (by decide), fun _ => by have := (show F 0 2 = (D 11 : Int) from hPF (0, 0, 2, 11) (List.mem_of_getElem? (i := 10) rfl) hg0 hg0); omega⟩
    · exact ⟨fun h => absurd h (by decide), fun _ => by have := (show F 0 3 = (D 13 : Int) from hPF (0, 0, 3, 13) (List.mem_of_getElem? (i := 12) rfl) hg0 hg0); omega⟩
    · exact ⟨fun h => absurd h (by decide), fun _ => by have := (show F 0 4 = (D 19 : Int) from hPF (0, 0, 4, 19) (List.mem_of_getElem? (i := 18) rfl) hg0 hg0); omega⟩
    · exact ⟨fun h => absurd h (by decide), fun _ => by have := (show F 0 5 = (D 25 : Int) from hPF (0, 0, 5, 25) (List.mem_of_getElem? (i := 24) rfl) hg0 hg0); omega⟩
    · exact ⟨fun h => absurd h (by decide), fun _ => by have := (show F 0 6 = (D 27 : Int) from hPF (0, 0, 6, 27) (List.mem_of_getElem? (i := 26) rfl) hg0 hg0); omega⟩
    · exact ⟨fun _ => hAB (1, 0, 7) (List.mem_of_getElem? (i := 0) rfl) hn1, fun h => absurd h (by decide)⟩
    · exact ⟨fun h => absurd h (by decide), fun h => absurd h (by decide)⟩
    · exact ⟨fun h => absurd h (by decide), fun h => absurd h (by decide)⟩
    · exact ⟨fun h => absurd h (by decide), fun _ => by have := (show F 0 10 = (D 47 : Int) from hPF (0, 0, 10, 47) (List.mem_of_getElem? (i := 46) rfl) hg0 hg4); omega⟩
    · exact ⟨fun _ => hAB (5, 0, 11) (List.mem_of_getElem? (i := 4) rfl) hn5, fun h => absurd h (by decide)⟩
    · exact ⟨fun h => absurd h (by decide), fun h => absurd h (by decide)⟩
    · exact ⟨fun h => absurd h (by decide), fun _ => by have := (show F 0 13 = (D 29 : Int) from hPF (0, 0, 13, 29) (List.mem_of_getElem? (i := 28) rfl) hg0 hg0); omega⟩
    · exact ⟨fun h => absurd h (by decide), fun _ => by have := (show F 0 14 = (D 30 : Int) from hPF (0, 0, 14, 30) (List.mem_of_getElem? (i := 29) rfl) hg0 hg0); omega⟩
    · exact ⟨fun h => absurd h (by decide), fun _ => by have := (show F 0 15 = (D 31 : Int) from hPF (0, 0, 15, 31) (List.mem_of_getElem? (i := 30) rfl) hg0 hg0); omega⟩
    · exact ⟨fun h => absurd h (by decide), fun _ => by have := (show F 0 16 = (D 32 : Int) from hPF (0, 0, 16, 32) (List.mem_of_getElem? (i := 31) rfl) hg0 hg0); omega⟩
    · exact ⟨fun h => absurd h (by decide), fun h => absurd h (by decide)⟩
    · exact ⟨fun h => absurd h (by decide), fun h => absurd h (by decide)⟩
  · have kp : KEP g 0 D N F A (glu ι_pacF D (fun x => (mrho (D 0) σ.length (F 0)) (κ_pacF.getD x 0))) (glu ι_pacF N (mN κ_pacF (mstat ++ ml_pacF))) (glu ι_pacF F (mFd (mnu (F 0)) (mrho (D 0) σ.length (F 0)) κ_pacF (mstat ++ ml_pacF))) (glu ι_pacF A (mA (mnu (F 0)) (mrho (D 0) σ.length (F 0)) κ_pacF (mstat ++ ml_pacF))) := KEP_make (fun x a b => hq x a b) rfl rfl
    have hr := RM_make hNZ (show SPH g 0 = true from hg0) rfl kp
    have e1 : gset g [1, 5] 1 = true := gset_m rfl
    have e2 : gset g [1, 5] 2 = g 2 := gset_e rfl
    have e3 : gset g [1, 5] 3 = g 3 := gset_e rfl
    have e4 : gset g [1, 5] 4 = g 4 := gset_e rfl
    have e5 : gset g [1, 5] 5 = true := gset_m rfl
    have e6 : gset g [1, 5] 6 = g 6 := gset_e rfl
    have e7 : gset g [1, 5] 7 = g 7 := gset_e rfl
    have e8 : gset g [1, 5] 8 = g 8 := gset_e rfl
    have hKC : KC (gset g [1, 5]) = KC g + 133 := by unfold KC; simp only [e1, e2, e3, e4, e5, e6, e7, e8, hn1, hn5, kadd_t, kadd_f]; omega
    have hKS : KS (gset g [1, 5]) = KS g + 18186 := by unfold KS; simp only [e1, e2, e3, e4, e5, e6, e7, e8, hn1, hn5, kadd_t, kadd_f]; omega
    refine k σₚ (glu ι_pacF D (fun x => (mrho (D 0) σ.length (F 0)) (κ_pacF.getD x 0))) (glu ι_pacF N (mN κ_pacF (mstat ++ ml_pacF))) (glu ι_pacF F (mFd (mnu (F 0)) (mrho (D 0) σ.length (F 0)) κ_pacF (mstat ++ ml_pacF))) (glu ι_pacF A (mA (mnu (F 0)) (mrho (D 0) σ.length (F 0)) κ_pacF (mstat ++ ml_pacF))) _ _ ⟨HWs_make hm Hₚ, HT', gset_o hg0, PFI_mk (x0 := 0) hPF hGI hm hmk rfl hg0 rfl (by decide +kernel), ABS_mk (x0 := 0) (hv := [4]) hAB hhv rfl (by decide +kernel), NZ_make hm hNZ (by decide +kernel) (by decide +kernel) hg0, ⟨fun h => gset_o (hGI.1 (gset_n h rfl)), fun h => gset_o (hGI.2.1 (gset_n h rfl)), fun _ => gset_m rfl, fun _ => gset_o hg4, fun h => gset_o (hGI.2.2.2.2 (gset_n h rfl))⟩, INV0_eq (EQD_out (by decide +kernel)) hI0, ?_, fun h => INV2_eq (EQD_out (by decide +kernel)) (hI2 (gset_n h rfl)), fun h => INV3_eq (EQD_out (by decide +kernel)) (hI3 (gset_n h rfl)), fun h => INV4_eq (EQD_out (by decide +kernel)) (hI4 (gset_n h rfl)), ?_, fun h => INV6_eq (EQD_out (by decide +kernel)) (hI6 (gset_n h rfl)), fun h => INV7_eq (EQD_out (by decide +kernel)) (hI7 (gset_n h rfl)), fun h => INV8_eq (EQD_out (by decide +kernel)) (hI8 (gset_n h rfl)), fun h => INV9_eq (EQD_out (by decide +kernel)) (hI9 (gset_f h))⟩ ⟨⟨ST2_make (x0 := 0) (f := F 0) (κ := κ_pacF) hm (by decide +kernel) hg0 kp hst hlen rfl rfl (by decide +kernel) (fun p hp hf => glu_s hf) vs_pacF.2.1, rfl, ?_, ?_⟩, rfl⟩ kp (show (mFd (mnu (F 0)) (mrho (D 0) σ.length (F 0)) κ_pacF (mstat ++ ml_pacF)) 0 18 = F 0 18 from (mFd_at (k := 18) ce_pacF_0).trans (toI_ofI (HX.krg 0 18 (by decide +kernel) hg0)))
    · intro _
      have n35 : (glu ι_pacF N (mN κ_pacF (mstat ++ ml_pacF))) 35 = 0 := (mN_at ce_pacF_3)
      have n36 : (glu ι_pacF N (mN κ_pacF (mstat ++ ml_pacF))) 36 = 0 := (mN_at ce_pacF_4)
      have n37 : (glu ι_pacF N (mN κ_pacF (mstat ++ ml_pacF))) 37 = 0 := (mN_at ce_pacF_5)
      have n38 : (glu ι_pacF N (mN κ_pacF (mstat ++ ml_pacF))) 38 = 0 := (mN_at ce_pacF_6)
      have n39 : (glu ι_pacF N (mN κ_pacF (mstat ++ ml_pacF))) 39 = 0 := (mN_at ce_pacF_7)
      have n40 : (glu ι_pacF N (mN κ_pacF (mstat ++ ml_pacF))) 40 = 0 := (mN_at ce_pacF_8)
      have f34_1 : (glu ι_pacF F (mFd (mnu (F 0)) (mrho (D 0) σ.length (F 0)) κ_pacF (mstat ++ ml_pacF))) 34 1 = 0 := (show (mFd (mnu (F 0)) (mrho (D 0) σ.length (F 0)) κ_pacF (mstat ++ ml_pacF)) 2 1 = 0 from (mFd_at (k := 1) ce_pacF_2).trans (show ((0 : Int32)).toInt = 0 by decide))
      exact ⟨show 0 ≤ ((glu ι_pacF F (mFd (mnu (F 0)) (mrho (D 0) σ.length (F 0)) κ_pacF (mstat ++ ml_pacF))) 34 1) ∧ ((glu ι_pacF F (mFd (mnu (F 0)) (mrho (D 0) σ.length (F 0)) κ_pacF (mstat ++ ml_pacF))) 34 1) ≤ ((((glu ι_pacF N (mN κ_pacF (mstat ++ ml_pacF))) 35 : Nat) : Int)) ∧ ((((glu ι_pacF N (mN κ_pacF (mstat ++ ml_pacF))) 35 : Nat) : Int)) ≤ 65536 from (by omega), show ((((glu ι_pacF N (mN κ_pacF (mstat ++ ml_pacF))) 39 : Nat) : Int)) = 0 ∨ ((((glu ι_pacF N (mN κ_pacF (mstat ++ ml_pacF))) 39 : Nat) : Int)) = 2048 from (by omega), show ((((glu ι_pacF N (mN κ_pacF (mstat ++ ml_pacF))) 40 : Nat) : Int)) ≤ 16384 from (by omega), show ((((glu ι_pacF N (mN κ_pacF (mstat ++ ml_pacF))) 36 : Nat) : Int)) = ((((glu ι_pacF N (mN κ_pacF (mstat ++ ml_pacF))) 37 : Nat) : Int)) ∧ ((((glu ι_pacF N (mN κ_pacF (mstat ++ ml_pacF))) 38 : Nat) : Int)) = ((((glu ι_pacF N (mN κ_pacF (mstat ++ ml_pacF))) 37 : Nat) : Int)) ∧ ((((glu ι_pacF N (mN κ_pacF (mstat ++ ml_pacF))) 37 : Nat) : Int)) ≤ 65536 ∧ (((((glu ι_pacF N (mN κ_pacF (mstat ++ ml_pacF))) 37 : Nat) : Int)) = 0 ∨ 64 ≤ ((((glu ι_pacF N (mN κ_pacF (mstat ++ ml_pacF))) 37 : Nat) : Int))) ∧ lgq (((((glu ι_pacF N (mN κ_pacF (mstat ++ ml_pacF))) 37 : Nat) : Int))) = 0 from (by try unfold lgq; omega)⟩
    · intro _
      have n76 : (glu ι_pacF N (mN κ_pacF (mstat ++ ml_pacF))) 76 = 2 := (mN_at ce_pacF_10)
      have n78 : (glu ι_pacF N (mN κ_pacF (mstat ++ ml_pacF))) 78 = 256 := (mN_at ce_pacF_12)
      have n79 : (glu ι_pacF N (mN κ_pacF (mstat ++ ml_pacF))) 79 = 256 := (mN_at ce_pacF_13)
      have n80 : (glu ι_pacF N (mN κ_pacF (mstat ++ ml_pacF))) 80 = 2048 := (mN_at ce_pacF_14)
      have n81 : (glu ι_pacF N (mN κ_pacF (mstat ++ ml_pacF))) 81 = 256 := (mN_at ce_pacF_15)
      have n82 : (glu ι_pacF N (mN κ_pacF (mstat ++ ml_pacF))) 82 = 12 := (mN_at ce_pacF_16)
      have n84 : (glu ι_pacF N (mN κ_pacF (mstat ++ ml_pacF))) 84 = 12 := (mN_at ce_pacF_18)
      have n85 : (glu ι_pacF N (mN κ_pacF (mstat ++ ml_pacF))) 85 = 12 := (mN_at ce_pacF_19)
      have n86 : (glu ι_pacF N (mN κ_pacF (mstat ++ ml_pacF))) 86 = 12 := (mN_at ce_pacF_20)
      have n87 : (glu ι_pacF N (mN κ_pacF (mstat ++ ml_pacF))) 87 = 12 := (mN_at ce_pacF_21)
      have n88 : (glu ι_pacF N (mN κ_pacF (mstat ++ ml_pacF))) 88 = 12 := (mN_at ce_pacF_22)
      have n89 : (glu ι_pacF N (mN κ_pacF (mstat ++ ml_pacF))) 89 = 64 := (mN_at ce_pacF_23)
      have n90 : (glu ι_pacF N (mN κ_pacF (mstat ++ ml_pacF))) 90 = 64 := (mN_at ce_pacF_24)
      have n91 : (glu ι_pacF N (mN κ_pacF (mstat ++ ml_pacF))) 91 = 64 := (mN_at ce_pacF_25)
      have n93 : (glu ι_pacF N (mN κ_pacF (mstat ++ ml_pacF))) 93 = 0 := (mN_at ce_pacF_27)
      have n95 : (glu ι_pacF N (mN κ_pacF (mstat ++ ml_pacF))) 95 = 0 := (mN_at ce_pacF_29)
      have n97 : (glu ι_pacF N (mN κ_pacF (mstat ++ ml_pacF))) 97 = 256 := (mN_at ce_pacF_31)
      have n98 : (glu ι_pacF N (mN κ_pacF (mstat ++ ml_pacF))) 98 = 512 := (mN_at ce_pacF_32)
      have n99 : (glu ι_pacF N (mN κ_pacF (mstat ++ ml_pacF))) 99 = 512 := (mN_at ce_pacF_33)
      have n101 : (glu ι_pacF N (mN κ_pacF (mstat ++ ml_pacF))) 101 = 256 := (mN_at ce_pacF_35)
      have n102 : (glu ι_pacF N (mN κ_pacF (mstat ++ ml_pacF))) 102 = 256 := (mN_at ce_pacF_36)
      have n103 : (glu ι_pacF N (mN κ_pacF (mstat ++ ml_pacF))) 103 = 2048 := (mN_at ce_pacF_37)
      have n104 : (glu ι_pacF N (mN κ_pacF (mstat ++ ml_pacF))) 104 = 256 := (mN_at ce_pacF_38)
      have n105 : (glu ι_pacF N (mN κ_pacF (mstat ++ ml_pacF))) 105 = 12 := (mN_at ce_pacF_39)
      have n107 : (glu ι_pacF N (mN κ_pacF (mstat ++ ml_pacF))) 107 = 12 := (mN_at ce_pacF_41)
      have n108 : (glu ι_pacF N (mN κ_pacF (mstat ++ ml_pacF))) 108 = 12 := (mN_at ce_pacF_42)
      have n109 : (glu ι_pacF N (mN κ_pacF (mstat ++ ml_pacF))) 109 = 12 := (mN_at ce_pacF_43)
      have n110 : (glu ι_pacF N (mN κ_pacF (mstat ++ ml_pacF))) 110 = 12 := (mN_at ce_pacF_44)
      have n111 : (glu ι_pacF N (mN κ_pacF (mstat ++ ml_pacF))) 111 = 12 := (mN_at ce_pacF_45)
      have n112 : (glu ι_pacF N (mN κ_pacF (mstat ++ ml_pacF))) 112 = 64 := (mN_at ce_pacF_46)
      have n113 : (glu ι_pacF N (mN κ_pacF (mstat ++ ml_pacF))) 113 = 64 := (mN_at ce_pacF_47)
      have n114 : (glu ι_pacF N (mN κ_pacF (mstat ++ ml_pacF))) 114 = 64 := (mN_at ce_pacF_48)
      have n116 : (glu ι_pacF N (mN κ_pacF (mstat ++ ml_pacF))) 116 = 0 := (mN_at ce_pacF_50)
      have n118 : (glu ι_pacF N (mN κ_pacF (mstat ++ ml_pacF))) 118 = 0 := (mN_at ce_pacF_52)
      have n120 : (glu ι_pacF N (mN κ_pacF (mstat ++ ml_pacF))) 120 = 256 := (mN_at ce_pacF_54)
      have n121 : (glu ι_pacF N (mN κ_pacF (mstat ++ ml_pacF))) 121 = 512 := (mN_at ce_pacF_55)
      have n122 : (glu ι_pacF N (mN κ_pacF (mstat ++ ml_pacF))) 122 = 512 := (mN_at ce_pacF_56)
      have n123 : (glu ι_pacF N (mN κ_pacF (mstat ++ ml_pacF))) 123 = 3 := (mN_at ce_pacF_57)
      have n125 : (glu ι_pacF N (mN κ_pacF (mstat ++ ml_pacF))) 125 = 36 := (mN_at ce_pacF_59)
      have n126 : (glu ι_pacF N (mN κ_pacF (mstat ++ ml_pacF))) 126 = 36 := (mN_at ce_pacF_60)
      have n127 : (glu ι_pacF N (mN κ_pacF (mstat ++ ml_pacF))) 127 = 36 := (mN_at ce_pacF_61)
      have n128 : (glu ι_pacF N (mN κ_pacF (mstat ++ ml_pacF))) 128 = 36 := (mN_at ce_pacF_62)
      have n129 : (glu ι_pacF N (mN κ_pacF (mstat ++ ml_pacF))) 129 = 36 := (mN_at ce_pacF_63)
      have n130 : (glu ι_pacF N (mN κ_pacF (mstat ++ ml_pacF))) 130 = 512 := (mN_at ce_pacF_64)
      have n131 : (glu ι_pacF N (mN κ_pacF (mstat ++ ml_pacF))) 131 = 512 := (mN_at ce_pacF_65)
      have n132 : (glu ι_pacF N (mN κ_pacF (mstat ++ ml_pacF))) 132 = 512 := (mN_at ce_pacF_66)
      have n134 : (glu ι_pacF N (mN κ_pacF (mstat ++ ml_pacF))) 134 = 32 := (mN_at ce_pacF_68)
      have n135 : (glu ι_pacF N (mN κ_pacF (mstat ++ ml_pacF))) 135 = 32 := (mN_at ce_pacF_69)
      have n136 : (glu ι_pacF N (mN κ_pacF (mstat ++ ml_pacF))) 136 = 32 := (mN_at ce_pacF_70)
      have n137 : (glu ι_pacF N (mN κ_pacF (mstat ++ ml_pacF))) 137 = 32 := (mN_at ce_pacF_71)
      have n138 : (glu ι_pacF N (mN κ_pacF (mstat ++ ml_pacF))) 138 = 32 := (mN_at ce_pacF_72)
      have n139 : (glu ι_pacF N (mN κ_pacF (mstat ++ ml_pacF))) 139 = 256 := (mN_at ce_pacF_73)
      have n140 : (glu ι_pacF N (mN κ_pacF (mstat ++ ml_pacF))) 140 = 256 := (mN_at ce_pacF_74)
      have n141 : (glu ι_pacF N (mN κ_pacF (mstat ++ ml_pacF))) 141 = 256 := (mN_at ce_pacF_75)
      have n143 : (glu ι_pacF N (mN κ_pacF (mstat ++ ml_pacF))) 143 = 53 := (mN_at ce_pacF_77)
      have n144 : (glu ι_pacF N (mN κ_pacF (mstat ++ ml_pacF))) 144 = 53 := (mN_at ce_pacF_78)
      have n145 : (glu ι_pacF N (mN κ_pacF (mstat ++ ml_pacF))) 145 = 53 := (mN_at ce_pacF_79)
      have n146 : (glu ι_pacF N (mN κ_pacF (mstat ++ ml_pacF))) 146 = 53 := (mN_at ce_pacF_80)
      have n147 : (glu ι_pacF N (mN κ_pacF (mstat ++ ml_pacF))) 147 = 53 := (mN_at ce_pacF_81)
      have n148 : (glu ι_pacF N (mN κ_pacF (mstat ++ ml_pacF))) 148 = 512 := (mN_at ce_pacF_82)
      have n149 : (glu ι_pacF N (mN κ_pacF (mstat ++ ml_pacF))) 149 = 512 := (mN_at ce_pacF_83)
      have n150 : (glu ι_pacF N (mN κ_pacF (mstat ++ ml_pacF))) 150 = 512 := (mN_at ce_pacF_84)
      have n151 : (glu ι_pacF N (mN κ_pacF (mstat ++ ml_pacF))) 151 = 3 := (mN_at ce_pacF_85)
      have n153 : (glu ι_pacF N (mN κ_pacF (mstat ++ ml_pacF))) 153 = 36 := (mN_at ce_pacF_87)
      have n154 : (glu ι_pacF N (mN κ_pacF (mstat ++ ml_pacF))) 154 = 36 := (mN_at ce_pacF_88)
      have n155 : (glu ι_pacF N (mN κ_pacF (mstat ++ ml_pacF))) 155 = 36 := (mN_at ce_pacF_89)
      have n156 : (glu ι_pacF N (mN κ_pacF (mstat ++ ml_pacF))) 156 = 36 := (mN_at ce_pacF_90)
      have n157 : (glu ι_pacF N (mN κ_pacF (mstat ++ ml_pacF))) 157 = 36 := (mN_at ce_pacF_91)
      have n158 : (glu ι_pacF N (mN κ_pacF (mstat ++ ml_pacF))) 158 = 512 := (mN_at ce_pacF_92)
      have n159 : (glu ι_pacF N (mN κ_pacF (mstat ++ ml_pacF))) 159 = 512 := (mN_at ce_pacF_93)
      have n160 : (glu ι_pacF N (mN κ_pacF (mstat ++ ml_pacF))) 160 = 512 := (mN_at ce_pacF_94)
      have n162 : (glu ι_pacF N (mN κ_pacF (mstat ++ ml_pacF))) 162 = 32 := (mN_at ce_pacF_96)
      have n163 : (glu ι_pacF N (mN κ_pacF (mstat ++ ml_pacF))) 163 = 32 := (mN_at ce_pacF_97)
      have n164 : (glu ι_pacF N (mN κ_pacF (mstat ++ ml_pacF))) 164 = 32 := (mN_at ce_pacF_98)
      have n165 : (glu ι_pacF N (mN κ_pacF (mstat ++ ml_pacF))) 165 = 32 := (mN_at ce_pacF_99)
      have n166 : (glu ι_pacF N (mN κ_pacF (mstat ++ ml_pacF))) 166 = 32 := (mN_at ce_pacF_100)
      have n167 : (glu ι_pacF N (mN κ_pacF (mstat ++ ml_pacF))) 167 = 256 := (mN_at ce_pacF_101)
      have n168 : (glu ι_pacF N (mN κ_pacF (mstat ++ ml_pacF))) 168 = 256 := (mN_at ce_pacF_102)
      have n169 : (glu ι_pacF N (mN κ_pacF (mstat ++ ml_pacF))) 169 = 256 := (mN_at ce_pacF_103)
      have n171 : (glu ι_pacF N (mN κ_pacF (mstat ++ ml_pacF))) 171 = 53 := (mN_at ce_pacF_105)
      have n172 : (glu ι_pacF N (mN κ_pacF (mstat ++ ml_pacF))) 172 = 53 := (mN_at ce_pacF_106)
      have n173 : (glu ι_pacF N (mN κ_pacF (mstat ++ ml_pacF))) 173 = 53 := (mN_at ce_pacF_107)
      have n174 : (glu ι_pacF N (mN κ_pacF (mstat ++ ml_pacF))) 174 = 53 := (mN_at ce_pacF_108)
      have n175 : (glu ι_pacF N (mN κ_pacF (mstat ++ ml_pacF))) 175 = 53 := (mN_at ce_pacF_109)
      have n176 : (glu ι_pacF N (mN κ_pacF (mstat ++ ml_pacF))) 176 = 512 := (mN_at ce_pacF_110)
      have n177 : (glu ι_pacF N (mN κ_pacF (mstat ++ ml_pacF))) 177 = 512 := (mN_at ce_pacF_111)
      have n178 : (glu ι_pacF N (mN κ_pacF (mstat ++ ml_pacF))) 178 = 512 := (mN_at ce_pacF_112)
      have n180 : (glu ι_pacF N (mN κ_pacF (mstat ++ ml_pacF))) 180 = 3 := (mN_at ce_pacF_114)
      have n181 : (glu ι_pacF N (mN κ_pacF (mstat ++ ml_pacF))) 181 = 3 := (mN_at ce_pacF_115)
      have n183 : (glu ι_pacF N (mN κ_pacF (mstat ++ ml_pacF))) 183 = 3 := (mN_at ce_pacF_117)
      have n184 : (glu ι_pacF N (mN κ_pacF (mstat ++ ml_pacF))) 184 = 3 := (mN_at ce_pacF_118)
      have n186 : (glu ι_pacF N (mN κ_pacF (mstat ++ ml_pacF))) 186 = 0 := (mN_at ce_pacF_120)
      have n188 : (glu ι_pacF N (mN κ_pacF (mstat ++ ml_pacF))) 188 = 0 := (mN_at ce_pacF_122)
      have n190 : (glu ι_pacF N (mN κ_pacF (mstat ++ ml_pacF))) 190 = 0 := (mN_at ce_pacF_124)
      have n191 : (glu ι_pacF N (mN κ_pacF (mstat ++ ml_pacF))) 191 = 256 := (mN_at ce_pacF_125)
      have n192 : (glu ι_pacF N (mN κ_pacF (mstat ++ ml_pacF))) 192 = 53 := (mN_at ce_pacF_126)
      have n193 : (glu ι_pacF N (mN κ_pacF (mstat ++ ml_pacF))) 193 = 3 := (mN_at ce_pacF_127)
      have n194 : (glu ι_pacF N (mN κ_pacF (mstat ++ ml_pacF))) 194 = 0 := (mN_at ce_pacF_128)
      have n195 : (glu ι_pacF N (mN κ_pacF (mstat ++ ml_pacF))) 195 = 0 := (mN_at ce_pacF_129)
      have n196 : (glu ι_pacF N (mN κ_pacF (mstat ++ ml_pacF))) 196 = 0 := (mN_at ce_pacF_130)
      have n197 : (glu ι_pacF N (mN κ_pacF (mstat ++ ml_pacF))) 197 = 0 := (mN_at ce_pacF_131)
      have n198 : (glu ι_pacF N (mN κ_pacF (mstat ++ ml_pacF))) 198 = 3 := (mN_at ce_pacF_132)
      have n199 : (glu ι_pacF N (mN κ_pacF (mstat ++ ml_pacF))) 199 = 13 := (mN_at ce_pacF_133)
      have f83_1 : (glu ι_pacF F (mFd (mnu (F 0)) (mrho (D 0) σ.length (F 0)) κ_pacF (mstat ++ ml_pacF))) 83 1 = 12 := (show (mFd (mnu (F 0)) (mrho (D 0) σ.length (F 0)) κ_pacF (mstat ++ ml_pacF)) 17 1 = 12 from (mFd_at (k := 1) ce_pacF_17).trans (show ((12 : Int32)).toInt = 12 by decide))
      have f92_1 : (glu ι_pacF F (mFd (mnu (F 0)) (mrho (D 0) σ.length (F 0)) κ_pacF (mstat ++ ml_pacF))) 92 1 = 0 := (show (mFd (mnu (F 0)) (mrho (D 0) σ.length (F 0)) κ_pacF (mstat ++ ml_pacF)) 26 1 = 0 from (mFd_at (k := 1) ce_pacF_26).trans (show ((0 : Int32)).toInt = 0 by decide))
      have f94_1 : (glu ι_pacF F (mFd (mnu (F 0)) (mrho (D 0) σ.length (F 0)) κ_pacF (mstat ++ ml_pacF))) 94 1 = 0 := (show (mFd (mnu (F 0)) (mrho (D 0) σ.length (F 0)) κ_pacF (mstat ++ ml_pacF)) 28 1 = 0 from (mFd_at (k := 1) ce_pacF_28).trans (show ((0 : Int32)).toInt = 0 by decide))
      have f106_1 : (glu ι_pacF F (mFd (mnu (F 0)) (mrho (D 0) σ.length (F 0)) κ_pacF (mstat ++ ml_pacF))) 106 1 = 12 := (show (mFd (mnu (F 0)) (mrho (D 0) σ.length (F 0)) κ_pacF (mstat ++ ml_pacF)) 40 1 = 12 from (mFd_at (k := 1) ce_pacF_40).trans (show ((12 : Int32)).toInt = 12 by decide))
      have f115_1 : (glu ι_pacF F (mFd (mnu (F 0)) (mrho (D 0) σ.length (F 0)) κ_pacF (mstat ++ ml_pacF))) 115 1 = 0 := (show (mFd (mnu (F 0)) (mrho (D 0) σ.length (F 0)) κ_pacF (mstat ++ ml_pacF)) 49 1 = 0 from (mFd_at (k := 1) ce_pacF_49).trans (show ((0 : Int32)).toInt = 0 by decide))
      have f117_1 : (glu ι_pacF F (mFd (mnu (F 0)) (mrho (D 0) σ.length (F 0)) κ_pacF (mstat ++ ml_pacF))) 117 1 = 0 := (show (mFd (mnu (F 0)) (mrho (D 0) σ.length (F 0)) κ_pacF (mstat ++ ml_pacF)) 51 1 = 0 from (mFd_at (k := 1) ce_pacF_51).trans (show ((0 : Int32)).toInt = 0 by decide))
      have f124_1 : (glu ι_pacF F (mFd (mnu (F 0)) (mrho (D 0) σ.length (F 0)) κ_pacF (mstat ++ ml_pacF))) 124 1 = 36 := (show (mFd (mnu (F 0)) (mrho (D 0) σ.length (F 0)) κ_pacF (mstat ++ ml_pacF)) 58 1 = 36 from (mFd_at (k := 1) ce_pacF_58).trans (show ((36 : Int32)).toInt = 36 by decide))
      have f133_1 : (glu ι_pacF F (mFd (mnu (F 0)) (mrho (D 0) σ.length (F 0)) κ_pacF (mstat ++ ml_pacF))) 133 1 = 32 := (show (mFd (mnu (F 0)) (mrho (D 0) σ.length (F 0)) κ_pacF (mstat ++ ml_pacF)) 67 1 = 32 from (mFd_at (k := 1) ce_pacF_67).trans (show ((32 : Int32)).toInt = 32 by decide))
      have f142_1 : (glu ι_pacF F (mFd (mnu (F 0)) (mrho (D 0) σ.length (F 0)) κ_pacF (mstat ++ ml_pacF))) 142 1 = 53 := (show (mFd (mnu (F 0)) (mrho (D 0) σ.length (F 0)) κ_pacF (mstat ++ ml_pacF)) 76 1 = 53 from (mFd_at (k := 1) ce_pacF_76).trans (show ((53 : Int32)).toInt = 53 by decide))
      have f152_1 : (glu ι_pacF F (mFd (mnu (F 0)) (mrho (D 0) σ.length (F 0)) κ_pacF (mstat ++ ml_pacF))) 152 1 = 36 := (show (mFd (mnu (F 0)) (mrho (D 0) σ.length (F 0)) κ_pacF (mstat ++ ml_pacF)) 86 1 = 36 from (mFd_at (k := 1) ce_pacF_86).trans (show ((36 : Int32)).toInt = 36 by decide))
      have f161_1 : (glu ι_pacF F (mFd (mnu (F 0)) (mrho (D 0) σ.length (F 0)) κ_pacF (mstat ++ ml_pacF))) 161 1 = 32 := (show (mFd (mnu (F 0)) (mrho (D 0) σ.length (F 0)) κ_pacF (mstat ++ ml_pacF)) 95 1 = 32 from (mFd_at (k := 1) ce_pacF_95).trans (show ((32 : Int32)).toInt = 32 by decide))
      have f170_1 : (glu ι_pacF F (mFd (mnu (F 0)) (mrho (D 0) σ.length (F 0)) κ_pacF (mstat ++ ml_pacF))) 170 1 = 53 := (show (mFd (mnu (F 0)) (mrho (D 0) σ.length (F 0)) κ_pacF (mstat ++ ml_pacF)) 104 1 = 53 from (mFd_at (k := 1) ce_pacF_104).trans (show ((53 : Int32)).toInt = 53 by decide))
      have f185_1 : (glu ι_pacF F (mFd (mnu (F 0)) (mrho (D 0) σ.length (F 0)) κ_pacF (mstat ++ ml_pacF))) 185 1 = 0 := (show (mFd (mnu (F 0)) (mrho (D 0) σ.length (F 0)) κ_pacF (mstat ++ ml_pacF)) 119 1 = 0 from (mFd_at (k := 1) ce_pacF_119).trans (show ((0 : Int32)).toInt = 0 by decide))
      have f187_1 : (glu ι_pacF F (mFd (mnu (F 0)) (mrho (D 0) σ.length (F 0)) κ_pacF (mstat ++ ml_pacF))) 187 1 = 0 := (show (mFd (mnu (F 0)) (mrho (D 0) σ.length (F 0)) κ_pacF (mstat ++ ml_pacF)) 121 1 = 0 from (mFd_at (k := 1) ce_pacF_121).trans (show ((0 : Int32)).toInt = 0 by decide))
      have f189_1 : (glu ι_pacF F (mFd (mnu (F 0)) (mrho (D 0) σ.length (F 0)) κ_pacF (mstat ++ ml_pacF))) 189 1 = 0 := (show (mFd (mnu (F 0)) (mrho (D 0) σ.length (F 0)) κ_pacF (mstat ++ ml_pacF)) 123 1 = 0 from (mFd_at (k := 1) ce_pacF_123).trans (show ((0 : Int32)).toInt = 0 by decide))
      have a80 : (glu ι_pacF A (mA (mnu (F 0)) (mrho (D 0) σ.length (F 0)) κ_pacF (mstat ++ ml_pacF))) 80 = izl [] := (show (mA (mnu (F 0)) (mrho (D 0) σ.length (F 0)) κ_pacF (mstat ++ ml_pacF)) 14 = izl [] from mA_izl ce_pacF_14 rfl)
      have a103 : (glu ι_pacF A (mA (mnu (F 0)) (mrho (D 0) σ.length (F 0)) κ_pacF (mstat ++ ml_pacF))) 103 = izl [] := (show (mA (mnu (F 0)) (mrho (D 0) σ.length (F 0)) κ_pacF (mstat ++ ml_pacF)) 37 = izl [] from mA_izl ce_pacF_37 rfl)
      have a198 : (glu ι_pacF A (mA (mnu (F 0)) (mrho (D 0) σ.length (F 0)) κ_pacF (mstat ++ ml_pacF))) 198 = izl [] := (show (mA (mnu (F 0)) (mrho (D 0) σ.length (F 0)) κ_pacF (mstat ++ ml_pacF)) 132 = izl [] from mA_izl ce_pacF_132 rfl)
      exact ⟨show 0 ≤ ((glu ι_pacF F (mFd (mnu (F 0)) (mrho (D 0) σ.length (F 0)) κ_pacF (mstat ++ ml_pacF))) 185 1) ∧ ((glu ι_pacF F (mFd (mnu (F 0)) (mrho (D 0) σ.length (F 0)) κ_pacF (mstat ++ ml_pacF))) 185 1) ≤ ((((glu ι_pacF N (mN κ_pacF (mstat ++ ml_pacF))) 186 : Nat) : Int)) ∧ ((((glu ι_pacF N (mN κ_pacF (mstat ++ ml_pacF))) 186 : Nat) : Int)) ≤ 65536 from (by omega), show 0 ≤ ((glu ι_pacF F (mFd (mnu (F 0)) (mrho (D 0) σ.length (F 0)) κ_pacF (mstat ++ ml_pacF))) 187 1) ∧ ((glu ι_pacF F (mFd (mnu (F 0)) (mrho (D 0) σ.length (F 0)) κ_pacF (mstat ++ ml_pacF))) 187 1) ≤ ((((glu ι_pacF N (mN κ_pacF (mstat ++ ml_pacF))) 188 : Nat) : Int)) ∧ ((((glu ι_pacF N (mN κ_pacF (mstat ++ ml_pacF))) 188 : Nat) : Int)) ≤ 65536 from (by omega), show 0 ≤ ((glu ι_pacF F (mFd (mnu (F 0)) (mrho (D 0) σ.length (F 0)) κ_pacF (mstat ++ ml_pacF))) 189 1) ∧ ((glu ι_pacF F (mFd (mnu (F 0)) (mrho (D 0) σ.length (F 0)) κ_pacF (mstat ++ ml_pacF))) 189 1) ≤ ((((glu ι_pacF N (mN κ_pacF (mstat ++ ml_pacF))) 190 : Nat) : Int)) ∧ ((((glu ι_pacF N (mN κ_pacF (mstat ++ ml_pacF))) 190 : Nat) : Int)) ≤ 65536 from (by omega), show ((((glu ι_pacF N (mN κ_pacF (mstat ++ ml_pacF))) 191 : Nat) : Int)) = 256 ∧ ((((glu ι_pacF N (mN κ_pacF (mstat ++ ml_pacF))) 192 : Nat) : Int)) = 53 ∧ ((((glu ι_pacF N (mN κ_pacF (mstat ++ ml_pacF))) 199 : Nat) : Int)) = 13 ∧ ((((glu ι_pacF N (mN κ_pacF (mstat ++ ml_pacF))) 198 : Nat) : Int)) = 3 ∧ ((((glu ι_pacF N (mN κ_pacF (mstat ++ ml_pacF))) 76 : Nat) : Int)) = 2 ∧ ((((glu ι_pacF N (mN κ_pacF (mstat ++ ml_pacF))) 180 : Nat) : Int)) = 3 ∧ ((((glu ι_pacF N (mN κ_pacF (mstat ++ ml_pacF))) 181 : Nat) : Int)) = 3 ∧ ((((glu ι_pacF N (mN κ_pacF (mstat ++ ml_pacF))) 183 : Nat) : Int)) = 3 ∧ ((((glu ι_pacF N (mN κ_pacF (mstat ++ ml_pacF))) 184 : Nat) : Int)) = 3 ∧ ((((glu ι_pacF N (mN κ_pacF (mstat ++ ml_pacF))) 123 : Nat) : Int)) = 3 ∧ ((((glu ι_pacF N (mN κ_pacF (mstat ++ ml_pacF))) 151 : Nat) : Int)) = 3 from (by omega), show ((((glu ι_pacF N (mN κ_pacF (mstat ++ ml_pacF))) 193 : Nat) : Int)) = 3 ∧ ((((glu ι_pacF N (mN κ_pacF (mstat ++ ml_pacF))) 194 : Nat) : Int)) = ((((glu ι_pacF N (mN κ_pacF (mstat ++ ml_pacF))) 197 : Nat) : Int)) ∧ ((((glu ι_pacF N (mN κ_pacF (mstat ++ ml_pacF))) 195 : Nat) : Int)) = ((((glu ι_pacF N (mN κ_pacF (mstat ++ ml_pacF))) 197 : Nat) : Int)) ∧ ((((glu ι_pacF N (mN κ_pacF (mstat ++ ml_pacF))) 196 : Nat) : Int)) = ((((glu ι_pacF N (mN κ_pacF (mstat ++ ml_pacF))) 197 : Nat) : Int)) ∧ lgq (((((glu ι_pacF N (mN κ_pacF (mstat ++ ml_pacF))) 197 : Nat) : Int))) = 0 ∧ ((((glu ι_pacF N (mN κ_pacF (mstat ++ ml_pacF))) 197 : Nat) : Int)) ≤ 16384 from (by try unfold lgq; omega), show CDZD (((((glu ι_pacF N (mN κ_pacF (mstat ++ ml_pacF))) 78 : Nat) : Int))) (((((glu ι_pacF N (mN κ_pacF (mstat ++ ml_pacF))) 79 : Nat) : Int))) (((((glu ι_pacF N (mN κ_pacF (mstat ++ ml_pacF))) 80 : Nat) : Int))) (((((glu ι_pacF N (mN κ_pacF (mstat ++ ml_pacF))) 81 : Nat) : Int))) (((((glu ι_pacF N (mN κ_pacF (mstat ++ ml_pacF))) 82 : Nat) : Int))) (((((glu ι_pacF N (mN κ_pacF (mstat ++ ml_pacF))) 97 : Nat) : Int))) (((((glu ι_pacF N (mN κ_pacF (mstat ++ ml_pacF))) 98 : Nat) : Int))) (((((glu ι_pacF N (mN κ_pacF (mstat ++ ml_pacF))) 99 : Nat) : Int))) from (by unfold CDZD; rw [n78, n79, n80, n81, n82, n97, n98, n99]; decide), show SHZD (((((glu ι_pacF N (mN κ_pacF (mstat ++ ml_pacF))) 84 : Nat) : Int))) (((((glu ι_pacF N (mN κ_pacF (mstat ++ ml_pacF))) 85 : Nat) : Int))) (((((glu ι_pacF N (mN κ_pacF (mstat ++ ml_pacF))) 86 : Nat) : Int))) (((((glu ι_pacF N (mN κ_pacF (mstat ++ ml_pacF))) 87 : Nat) : Int))) (((((glu ι_pacF N (mN κ_pacF (mstat ++ ml_pacF))) 88 : Nat) : Int))) (((((glu ι_pacF N (mN κ_pacF (mstat ++ ml_pacF))) 89 : Nat) : Int))) (((((glu ι_pacF N (mN κ_pacF (mstat ++ ml_pacF))) 90 : Nat) : Int))) (((((glu ι_pacF N (mN κ_pacF (mstat ++ ml_pacF))) 91 : Nat) : Int))) (((glu ι_pacF F (mFd (mnu (F 0)) (mrho (D 0) σ.length (F 0)) κ_pacF (mstat ++ ml_pacF))) 83 1)) 12 64 from (by unfold SHZD; rw [f83_1, n84, n85, n86, n87, n88, n89, n90, n91]; decide), show 0 ≤ ((glu ι_pacF F (mFd (mnu (F 0)) (mrho (D 0) σ.length (F 0)) κ_pacF (mstat ++ ml_pacF))) 92 1) ∧ ((glu ι_pacF F (mFd (mnu (F 0)) (mrho (D 0) σ.length (F 0)) κ_pacF (mstat ++ ml_pacF))) 92 1) ≤ ((((glu ι_pacF N (mN κ_pacF (mstat ++ ml_pacF))) 93 : Nat) : Int)) ∧ ((((glu ι_pacF N (mN κ_pacF (mstat ++ ml_pacF))) 93 : Nat) : Int)) ≤ 65536 from (by omega), show 0 ≤ ((glu ι_pacF F (mFd (mnu (F 0)) (mrho (D 0) σ.length (F 0)) κ_pacF (mstat ++ ml_pacF))) 94 1) ∧ ((glu ι_pacF F (mFd (mnu (F 0)) (mrho (D 0) σ.length (F 0)) κ_pacF (mstat ++ ml_pacF))) 94 1) ≤ ((((glu ι_pacF N (mN κ_pacF (mstat ++ ml_pacF))) 95 : Nat) : Int)) ∧ ((((glu ι_pacF N (mN κ_pacF (mstat ++ ml_pacF))) 95 : Nat) : Int)) ≤ 65536 from (by omega), show CEL (((glu ι_pacF A (mA (mnu (F 0)) (mrho (D 0) σ.length (F 0)) κ_pacF (mstat ++ ml_pacF))) 80)) from (by rw [a80]; exact CEL_0), show CDZD (((((glu ι_pacF N (mN κ_pacF (mstat ++ ml_pacF))) 101 : Nat) : Int))) (((((glu ι_pacF N (mN κ_pacF (mstat ++ ml_pacF))) 102 : Nat) : Int))) (((((glu ι_pacF N (mN κ_pacF (mstat ++ ml_pacF))) 103 : Nat) : Int))) (((((glu ι_pacF N (mN κ_pacF (mstat ++ ml_pacF))) 104 : Nat) : Int))) (((((glu ι_pacF N (mN κ_pacF (mstat ++ ml_pacF))) 105 : Nat) : Int))) (((((glu ι_pacF N (mN κ_pacF (mstat ++ ml_pacF))) 120 : Nat) : Int))) (((((glu ι_pacF N (mN κ_pacF (mstat ++ ml_pacF))) 121 : Nat) : Int))) (((((glu ι_pacF N (mN κ_pacF (mstat ++ ml_pacF))) 122 : Nat) : Int))) from (by unfold CDZD; rw [n101, n102, n103, n104, n105, n120, n121, n122]; decide), show SHZD (((((glu ι_pacF N (mN κ_pacF (mstat ++ ml_pacF))) 107 : Nat) : Int))) (((((glu ι_pacF N (mN κ_pacF (mstat ++ ml_pacF))) 108 : Nat) : Int))) (((((glu ι_pacF N (mN κ_pacF (mstat ++ ml_pacF))) 109 : Nat) : Int))) (((((glu ι_pacF N (mN κ_pacF (mstat ++ ml_pacF))) 110 : Nat) : Int))) (((((glu ι_pacF N (mN κ_pacF (mstat ++ ml_pacF))) 111 : Nat) : Int))) (((((glu ι_pacF N (mN κ_pacF (mstat ++ ml_pacF))) 112 : Nat) : Int))) (((((glu ι_pacF N (mN κ_pacF (mstat ++ ml_pacF))) 113 : Nat) : Int))) (((((glu ι_pacF N (mN κ_pacF (mstat ++ ml_pacF))) 114 : Nat) : Int))) (((glu ι_pacF F (mFd (mnu (F 0)) (mrho (D 0) σ.length (F 0)) κ_pacF (mstat ++ ml_pacF))) 106 1)) 12 64 from (by unfold SHZD; rw [f106_1, n107, n108, n109, n110, n111, n112, n113, n114]; decide), show 0 ≤ ((glu ι_pacF F (mFd (mnu (F 0)) (mrho (D 0) σ.length (F 0)) κ_pacF (mstat ++ ml_pacF))) 115 1) ∧ ((glu ι_pacF F (mFd (mnu (F 0)) (mrho (D 0) σ.length (F 0)) κ_pacF (mstat ++ ml_pacF))) 115 1) ≤ ((((glu ι_pacF N (mN κ_pacF (mstat ++ ml_pacF))) 116 : Nat) : Int)) ∧ ((((glu ι_pacF N (mN κ_pacF (mstat ++ ml_pacF))) 116 : Nat) : Int)) ≤ 65536 from (by omega), show 0 ≤ ((glu ι_pacF F (mFd (mnu (F 0)) (mrho (D 0) σ.length (F 0)) κ_pacF (mstat ++ ml_pacF))) 117 1) ∧ ((glu ι_pacF F (mFd (mnu (F 0)) (mrho (D 0) σ.length (F 0)) κ_pacF (mstat ++ ml_pacF))) 117 1) ≤ ((((glu ι_pacF N (mN κ_pacF (mstat ++ ml_pacF))) 118 : Nat) : Int)) ∧ ((((glu ι_pacF N (mN κ_pacF (mstat ++ ml_pacF))) 118 : Nat) : Int)) ≤ 65536 from (by omega), show CEL (((glu ι_pacF A (mA (mnu (F 0)) (mrho (D 0) σ.length (F 0)) κ_pacF (mstat ++ ml_pacF))) 103)) from (by rw [a103]; exact CEL_0), show SHZD (((((glu ι_pacF N (mN κ_pacF (mstat ++ ml_pacF))) 125 : Nat) : Int))) (((((glu ι_pacF N (mN κ_pacF (mstat ++ ml_pacF))) 126 : Nat) : Int))) (((((glu ι_pacF N (mN κ_pacF (mstat ++ ml_pacF))) 127 : Nat) : Int))) (((((glu ι_pacF N (mN κ_pacF (mstat ++ ml_pacF))) 128 : Nat) : Int))) (((((glu ι_pacF N (mN κ_pacF (mstat ++ ml_pacF))) 129 : Nat) : Int))) (((((glu ι_pacF N (mN κ_pacF (mstat ++ ml_pacF))) 130 : Nat) : Int))) (((((glu ι_pacF N (mN κ_pacF (mstat ++ ml_pacF))) 131 : Nat) : Int))) (((((glu ι_pacF N (mN κ_pacF (mstat ++ ml_pacF))) 132 : Nat) : Int))) (((glu ι_pacF F (mFd (mnu (F 0)) (mrho (D 0) σ.length (F 0)) κ_pacF (mstat ++ ml_pacF))) 124 1)) 36 512 from (by unfold SHZD; rw [f124_1, n125, n126, n127, n128, n129, n130, n131, n132]; decide), show SHZD (((((glu ι_pacF N (mN κ_pacF (mstat ++ ml_pacF))) 153 : Nat) : Int))) (((((glu ι_pacF N (mN κ_pacF (mstat ++ ml_pacF))) 154 : Nat) : Int))) (((((glu ι_pacF N (mN κ_pacF (mstat ++ ml_pacF))) 155 : Nat) : Int))) (((((glu ι_pacF N (mN κ_pacF (mstat ++ ml_pacF))) 156 : Nat) : Int))) (((((glu ι_pacF N (mN κ_pacF (mstat ++ ml_pacF))) 157 : Nat) : Int))) (((((glu ι_pacF N (mN κ_pacF (mstat ++ ml_pacF))) 158 : Nat) : Int))) (((((glu ι_pacF N (mN κ_pacF (mstat ++ ml_pacF))) 159 : Nat) : Int))) (((((glu ι_pacF N (mN κ_pacF (mstat ++ ml_pacF))) 160 : Nat) : Int))) (((glu ι_pacF F (mFd (mnu (F 0)) (mrho (D 0) σ.length (F 0)) κ_pacF (mstat ++ ml_pacF))) 152 1)) 36 512 from (by unfold SHZD; rw [f152_1, n153, n154, n155, n156, n157, n158, n159, n160]; decide), show SHZD (((((glu ι_pacF N (mN κ_pacF (mstat ++ ml_pacF))) 134 : Nat) : Int))) (((((glu ι_pacF N (mN κ_pacF (mstat ++ ml_pacF))) 135 : Nat) : Int))) (((((glu ι_pacF N (mN κ_pacF (mstat ++ ml_pacF))) 136 : Nat) : Int))) (((((glu ι_pacF N (mN κ_pacF (mstat ++ ml_pacF))) 137 : Nat) : Int))) (((((glu ι_pacF N (mN κ_pacF (mstat ++ ml_pacF))) 138 : Nat) : Int))) (((((glu ι_pacF N (mN κ_pacF (mstat ++ ml_pacF))) 139 : Nat) : Int))) (((((glu ι_pacF N (mN κ_pacF (mstat ++ ml_pacF))) 140 : Nat) : Int))) (((((glu ι_pacF N (mN κ_pacF (mstat ++ ml_pacF))) 141 : Nat) : Int))) (((glu ι_pacF F (mFd (mnu (F 0)) (mrho (D 0) σ.length (F 0)) κ_pacF (mstat ++ ml_pacF))) 133 1)) 32 256 from (by unfold SHZD; rw [f133_1, n134, n135, n136, n137, n138, n139, n140, n141]; decide), show SHZD (((((glu ι_pacF N (mN κ_pacF (mstat ++ ml_pacF))) 162 : Nat) : Int))) (((((glu ι_pacF N (mN κ_pacF (mstat ++ ml_pacF))) 163 : Nat) : Int))) (((((glu ι_pacF N (mN κ_pacF (mstat ++ ml_pacF))) 164 : Nat) : Int))) (((((glu ι_pacF N (mN κ_pacF (mstat ++ ml_pacF))) 165 : Nat) : Int))) (((((glu ι_pacF N (mN κ_pacF (mstat ++ ml_pacF))) 166 : Nat) : Int))) (((((glu ι_pacF N (mN κ_pacF (mstat ++ ml_pacF))) 167 : Nat) : Int))) (((((glu ι_pacF N (mN κ_pacF (mstat ++ ml_pacF))) 168 : Nat) : Int))) (((((glu ι_pacF N (mN κ_pacF (mstat ++ ml_pacF))) 169 : Nat) : Int))) (((glu ι_pacF F (mFd (mnu (F 0)) (mrho (D 0) σ.length (F 0)) κ_pacF (mstat ++ ml_pacF))) 161 1)) 32 256 from (by unfold SHZD; rw [f161_1, n162, n163, n164, n165, n166, n167, n168, n169]; decide), show SHZD (((((glu ι_pacF N (mN κ_pacF (mstat ++ ml_pacF))) 143 : Nat) : Int))) (((((glu ι_pacF N (mN κ_pacF (mstat ++ ml_pacF))) 144 : Nat) : Int))) (((((glu ι_pacF N (mN κ_pacF (mstat ++ ml_pacF))) 145 : Nat) : Int))) (((((glu ι_pacF N (mN κ_pacF (mstat ++ ml_pacF))) 146 : Nat) : Int))) (((((glu ι_pacF N (mN κ_pacF (mstat ++ ml_pacF))) 147 : Nat) : Int))) (((((glu ι_pacF N (mN κ_pacF (mstat ++ ml_pacF))) 148 : Nat) : Int))) (((((glu ι_pacF N (mN κ_pacF (mstat ++ ml_pacF))) 149 : Nat) : Int))) (((((glu ι_pacF N (mN κ_pacF (mstat ++ ml_pacF))) 150 : Nat) : Int))) (((glu ι_pacF F (mFd (mnu (F 0)) (mrho (D 0) σ.length (F 0)) κ_pacF (mstat ++ ml_pacF))) 142 1)) 53 512 from (by unfold SHZD; rw [f142_1, n143, n144, n145, n146, n147, n148, n149, n150]; decide), show SHZD (((((glu ι_pacF N (mN κ_pacF (mstat ++ ml_pacF))) 171 : Nat) : Int))) (((((glu ι_pacF N (mN κ_pacF (mstat ++ ml_pacF))) 172 : Nat) : Int))) (((((glu ι_pacF N (mN κ_pacF (mstat ++ ml_pacF))) 173 : Nat) : Int))) (((((glu ι_pacF N (mN κ_pacF (mstat ++ ml_pacF))) 174 : Nat) : Int))) (((((glu ι_pacF N (mN κ_pacF (mstat ++ ml_pacF))) 175 : Nat) : Int))) (((((glu ι_pacF N (mN κ_pacF (mstat ++ ml_pacF))) 176 : Nat) : Int))) (((((glu ι_pacF N (mN κ_pacF (mstat ++ ml_pacF))) 177 : Nat) : Int))) (((((glu ι_pacF N (mN κ_pacF (mstat ++ ml_pacF))) 178 : Nat) : Int))) (((glu ι_pacF F (mFd (mnu (F 0)) (mrho (D 0) σ.length (F 0)) κ_pacF (mstat ++ ml_pacF))) 170 1)) 53 512 from (by unfold SHZD; rw [f170_1, n171, n172, n173, n174, n175, n176, n177, n178]; decide), show 0 ≤ (((glu ι_pacF A (mA (mnu (F 0)) (mrho (D 0) σ.length (F 0)) κ_pacF (mstat ++ ml_pacF))) 198)) 0 ∧ (((glu ι_pacF A (mA (mnu (F 0)) (mrho (D 0) σ.length (F 0)) κ_pacF (mstat ++ ml_pacF))) 198)) 0 ≤ 3 ∧ 0 ≤ (((glu ι_pacF A (mA (mnu (F 0)) (mrho (D 0) σ.length (F 0)) κ_pacF (mstat ++ ml_pacF))) 198)) 1 ∧ (((glu ι_pacF A (mA (mnu (F 0)) (mrho (D 0) σ.length (F 0)) κ_pacF (mstat ++ ml_pacF))) 198)) 1 ≤ 3 ∧ 0 ≤ (((glu ι_pacF A (mA (mnu (F 0)) (mrho (D 0) σ.length (F 0)) κ_pacF (mstat ++ ml_pacF))) 198)) 2 ∧ (((glu ι_pacF A (mA (mnu (F 0)) (mrho (D 0) σ.length (F 0)) κ_pacF (mstat ++ ml_pacF))) 198)) 2 ≤ 3 from (by rw [a198]; decide)⟩
    · have := hr.1
      unfold PCg
      omega
    · have := hr.2
      unfold PSg
      omega


end
