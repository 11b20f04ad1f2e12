section
/-! 07.code17 -/
-- 457 java/util/Arrays.copyOf([II)[I
noncomputable def tr457a (pc : Nat) : Option rI := bif Nat.blt pc 2 then (bif Nat.blt pc 1 then (bif Nat.beq pc 0 then some (.iload_n 1, 1, (0, 0, 0, .null)) else none) else (bif Nat.beq pc 1 then some (.aload_n 0, 1, (0, 0, 0, .null)) else none)) else (bif Nat.blt pc 3 then (bif Nat.beq pc 2 then some (.arraylength, 1, (0, 0, 0, .null)) else none) else (bif Nat.beq pc 3 then some (.if_icmp .ne (11), 3, (0, 0, 0, .null)) else (bif Nat.beq pc 6 then some (.aload_n 0, 1, (0, 0, 0, .null)) else none)))
noncomputable def tr457b (pc : Nat) : Option rI := bif Nat.blt pc 15 then (bif Nat.blt pc 14 then (bif Nat.beq pc 13 then some (.areturn, 1, (0, 0, 0, .null)) else none) else (bif Nat.beq pc 14 then some (.iload_n 1, 1, (0, 0, 0, .null)) else none)) else (bif Nat.blt pc 17 then (bif Nat.beq pc 15 then some (.newarray .int, 2, (0, 0, 0, .null)) else none) else (bif Nat.beq pc 17 then some (.astore_n 2, 1, (0, 0, 0, .null)) else (bif Nat.beq pc 18 then some (.aload_n 0, 1, (0, 0, 0, .null)) else none)))
noncomputable def tr457c (pc : Nat) : Option rI := bif Nat.blt pc 21 then (bif Nat.blt pc 20 then (bif Nat.beq pc 19 then some (.iconst (0), 1, (0, 0, 0, .null)) else none) else (bif Nat.beq pc 20 then some (.aload_n 2, 1, (0, 0, 0, .null)) else none)) else (bif Nat.blt pc 22 then (bif Nat.beq pc 21 then some (.iconst (0), 1, (0, 0, 0, .null)) else none) else (bif Nat.beq pc 22 then some (.aload_n 0, 1, (0, 0, 0, .null)) else (bif Nat.beq pc 23 then some (.arraylength, 1, (0, 0, 0, .null)) else none)))
noncomputable def tr457d (pc : Nat) : Option rI := bif Nat.blt pc 28 then (bif Nat.blt pc 25 then (bif Nat.beq pc 24 then some (.iload_n 1, 1, (0, 0, 0, .null)) else none) else (bif Nat.beq pc 25 then some (.invokestatic 304, 3, (30, 0, 0, .null)) else none)) else (bif Nat.blt pc 31 then (bif Nat.beq pc 28 then some (.invokestatic 150, 3, (27, 0, 0, .null)) else none) else (bif Nat.beq pc 31 then some (.aload_n 2, 1, (0, 0, 0, .null)) else (bif Nat.beq pc 32 then some (.areturn, 1, (0, 0, 0, .null)) else none)))
noncomputable def tr457 (pc : Nat) : Option rI := bif Nat.blt pc 19 then (bif Nat.blt pc 13 then (tr457a pc) else (tr457b pc)) else (bif Nat.blt pc 24 then (tr457c pc) else (tr457d pc))
noncomputable def tb457 (pc : Nat) : Option rI := bif Nat.blt pc 33 then tr457 pc else none
-- 458 java/util/Arrays.fill([BIIB)V
noncomputable def tr458a (pc : Nat) : Option rI := bif Nat.blt pc 2 then (bif Nat.blt pc 1 then (bif Nat.beq pc 0 then some (.aload_n 0, 1, (0, 0, 0, .null)) else none) else (bif Nat.beq pc 1 then some (.arraylength, 1, (0, 0, 0, .null)) else none)) else (bif Nat.blt pc 3 then (bif Nat.beq pc 2 then some (.iload_n 1, 1, (0, 0, 0, .null)) else none) else (bif Nat.beq pc 3 then some (.iload_n 2, 1, (0, 0, 0, .null)) else none))
noncomputable def tr458b (pc : Nat) : Option rI := bif Nat.blt pc 8 then (bif Nat.blt pc 7 then (bif Nat.beq pc 4 then some (.invokestatic 13, 3, (24, 460, 3, .null)) else none) else (bif Nat.beq pc 7 then some (.iload_n 1, 1, (0, 0, 0, .null)) else none)) else (bif Nat.blt pc 10 then (bif Nat.beq pc 8 then some (.istore 4, 2, (0, 0, 0, .null)) else none) else (bif Nat.beq pc 10 then some (.iload 4, 2, (0, 0, 0, .null)) else none))
noncomputable def tr458c (pc : Nat) : Option rI := bif Nat.blt pc 16 then (bif Nat.blt pc 13 then (bif Nat.beq pc 12 then some (.iload_n 2, 1, (0, 0, 0, .null)) else none) else (bif Nat.beq pc 13 then some (.if_icmp .ge (14), 3, (0, 0, 0, .null)) else none)) else (bif Nat.blt pc 17 then (bif Nat.beq pc 16 then some (.aload_n 0, 1, (0, 0, 0, .null)) else none) else (bif Nat.beq pc 17 then some (.iload 4, 2, (0, 0, 0, .null)) else none))
noncomputable def tr458d (pc : Nat) : Option rI := bif Nat.blt pc 21 then (bif Nat.blt pc 20 then (bif Nat.beq pc 19 then some (.iload_n 3, 1, (0, 0, 0, .null)) else none) else (bif Nat.beq pc 20 then some (.bastore, 1, (0, 0, 0, .null)) else none)) else (bif Nat.blt pc 24 then (bif Nat.beq pc 21 then some (.iinc 4 (1), 3, (0, 0, 0, .null)) else none) else (bif Nat.beq pc 24 then some (.goto (-14), 3, (0, 0, 0, .null)) else (bif Nat.beq pc 27 then some (.return_, 1, (0, 0, 0, .null)) else none)))
noncomputable def tr458 (pc : Nat) : Option rI := bif Nat.blt pc 12 then (bif Nat.blt pc 4 then (tr458a pc) else (tr458b pc)) else (bif Nat.blt pc 19 then (tr458c pc) else (tr458d pc))
noncomputable def tb458 (pc : Nat) : Option rI := bif Nat.blt pc 28 then tr458 pc else none
-- 459 java/util/Arrays.fill([IIII)V
noncomputable def tr459a (pc : Nat) : Option rI := bif Nat.blt pc 2 then (bif Nat.blt pc 1 then (bif Nat.beq pc 0 then some (.aload_n 0, 1, (0, 0, 0, .null)) else none) else (bif Nat.beq pc 1 then some (.arraylength, 1, (0, 0, 0, .null)) else none)) else (bif Nat.blt pc 3 then (bif Nat.beq pc 2 then some (.iload_n 1, 1, (0, 0, 0, .null)) else none) else (bif Nat.beq pc 3 then some (.iload_n 2, 1, (0, 0, 0, .null)) else none))
noncomputable def tr459b (pc : Nat) : Option rI := bif Nat.blt pc 8 then (bif Nat.blt pc 7 then (bif Nat.beq pc 4 then some (.invokestatic 13, 3, (24, 460, 3, .null)) else none) else (bif Nat.beq pc 7 then some (.iload_n 1, 1, (0, 0, 0, .null)) else none)) else (bif Nat.blt pc 10 then (bif Nat.beq pc 8 then some (.istore 4, 2, (0, 0, 0, .null)) else none) else (bif Nat.beq pc 10 then some (.iload 4, 2, (0, 0, 0, .null)) else none))
noncomputable def tr459c (pc : Nat) : Option rI := bif Nat.blt pc 16 then (bif Nat.blt pc 13 then (bif Nat.beq pc 12 then some (.iload_n 2, 1, (0, 0, 0, .null)) else none) else (bif Nat.beq pc 13 then some (.if_icmp .ge (14), 3, (0, 0, 0, .null)) else none)) else (bif Nat.blt pc 17 then (bif Nat.beq pc 16 then some (.aload_n 0, 1, (0, 0, 0, .null)) else none) else (bif Nat.beq pc 17 then some (.iload 4, 2, (0, 0, 0, .null)) else none))
noncomputable def tr459d (pc : Nat) : Option rI := bif Nat.blt pc 21 then (bif Nat.blt pc 20 then (bif Nat.beq pc 19 then some (.iload_n 3, 1, (0, 0, 0, .null)) else none) else (bif Nat.beq pc 20 then some (.iastore, 1, (0, 0, 0, .null)) else none)) else (bif Nat.blt pc 24 then (bif Nat.beq pc 21 then some (.iinc 4 (1), 3, (0, 0, 0, .null)) else none) else (bif Nat.beq pc 24 then some (.goto (-14), 3, (0, 0, 0, .null)) else (bif Nat.beq pc 27 then some (.return_, 1, (0, 0, 0, .null)) else none)))
noncomputable def tr459 (pc : Nat) : Option rI := bif Nat.blt pc 12 then (bif Nat.blt pc 4 then (tr459a pc) else (tr459b pc)) else (bif Nat.blt pc 19 then (tr459c pc) else (tr459d pc))
noncomputable def tb459 (pc : Nat) : Option rI := bif Nat.blt pc 28 then tr459 pc else none
-- 460 java/util/Arrays.rangeCheck(III)V
noncomputable def tr460a (pc : Nat) : Option rI := bif Nat.blt pc 2 then (bif Nat.blt pc 1 then (bif Nat.beq pc 0 then some (.iload_n 1, 1, (0, 0, 0, .null)) else none) else (bif Nat.beq pc 1 then some (.iload_n 2, 1, (0, 0, 0, .null)) else none)) else (bif Nat.blt pc 8 then (bif Nat.beq pc 2 then some (.if_icmp .le (44), 3, (0, 0, 0, .null)) else none) else (bif Nat.beq pc 8 then some (.dup, 1, (0, 0, 0, .null)) else none))
noncomputable def tr460b (pc : Nat) : Option rI := bif Nat.blt pc 30 then (bif Nat.blt pc 21 then (bif Nat.beq pc 12 then some (.dup, 1, (0, 0, 0, .null)) else none) else (bif Nat.beq pc 21 then some (.iload_n 1, 1, (0, 0, 0, .null)) else none)) else (bif Nat.blt pc 46 then (bif Nat.beq pc 30 then some (.iload_n 2, 1, (0, 0, 0, .null)) else none) else (bif Nat.beq pc 46 then some (.iload_n 1, 1, (0, 0, 0, .null)) else none))
noncomputable def tr460c (pc : Nat) : Option rI := bif Nat.blt pc 54 then (bif Nat.blt pc 53 then (bif Nat.beq pc 47 then some (.ifCond .ge (12), 3, (0, 0, 0, .null)) else none) else (bif Nat.beq pc 53 then some (.dup, 1, (0, 0, 0, .null)) else none)) else (bif Nat.blt pc 59 then (bif Nat.beq pc 54 then some (.iload_n 1, 1, (0, 0, 0, .null)) else none) else (bif Nat.beq pc 59 then some (.iload_n 2, 1, (0, 0, 0, .null)) else none))
noncomputable def tr460d (pc : Nat) : Option rI := bif Nat.blt pc 67 then (bif Nat.blt pc 61 then (bif Nat.beq pc 60 then some (.iload_n 0, 1, (0, 0, 0, .null)) else none) else (bif Nat.beq pc 61 then some (.if_icmp .le (12), 3, (0, 0, 0, .null)) else none)) else (bif Nat.blt pc 68 then (bif Nat.beq pc 67 then some (.dup, 1, (0, 0, 0, .null)) else none) else (bif Nat.beq pc 68 then some (.iload_n 2, 1, (0, 0, 0, .null)) else (bif Nat.beq pc 73 then some (.return_, 1, (0, 0, 0, .null)) else none)))
noncomputable def tr460 (pc : Nat) : Option rI := bif Nat.blt pc 47 then (bif Nat.blt pc 12 then (tr460a pc) else (tr460b pc)) else (bif Nat.blt pc 60 then (tr460c pc) else (tr460d pc))
noncomputable def tb460 (pc : Nat) : Option rI := bif Nat.blt pc 74 then tr460 pc else none


end
section
/-! 08.fetch -/
noncomputable def feaaaaaaa (m pc : Nat) : Option rI := bif Nat.beq m 0 then tb0 pc else (bif Nat.beq m 1 then tb1 pc else (bif Nat.beq m 2 then tb2 pc else none))
noncomputable def feaaaaaaba (m pc : Nat) : Option rI := bif Nat.beq m 3 then tb3 pc else (bif Nat.beq m 4 then tb4 pc else none)
noncomputable def feaaaaaabb (m pc : Nat) : Option rI := bif Nat.beq m 5 then tb5 pc else (bif Nat.beq m 6 then tb6 pc else none)
noncomputable def feaaaaaab (m pc : Nat) : Option rI := bif Nat.blt m 5 then feaaaaaaba m pc else feaaaaaabb m pc
noncomputable def feaaaaaa (m pc : Nat) : Option rI := bif Nat.blt m 3 then feaaaaaaa m pc else feaaaaaab m pc
noncomputable def feaaaaaba (m pc : Nat) : Option rI := bif Nat.beq m 7 then tb7 pc else (bif Nat.beq m 8 then tb8 pc else (bif Nat.beq m 9 then tb9 pc else none))
noncomputable def feaaaaabba (m pc : Nat) : Option rI := bif Nat.beq m 10 then tb10 pc else (bif Nat.beq m 11 then tb11 pc else none)
noncomputable def feaaaaabbb (m pc : Nat) : Option rI := bif Nat.beq m 12 then tb12 pc else (bif Nat.beq m 13 then tb13 pc else none)
noncomputable def feaaaaabb (m pc : Nat) : Option rI := bif Nat.blt m 12 then feaaaaabba m pc else feaaaaabbb m pc
noncomputable def feaaaaab (m pc : Nat) : Option rI := bif Nat.blt m 10 then feaaaaaba m pc else feaaaaabb m pc
noncomputable def feaaaaa (m pc : Nat) : Option rI := bif Nat.blt m 7 then feaaaaaa m pc else feaaaaab m pc
noncomputable def feaaaabaa (m pc : Nat) : Option rI := bif Nat.beq m 14 then tb14 pc else (bif Nat.beq m 15 then tb15 pc else (bif Nat.beq m 16 then tb16 pc else none))
noncomputable def feaaaababa (m pc : Nat) : Option rI := bif Nat.beq m 17 then tb17 pc else (bif Nat.beq m 18 then tb18 pc else none)
noncomputable def feaaaababb (m pc : Nat) : Option rI := bif Nat.beq m 19 then tb19 pc else (bif Nat.beq m 20 then tb20 pc else none)
noncomputable def feaaaabab (m pc : Nat) : Option rI := bif Nat.blt m 19 then feaaaababa m pc else feaaaababb m pc
noncomputable def feaaaaba (m pc : Nat) : Option rI := bif Nat.blt m 17 then feaaaabaa m pc else feaaaabab m pc
noncomputable def feaaaabba (m pc : Nat) : Option rI := bif Nat.beq m 21 then tb21 pc else (bif Nat.beq m 22 then tb22 pc else (bif Nat.beq m 23 then tb23 pc else none))
noncomputable def feaaaabbba (m pc : Nat) : Option rI := bif Nat.beq m 24 then tb24 pc else (bif Nat.beq m 25 then tb25 pc else none)
noncomputable def feaaaabbbb (m pc : Nat) : Option rI := bif Nat.beq m 26 then tb26 pc else (bif Nat.beq m 27 then tb27 pc else none)
noncomputable def feaaaabbb (m pc : Nat) : Option rI := bif Nat.blt m 26 then feaaaabbba m pc else feaaaabbbb m pc
noncomputable def feaaaabb (m pc : Nat) : Option rI := bif Nat.blt m 24 then feaaaabba m pc else feaaaabbb m pc
noncomputable def feaaaab (m pc : Nat) : Option rI := bif Nat.blt m 21 then feaaaaba m pc else feaaaabb m pc
noncomputable def feaaaa (m pc : Nat) : Option rI := bif Nat.blt m 14 then feaaaaa m pc else feaaaab m pc
noncomputable def feaaabaaa (m pc : Nat) : Option rI := bif Nat.beq m 28 then tb28 pc else (bif Nat.beq m 29 then tb29 pc else (bif Nat.beq m 30 then tb30 pc else none))
noncomputable def feaaabaaba (m pc : Nat) : Option rI := bif Nat.beq m 31 then tb31 pc else (bif Nat.beq m 32 then tb32 pc else none)
noncomputable def feaaabaabb (m pc : Nat) : Option rI := bif Nat.beq m 33 then tb33 pc else (bif Nat.beq m 34 then tb34 pc else none)
noncomputable def feaaabaab (m pc : Nat) : Option rI := bif Nat.blt m 33 then feaaabaaba m pc else feaaabaabb m pc
noncomputable def feaaabaa (m pc : Nat) : Option rI := bif Nat.blt m 31 then feaaabaaa m pc else feaaabaab m pc
noncomputable def feaaababa (m pc : Nat) : Option rI := bif Nat.beq m 35 then tb35 pc else (bif Nat.beq m 36 then tb36 pc else (bif Nat.beq m 37 then tb37 pc else none))
noncomputable def feaaababba (m pc : Nat) : Option rI := bif Nat.beq m 38 then tb38 pc else (bif Nat.beq m 39 then tb39 pc else none)
noncomputable def feaaababbb (m pc : Nat) : Option rI := bif Nat.beq m 40 then tb40 pc else (bif Nat.beq m 41 then tb41 pc else none)
noncomputable def feaaababb (m pc : Nat) : Option rI := bif Nat.blt m 40 then feaaababba m pc else feaaababbb m pc
noncomputable def feaaabab (m pc : Nat) : Option rI := bif Nat.blt m 38 then feaaababa m pc else feaaababb m pc
noncomputable def feaaaba (m pc : Nat) : Option rI := bif Nat.blt m 35 then feaaabaa m pc else feaaabab m pc
noncomputable def feaaabbaa (m pc : Nat) : Option rI := bif Nat.beq m 42 then tb42 pc else (bif Nat.beq m 43 then tb43 pc else (bif Nat.beq m 44 then tb44 pc else none))
noncomputable def feaaabbaba (m pc : Nat) : Option rI := bif Nat.beq m 45 then tb45 pc else (bif Nat.beq m 46 then tb46 pc else none)
noncomputable def feaaabbabb (m pc : Nat) : Option rI := bif Nat.beq m 47 then tb47 pc else (bif Nat.beq m 48 then tb48 pc else none)
noncomputable def feaaabbab (m pc : Nat) : Option rI := bif Nat.blt m 47 then feaaabbaba m pc else feaaabbabb m pc
noncomputable def feaaabba (m pc : Nat) : Option rI := bif Nat.blt m 45 then feaaabbaa m pc else feaaabbab m pc
noncomputable def feaaabbbaa (m pc : Nat) : Option rI := bif Nat.beq m 49 then tb49 pc else (bif Nat.beq m 50 then tb50 pc else none)
noncomputable def feaaabbbab (m pc : Nat) : Option rI := bif Nat.beq m 51 then tb51 pc else (bif Nat.beq m 52 then tb52 pc else none)
noncomputable def feaaabbba (m pc : Nat) : Option rI := bif Nat.blt m 51 then feaaabbbaa m pc else feaaabbbab m pc
noncomputable def feaaabbbba (m pc : Nat) : Option rI := bif Nat.beq m 53 then tb53 pc else (bif Nat.beq m 54 then tb54 pc else none)
noncomputable def feaaabbbbb (m pc : Nat) : Option rI := bif Nat.beq m 55 then tb55 pc else (bif Nat.beq m 56 then tb56 pc else none)
noncomputable def feaaabbbb (m pc : Nat) : Option rI := bif Nat.blt m 55 then feaaabbbba m pc else feaaabbbbb m pc
noncomputable def feaaabbb (m pc : Nat) : Option rI := bif Nat.blt m 53 then feaaabbba m pc else feaaabbbb m pc
noncomputable def feaaabb (m pc : Nat) : Option rI := bif Nat.blt m 49 then feaaabba m pc else feaaabbb m pc
noncomputable def feaaab (m pc : Nat) : Option rI := bif Nat.blt m 42 then feaaaba m pc else feaaabb m pc
noncomputable def feaaa (m pc : Nat) : Option rI := bif Nat.blt m 28 then feaaaa m pc else feaaab m pc
noncomputable def feaabaaaa (m pc : Nat) : Option rI := bif Nat.beq m 57 then tb57 pc else (bif Nat.beq m 58 then tb58 pc else (bif Nat.beq m 59 then tb59 pc else none))
noncomputable def feaabaaaba (m pc : Nat) : Option rI := bif Nat.beq m 60 then tb60 pc else (bif Nat.beq m 61 then tb61 pc else none)
noncomputable def feaabaaabb (m pc : Nat) : Option rI := bif Nat.beq m 62 then tb62 pc else (bif Nat.beq m 63 then tb63 pc else none)
noncomputable def feaabaaab (m pc : Nat) : Option rI := bif Nat.blt m 62 then feaabaaaba m pc else feaabaaabb m pc
noncomputable def feaabaaa (m pc : Nat) : Option rI := bif Nat.blt m 60 then feaabaaaa m pc else feaabaaab m pc
noncomputable def feaabaaba (m pc : Nat) : Option rI := bif Nat.beq m 64 then tb64 pc else (bif Nat.beq m 65 then tb65 pc else (bif Nat.beq m 66 then tb66 pc else none))
noncomputable def feaabaabba (m pc : Nat) : Option rI := bif Nat.beq m 67 then tb67 pc else (bif Nat.beq m 68 then tb68 pc else none)
noncomputable def feaabaabbb (m pc : Nat) : Option rI := bif Nat.beq m 69 then tb69 pc else (bif Nat.beq m 70 then tb70 pc else none)
noncomputable def feaabaabb (m pc : Nat) : Option rI := bif Nat.blt m 69 then feaabaabba m pc else feaabaabbb m pc
noncomputable def feaabaab (m pc : Nat) : Option rI := bif Nat.blt m 67 then feaabaaba m pc else feaabaabb m pc
noncomputable def feaabaa (m pc : Nat) : Option rI := bif Nat.blt m 64 then feaabaaa m pc else feaabaab m pc
noncomputable def feaababaa (m pc : Nat) : Option rI := bif Nat.beq m 71 then tb71 pc else (bif Nat.beq m 72 then tb72 pc else (bif Nat.beq m 73 then tb73 pc else none))
noncomputable def feaabababa (m pc : Nat) : Option rI := bif Nat.beq m 74 then tb74 pc else (bif Nat.beq m 75 then tb75 pc else none)
noncomputable def feaabababb (m pc : Nat) : Option rI := bif Nat.beq m 76 then tb76 pc else (bif Nat.beq m 77 then tb77 pc else none)
noncomputable def feaababab (m pc : Nat) : Option rI := bif Nat.blt m 76 then feaabababa m pc else feaabababb m pc
noncomputable def feaababa (m pc : Nat) : Option rI := bif Nat.blt m 74 then feaababaa m pc else feaababab m pc
noncomputable def feaababbaa (m pc : Nat) : Option rI := bif Nat.beq m 78 then tb78 pc else (bif Nat.beq m 79 then tb79 pc else none)
noncomputable def feaababbab (m pc : Nat) : Option rI := bif Nat.beq m 80 then tb80 pc else (bif Nat.beq m 81 then tb81 pc else none)
noncomputable def feaababba (m pc : Nat) : Option rI := bif Nat.blt m 80 then feaababbaa m pc else feaababbab m pc
noncomputable def feaababbba (m pc : Nat) : Option rI := bif Nat.beq m 82 then tb82 pc else (bif Nat.beq m 83 then tb83 pc else none)
noncomputable def feaababbbb (m pc : Nat) : Option rI := bif Nat.beq m 84 then tb84 pc else (bif Nat.beq m 85 then tb85 pc else none)
noncomputable def feaababbb (m pc : Nat) : Option rI := bif Nat.blt m 84 then feaababbba m pc else feaababbbb m pc
noncomputable def feaababb (m pc : Nat) : Option rI := bif Nat.blt m 82 then feaababba m pc else feaababbb m pc
noncomputable def feaabab (m pc : Nat) : Option rI := bif Nat.blt m 78 then feaababa m pc else feaababb m pc
noncomputable def feaaba (m pc : Nat) : Option rI := bif Nat.blt m 71 then feaabaa m pc else feaabab m pc
noncomputable def feaabbaaa (m pc : Nat) : Option rI := bif Nat.beq m 86 then tb86 pc else (bif Nat.beq m 87 then tb87 pc else (bif Nat.beq m 88 then tb88 pc else none))
noncomputable def feaabbaaba (m pc : Nat) : Option rI := bif Nat.beq m 89 then tb89 pc else (bif Nat.beq m 90 then tb90 pc else none)
noncomputable def feaabbaabb (m pc : Nat) : Option rI := bif Nat.beq m 91 then tb91 pc else (bif Nat.beq m 92 then tb92 pc else none)
noncomputable def feaabbaab (m pc : Nat) : Option rI := bif Nat.blt m 91 then feaabbaaba m pc else feaabbaabb m pc
noncomputable def feaabbaa (m pc : Nat) : Option rI := bif Nat.blt m 89 then feaabbaaa m pc else feaabbaab m pc
noncomputable def feaabbaba (m pc : Nat) : Option rI := bif Nat.beq m 93 then tb93 pc else (bif Nat.beq m 94 then tb94 pc else (bif Nat.beq m 95 then tb95 pc else none))
noncomputable def feaabbabba (m pc : Nat) : Option rI := bif Nat.beq m 96 then tb96 pc else (bif Nat.beq m 97 then tb97 pc else none)
noncomputable def feaabbabbb (m pc : Nat) : Option rI := bif Nat.beq m 98 then tb98 pc else (bif Nat.beq m 99 then tb99 pc else none)
noncomputable def feaabbabb (m pc : Nat) : Option rI := bif Nat.blt m 98 then feaabbabba m pc else feaabbabbb m pc
noncomputable def feaabbab (m pc : Nat) : Option rI := bif Nat.blt m 96 then feaabbaba m pc else feaabbabb m pc
noncomputable def feaabba (m pc : Nat) : Option rI := bif Nat.blt m 93 then feaabbaa m pc else feaabbab m pc
noncomputable def feaabbbaa (m pc : Nat) : Option rI := bif Nat.beq m 100 then tb100 pc else (bif Nat.beq m 101 then tb101 pc else (bif Nat.beq m 102 then tb102 pc else none))
noncomputable def feaabbbaba (m pc : Nat) : Option rI := bif Nat.beq m 103 then tb103 pc else (bif Nat.beq m 104 then tb104 pc else none)
noncomputable def feaabbbabb (m pc : Nat) : Option rI := bif Nat.beq m 105 then tb105 pc else (bif Nat.beq m 106 then tb106 pc else none)
noncomputable def feaabbbab (m pc : Nat) : Option rI := bif Nat.blt m 105 then feaabbbaba m pc else feaabbbabb m pc
noncomputable def feaabbba (m pc : Nat) : Option rI := bif Nat.blt m 103 then feaabbbaa m pc else feaabbbab m pc
noncomputable def feaabbbbaa (m pc : Nat) : Option rI := bif Nat.beq m 107 then tb107 pc else (bif Nat.beq m 108 then tb108 pc else none)
noncomputable def feaabbbbab (m pc : Nat) : Option rI := bif Nat.beq m 109 then tb109 pc else (bif Nat.beq m 110 then tb110 pc else none)
noncomputable def feaabbbba (m pc : Nat) : Option rI := bif Nat.blt m 109 then feaabbbbaa m pc else feaabbbbab m pc
noncomputable def feaabbbbba (m pc : Nat) : Option rI := bif Nat.beq m 111 then tb111 pc else (bif Nat.beq m 112 then tb112 pc else none)
noncomputable def feaabbbbbb (m pc : Nat) : Option rI := bif Nat.beq m 113 then tb113 pc else (bif Nat.beq m 114 then tb114 pc else none)
noncomputable def feaabbbbb (m pc : Nat) : Option rI := bif Nat.blt m 113 then feaabbbbba m pc else feaabbbbbb m pc
noncomputable def feaabbbb (m pc : Nat) : Option rI := bif Nat.blt m 111 then feaabbbba m pc else feaabbbbb m pc
noncomputable def feaabbb (m pc : Nat) : Option rI := bif Nat.blt m 107 then feaabbba m pc else feaabbbb m pc
noncomputable def feaabb (m pc : Nat) : Option rI := bif Nat.blt m 100 then feaabba m pc else feaabbb m pc
noncomputable def feaab (m pc : Nat) : Option rI := bif Nat.blt m 86 then feaaba m pc else feaabb m pc
noncomputable def feaa (m pc : Nat) : Option rI := bif Nat.blt m 57 then feaaa m pc else feaab m pc
noncomputable def feabaaaaa (m pc : Nat) : Option rI := bif Nat.beq m 115 then tb115 pc else (bif Nat.beq m 116 then tb116 pc else (bif Nat.beq m 117 then tb117 pc else none))
noncomputable def feabaaaaba (m pc : Nat) : Option rI := bif Nat.beq m 118 then tb118 pc else (bif Nat.beq m 119 then tb119 pc else none)
noncomputable def feabaaaabb (m pc : Nat) : Option rI := bif Nat.beq m 120 then tb120 pc else (bif Nat.beq m 121 then tb121 pc else none)
noncomputable def feabaaaab (m pc : Nat) : Option rI := bif Nat.blt m 120 then feabaaaaba m pc else feabaaaabb m pc
noncomputable def feabaaaa (m pc : Nat) : Option rI := bif Nat.blt m 118 then feabaaaaa m pc else feabaaaab m pc
noncomputable def feabaaaba (m pc : Nat) : Option rI := bif Nat.beq m 122 then tb122 pc else (bif Nat.beq m 123 then tb123 pc else (bif Nat.beq m 124 then tb124 pc else none))
noncomputable def feabaaabba (m pc : Nat) : Option rI := bif Nat.beq m 125 then tb125 pc else (bif Nat.beq m 126 then tb126 pc else none)
noncomputable def feabaaabbb (m pc : Nat) : Option rI := bif Nat.beq m 127 then tb127 pc else (bif Nat.beq m 128 then tb128 pc else none)
noncomputable def feabaaabb (m pc : Nat) : Option rI := bif Nat.blt m 127 then feabaaabba m pc else feabaaabbb m pc
noncomputable def feabaaab (m pc : Nat) : Option rI := bif Nat.blt m 125 then feabaaaba m pc else feabaaabb m pc
noncomputable def feabaaa (m pc : Nat) : Option rI := bif Nat.blt m 122 then feabaaaa m pc else feabaaab m pc
noncomputable def feabaabaa (m pc : Nat) : Option rI := bif Nat.beq m 129 then tb129 pc else (bif Nat.beq m 130 then tb130 pc else (bif Nat.beq m 131 then tb131 pc else none))
noncomputable def feabaababa (m pc : Nat) : Option rI := bif Nat.beq m 132 then tb132 pc else (bif Nat.beq m 133 then tb133 pc else none)
noncomputable def feabaababb (m pc : Nat) : Option rI := bif Nat.beq m 134 then tb134 pc else (bif Nat.beq m 135 then tb135 pc else none)
noncomputable def feabaabab (m pc : Nat) : Option rI := bif Nat.blt m 134 then feabaababa m pc else feabaababb m pc
noncomputable def feabaaba (m pc : Nat) : Option rI := bif Nat.blt m 132 then feabaabaa m pc else feabaabab m pc
noncomputable def feabaabba (m pc : Nat) : Option rI := bif Nat.beq m 136 then tb136 pc else (bif Nat.beq m 137 then tb137 pc else (bif Nat.beq m 138 then tb138 pc else none))
noncomputable def feabaabbba (m pc : Nat) : Option rI := bif Nat.beq m 139 then tb139 pc else (bif Nat.beq m 140 then tb140 pc else none)
noncomputable def feabaabbbb (m pc : Nat) : Option rI := bif Nat.beq m 141 then tb141 pc else (bif Nat.beq m 142 then tb142 pc else none)
noncomputable def feabaabbb (m pc : Nat) : Option rI := bif Nat.blt m 141 then feabaabbba m pc else feabaabbbb m pc
noncomputable def feabaabb (m pc : Nat) : Option rI := bif Nat.blt m 139 then feabaabba m pc else feabaabbb m pc
noncomputable def feabaab (m pc : Nat) : Option rI := bif Nat.blt m 136 then feabaaba m pc else feabaabb m pc
noncomputable def feabaa (m pc : Nat) : Option rI := bif Nat.blt m 129 then feabaaa m pc else feabaab m pc
noncomputable def feababaaa (m pc : Nat) : Option rI := bif Nat.beq m 143 then tb143 pc else (bif Nat.beq m 144 then tb144 pc else (bif Nat.beq m 145 then tb145 pc else none))
noncomputable def feababaaba (m pc : Nat) : Option rI := bif Nat.beq m 146 then tb146 pc else (bif Nat.beq m 147 then tb147 pc else none)
noncomputable def feababaabb (m pc : Nat) : Option rI := bif Nat.beq m 148 then tb148 pc else (bif Nat.beq m 149 then tb149 pc else none)
noncomputable def feababaab (m pc : Nat) : Option rI := bif Nat.blt m 148 then feababaaba m pc else feababaabb m pc
noncomputable def feababaa (m pc : Nat) : Option rI := bif Nat.blt m 146 then feababaaa m pc else feababaab m pc
noncomputable def feabababa (m pc : Nat) : Option rI := bif Nat.beq m 150 then tb150 pc else (bif Nat.beq m 151 then tb151 pc else (bif Nat.beq m 152 then tb152 pc else none))
noncomputable def feabababba (m pc : Nat) : Option rI := bif Nat.beq m 153 then tb153 pc else (bif Nat.beq m 154 then tb154 pc else none)
noncomputable def feabababbb (m pc : Nat) : Option rI := bif Nat.beq m 155 then tb155 pc else (bif Nat.beq m 156 then tb156 pc else none)
noncomputable def feabababb (m pc : Nat) : Option rI := bif Nat.blt m 155 then feabababba m pc else feabababbb m pc
noncomputable def feababab (m pc : Nat) : Option rI := bif Nat.blt m 153 then feabababa m pc else feabababb m pc
noncomputable def feababa (m pc : Nat) : Option rI := bif Nat.blt m 150 then feababaa m pc else feababab m pc
noncomputable def feababbaa (m pc : Nat) : Option rI := bif Nat.beq m 157 then tb157 pc else (bif Nat.beq m 158 then tb158 pc else (bif Nat.beq m 159 then tb159 pc else none))
noncomputable def feababbaba (m pc : Nat) : Option rI := bif Nat.beq m 160 then tb160 pc else (bif Nat.beq m 161 then tb161 pc else none)
noncomputable def feababbabb (m pc : Nat) : Option rI := bif Nat.beq m 162 then tb162 pc else (bif Nat.beq m 163 then tb163 pc else none)
noncomputable def feababbab (m pc : Nat) : Option rI := bif Nat.blt m 162 then feababbaba m pc else feababbabb m pc
noncomputable def feababba (m pc : Nat) : Option rI := bif Nat.blt m 160 then feababbaa m pc else feababbab m pc
noncomputable def feababbbaa (m pc : Nat) : Option rI := bif Nat.beq m 164 then tb164 pc else (bif Nat.beq m 165 then tb165 pc else none)
noncomputable def feababbbab (m pc : Nat) : Option rI := bif Nat.beq m 166 then tb166 pc else (bif Nat.beq m 167 then tb167 pc else none)
noncomputable def feababbba (m pc : Nat) : Option rI := bif Nat.blt m 166 then feababbbaa m pc else feababbbab m pc
noncomputable def feababbbba (m pc : Nat) : Option rI := bif Nat.beq m 168 then tb168 pc else (bif Nat.beq m 169 then tb169 pc else none)
noncomputable def feababbbbb (m pc : Nat) : Option rI := bif Nat.beq m 170 then tb170 pc else (bif Nat.beq m 171 then tb171 pc else none)
noncomputable def feababbbb (m pc : Nat) : Option rI := bif Nat.blt m 170 then feababbbba m pc else feababbbbb m pc
noncomputable def feababbb (m pc : Nat) : Option rI := bif Nat.blt m 168 then feababbba m pc else feababbbb m pc
noncomputable def feababb (m pc : Nat) : Option rI := bif Nat.blt m 164 then feababba m pc else feababbb m pc
noncomputable def feabab (m pc : Nat) : Option rI := bif Nat.blt m 157 then feababa m pc else feababb m pc
noncomputable def feaba (m pc : Nat) : Option rI := bif Nat.blt m 143 then feabaa m pc else feabab m pc
noncomputable def feabbaaaa (m pc : Nat) : Option rI := bif Nat.beq m 172 then tb172 pc else (bif Nat.beq m 173 then tb173 pc else (bif Nat.beq m 174 then tb174 pc else none))
noncomputable def feabbaaaba (m pc : Nat) : Option rI := bif Nat.beq m 175 then tb175 pc else (bif Nat.beq m 176 then tb176 pc else none)
noncomputable def feabbaaabb (m pc : Nat) : Option rI := bif Nat.beq m 177 then tb177 pc else (bif Nat.beq m 178 then tb178 pc else none)
noncomputable def feabbaaab (m pc : Nat) : Option rI := bif Nat.blt m 177 then feabbaaaba m pc else feabbaaabb m pc
noncomputable def feabbaaa (m pc : Nat) : Option rI := bif Nat.blt m 175 then feabbaaaa m pc else feabbaaab m pc
noncomputable def feabbaaba (m pc : Nat) : Option rI := bif Nat.beq m 179 then tb179 pc else (bif Nat.beq m 180 then tb180 pc else (bif Nat.beq m 181 then tb181 pc else none))
noncomputable def feabbaabba (m pc : Nat) : Option rI := bif Nat.beq m 182 then tb182 pc else (bif Nat.beq m 183 then tb183 pc else none)
noncomputable def feabbaabbb (m pc : Nat) : Option rI := bif Nat.beq m 184 then tb184 pc else (bif Nat.beq m 185 then tb185 pc else none)
noncomputable def feabbaabb (m pc : Nat) : Option rI := bif Nat.blt m 184 then feabbaabba m pc else feabbaabbb m pc
noncomputable def feabbaab (m pc : Nat) : Option rI := bif Nat.blt m 182 then feabbaaba m pc else feabbaabb m pc
noncomputable def feabbaa (m pc : Nat) : Option rI := bif Nat.blt m 179 then feabbaaa m pc else feabbaab m pc
noncomputable def feabbabaa (m pc : Nat) : Option rI := bif Nat.beq m 186 then tb186 pc else (bif Nat.beq m 187 then tb187 pc else (bif Nat.beq m 188 then tb188 pc else none))
noncomputable def feabbababa (m pc : Nat) : Option rI := bif Nat.beq m 189 then tb189 pc else (bif Nat.beq m 190 then tb190 pc else none)
noncomputable def feabbababb (m pc : Nat) : Option rI := bif Nat.beq m 191 then tb191 pc else (bif Nat.beq m 192 then tb192 pc else none)
noncomputable def feabbabab (m pc : Nat) : Option rI := bif Nat.blt m 191 then feabbababa m pc else feabbababb m pc
noncomputable def feabbaba (m pc : Nat) : Option rI := bif Nat.blt m 189 then feabbabaa m pc else feabbabab m pc
noncomputable def feabbabbaa (m pc : Nat) : Option rI := bif Nat.beq m 193 then tb193 pc else (bif Nat.beq m 194 then tb194 pc else none)
noncomputable def feabbabbab (m pc : Nat) : Option rI := bif Nat.beq m 195 then tb195 pc else (bif Nat.beq m 196 then tb196 pc else none)
noncomputable def feabbabba (m pc : Nat) : Option rI := bif Nat.blt m 195 then feabbabbaa m pc else feabbabbab m pc
noncomputable def feabbabbba (m pc : Nat) : Option rI := bif Nat.beq m 197 then tb197 pc else (bif Nat.beq m 198 then tb198 pc else none)
noncomputable def feabbabbbb (m pc : Nat) : Option rI := bif Nat.beq m 199 then tb199 pc else (bif Nat.beq m 200 then tb200 pc else none)
noncomputable def feabbabbb (m pc : Nat) : Option rI := bif Nat.blt m 199 then feabbabbba m pc else feabbabbbb m pc
noncomputable def feabbabb (m pc : Nat) : Option rI := bif Nat.blt m 197 then feabbabba m pc else feabbabbb m pc
noncomputable def feabbab (m pc : Nat) : Option rI := bif Nat.blt m 193 then feabbaba m pc else feabbabb m pc
noncomputable def feabba (m pc : Nat) : Option rI := bif Nat.blt m 186 then feabbaa m pc else feabbab m pc
noncomputable def feabbbaaa (m pc : Nat) : Option rI := bif Nat.beq m 201 then tb201 pc else (bif Nat.beq m 202 then tb202 pc else (bif Nat.beq m 203 then tb203 pc else none))
noncomputable def feabbbaaba (m pc : Nat) : Option rI := bif Nat.beq m 204 then tb204 pc else (bif Nat.beq m 205 then tb205 pc else none)
noncomputable def feabbbaabb (m pc : Nat) : Option rI := bif Nat.beq m 206 then tb206 pc else (bif Nat.beq m 207 then tb207 pc else none)
noncomputable def feabbbaab (m pc : Nat) : Option rI := bif Nat.blt m 206 then feabbbaaba m pc else feabbbaabb m pc
noncomputable def feabbbaa (m pc : Nat) : Option rI := bif Nat.blt m 204 then feabbbaaa m pc else feabbbaab m pc
noncomputable def feabbbaba (m pc : Nat) : Option rI := bif Nat.beq m 208 then tb208 pc else (bif Nat.beq m 209 then tb209 pc else (bif Nat.beq m 210 then tb210 pc else none))
noncomputable def feabbbabba (m pc : Nat) : Option rI := bif Nat.beq m 211 then tb211 pc else (bif Nat.beq m 212 then tb212 pc else none)
noncomputable def feabbbabbb (m pc : Nat) : Option rI := bif Nat.beq m 213 then tb213 pc else (bif Nat.beq m 214 then tb214 pc else none)
noncomputable def feabbbabb (m pc : Nat) : Option rI := bif Nat.blt m 213 then feabbbabba m pc else feabbbabbb m pc
noncomputable def feabbbab (m pc : Nat) : Option rI := bif Nat.blt m 211 then feabbbaba m pc else feabbbabb m pc
noncomputable def feabbba (m pc : Nat) : Option rI := bif Nat.blt m 208 then feabbbaa m pc else feabbbab m pc
noncomputable def feabbbbaa (m pc : Nat) : Option rI := bif Nat.beq m 215 then tb215 pc else (bif Nat.beq m 216 then tb216 pc else (bif Nat.beq m 217 then tb217 pc else none))
noncomputable def feabbbbaba (m pc : Nat) : Option rI := bif Nat.beq m 218 then tb218 pc else (bif Nat.beq m 219 then tb219 pc else none)
noncomputable def feabbbbabb (m pc : Nat) : Option rI := bif Nat.beq m 220 then tb220 pc else (bif Nat.beq m 221 then tb221 pc else none)
noncomputable def feabbbbab (m pc : Nat) : Option rI := bif Nat.blt m 220 then feabbbbaba m pc else feabbbbabb m pc
noncomputable def feabbbba (m pc : Nat) : Option rI := bif Nat.blt m 218 then feabbbbaa m pc else feabbbbab m pc
noncomputable def feabbbbbaa (m pc : Nat) : Option rI := bif Nat.beq m 222 then tb222 pc else (bif Nat.beq m 223 then tb223 pc else none)
noncomputable def feabbbbbab (m pc : Nat) : Option rI := bif Nat.beq m 224 then tb224 pc else (bif Nat.beq m 225 then tb225 pc else none)
noncomputable def feabbbbba (m pc : Nat) : Option rI := bif Nat.blt m 224 then feabbbbbaa m pc else feabbbbbab m pc
noncomputable def feabbbbbba (m pc : Nat) : Option rI := bif Nat.beq m 226 then tb226 pc else (bif Nat.beq m 227 then tb227 pc else none)
noncomputable def feabbbbbbb (m pc : Nat) : Option rI := bif Nat.beq m 228 then tb228 pc else (bif Nat.beq m 229 then tb229 pc else none)
noncomputable def feabbbbbb (m pc : Nat) : Option rI := bif Nat.blt m 228 then feabbbbbba m pc else feabbbbbbb m pc
noncomputable def feabbbbb (m pc : Nat) : Option rI := bif Nat.blt m 226 then feabbbbba m pc else feabbbbbb m pc
noncomputable def feabbbb (m pc : Nat) : Option rI := bif Nat.blt m 222 then feabbbba m pc else feabbbbb m pc
noncomputable def feabbb (m pc : Nat) : Option rI := bif Nat.blt m 215 then feabbba m pc else feabbbb m pc
noncomputable def feabb (m pc : Nat) : Option rI := bif Nat.blt m 201 then feabba m pc else feabbb m pc
noncomputable def feab (m pc : Nat) : Option rI := bif Nat.blt m 172 then feaba m pc else feabb m pc
noncomputable def fea (m pc : Nat) : Option rI := bif Nat.blt m 115 then feaa m pc else feab m pc
noncomputable def febaaaaaa (m pc : Nat) : Option rI := bif Nat.beq m 230 then tb230 pc else (bif Nat.beq m 231 then tb231 pc else (bif Nat.beq m 232 then tb232 pc else none))
noncomputable def febaaaaaba (m pc : Nat) : Option rI := bif Nat.beq m 233 then tb233 pc else (bif Nat.beq m 234 then tb234 pc else none)
noncomputable def febaaaaabb (m pc : Nat) : Option rI := bif Nat.beq m 235 then tb235 pc else (bif Nat.beq m 236 then tb236 pc else none)
noncomputable def febaaaaab (m pc : Nat) : Option rI := bif Nat.blt m 235 then febaaaaaba m pc else febaaaaabb m pc
noncomputable def febaaaaa (m pc : Nat) : Option rI := bif Nat.blt m 233 then febaaaaaa m pc else febaaaaab m pc
noncomputable def febaaaaba (m pc : Nat) : Option rI := bif Nat.beq m 237 then tb237 pc else (bif Nat.beq m 238 then tb238 pc else (bif Nat.beq m 239 then tb239 pc else none))
noncomputable def febaaaabba (m pc : Nat) : Option rI := bif Nat.beq m 240 then tb240 pc else (bif Nat.beq m 241 then tb241 pc else none)
noncomputable def febaaaabbb (m pc : Nat) : Option rI := bif Nat.beq m 242 then tb242 pc else (bif Nat.beq m 243 then tb243 pc else none)
noncomputable def febaaaabb (m pc : Nat) : Option rI := bif Nat.blt m 242 then febaaaabba m pc else febaaaabbb m pc
noncomputable def febaaaab (m pc : Nat) : Option rI := bif Nat.blt m 240 then febaaaaba m pc else febaaaabb m pc
noncomputable def febaaaa (m pc : Nat) : Option rI := bif Nat.blt m 237 then febaaaaa m pc else febaaaab m pc
noncomputable def febaaabaa (m pc : Nat) : Option rI := bif Nat.beq m 244 then tb244 pc else (bif Nat.beq m 245 then tb245 pc else (bif Nat.beq m 246 then tb246 pc else none))
noncomputable def febaaababa (m pc : Nat) : Option rI := bif Nat.beq m 247 then tb247 pc else (bif Nat.beq m 248 then tb248 pc else none)
noncomputable def febaaababb (m pc : Nat) : Option rI := bif Nat.beq m 249 then tb249 pc else (bif Nat.beq m 250 then tb250 pc else none)
noncomputable def febaaabab (m pc : Nat) : Option rI := bif Nat.blt m 249 then febaaababa m pc else febaaababb m pc
noncomputable def febaaaba (m pc : Nat) : Option rI := bif Nat.blt m 247 then febaaabaa m pc else febaaabab m pc
noncomputable def febaaabba (m pc : Nat) : Option rI := bif Nat.beq m 251 then tb251 pc else (bif Nat.beq m 252 then tb252 pc else (bif Nat.beq m 253 then tb253 pc else none))
noncomputable def febaaabbba (m pc : Nat) : Option rI := bif Nat.beq m 254 then tb254 pc else (bif Nat.beq m 255 then tb255 pc else none)
noncomputable def febaaabbbb (m pc : Nat) : Option rI := bif Nat.beq m 256 then tb256 pc else (bif Nat.beq m 257 then tb257 pc else none)
noncomputable def febaaabbb (m pc : Nat) : Option rI := bif Nat.blt m 256 then febaaabbba m pc else febaaabbbb m pc
noncomputable def febaaabb (m pc : Nat) : Option rI := bif Nat.blt m 254 then febaaabba m pc else febaaabbb m pc
noncomputable def febaaab (m pc : Nat) : Option rI := bif Nat.blt m 251 then febaaaba m pc else febaaabb m pc
noncomputable def febaaa (m pc : Nat) : Option rI := bif Nat.blt m 244 then febaaaa m pc else febaaab m pc
noncomputable def febaabaaa (m pc : Nat) : Option rI := bif Nat.beq m 258 then tb258 pc else (bif Nat.beq m 259 then tb259 pc else (bif Nat.beq m 260 then tb260 pc else none))
noncomputable def febaabaaba (m pc : Nat) : Option rI := bif Nat.beq m 261 then tb261 pc else (bif Nat.beq m 262 then tb262 pc else none)
noncomputable def febaabaabb (m pc : Nat) : Option rI := bif Nat.beq m 263 then tb263 pc else (bif Nat.beq m 264 then tb264 pc else none)
noncomputable def febaabaab (m pc : Nat) : Option rI := bif Nat.blt m 263 then febaabaaba m pc else febaabaabb m pc
noncomputable def febaabaa (m pc : Nat) : Option rI := bif Nat.blt m 261 then febaabaaa m pc else febaabaab m pc
noncomputable def febaababa (m pc : Nat) : Option rI := bif Nat.beq m 265 then tb265 pc else (bif Nat.beq m 266 then tb266 pc else (bif Nat.beq m 267 then tb267 pc else none))
noncomputable def febaababba (m pc : Nat) : Option rI := bif Nat.beq m 268 then tb268 pc else (bif Nat.beq m 269 then tb269 pc else none)
noncomputable def febaababbb (m pc : Nat) : Option rI := bif Nat.beq m 270 then tb270 pc else (bif Nat.beq m 271 then tb271 pc else none)
noncomputable def febaababb (m pc : Nat) : Option rI := bif Nat.blt m 270 then febaababba m pc else febaababbb m pc
noncomputable def febaabab (m pc : Nat) : Option rI := bif Nat.blt m 268 then febaababa m pc else febaababb m pc
noncomputable def febaaba (m pc : Nat) : Option rI := bif Nat.blt m 265 then febaabaa m pc else febaabab m pc
noncomputable def febaabbaa (m pc : Nat) : Option rI := bif Nat.beq m 272 then tb272 pc else (bif Nat.beq m 273 then tb273 pc else (bif Nat.beq m 274 then tb274 pc else none))
noncomputable def febaabbaba (m pc : Nat) : Option rI := bif Nat.beq m 275 then tb275 pc else (bif Nat.beq m 276 then tb276 pc else none)
noncomputable def febaabbabb (m pc : Nat) : Option rI := bif Nat.beq m 277 then tb277 pc else (bif Nat.beq m 278 then tb278 pc else none)
noncomputable def febaabbab (m pc : Nat) : Option rI := bif Nat.blt m 277 then febaabbaba m pc else febaabbabb m pc
noncomputable def febaabba (m pc : Nat) : Option rI := bif Nat.blt m 275 then febaabbaa m pc else febaabbab m pc
noncomputable def febaabbbaa (m pc : Nat) : Option rI := bif Nat.beq m 279 then tb279 pc else (bif Nat.beq m 280 then tb280 pc else none)
noncomputable def febaabbbab (m pc : Nat) : Option rI := bif Nat.beq m 281 then tb281 pc else (bif Nat.beq m 282 then tb282 pc else none)
noncomputable def febaabbba (m pc : Nat) : Option rI := bif Nat.blt m 281 then febaabbbaa m pc else febaabbbab m pc
noncomputable def febaabbbba (m pc : Nat) : Option rI := bif Nat.beq m 283 then tb283 pc else (bif Nat.beq m 284 then tb284 pc else none)
noncomputable def febaabbbbb (m pc : Nat) : Option rI := bif Nat.beq m 285 then tb285 pc else (bif Nat.beq m 286 then tb286 pc else none)
noncomputable def febaabbbb (m pc : Nat) : Option rI := bif Nat.blt m 285 then febaabbbba m pc else febaabbbbb m pc
noncomputable def febaabbb (m pc : Nat) : Option rI := bif Nat.blt m 283 then febaabbba m pc else febaabbbb m pc
noncomputable def febaabb (m pc : Nat) : Option rI := bif Nat.blt m 279 then febaabba m pc else febaabbb m pc
noncomputable def febaab (m pc : Nat) : Option rI := bif Nat.blt m 272 then febaaba m pc else febaabb m pc
noncomputable def febaa (m pc : Nat) : Option rI := bif Nat.blt m 258 then febaaa m pc else febaab m pc
noncomputable def febabaaaa (m pc : Nat) : Option rI := bif Nat.beq m 287 then tb287 pc else (bif Nat.beq m 288 then tb288 pc else (bif Nat.beq m 289 then tb289 pc else none))
noncomputable def febabaaaba (m pc : Nat) : Option rI := bif Nat.beq m 290 then tb290 pc else (bif Nat.beq m 291 then tb291 pc else none)
noncomputable def febabaaabb (m pc : Nat) : Option rI := bif Nat.beq m 292 then tb292 pc else (bif Nat.beq m 293 then tb293 pc else none)
noncomputable def febabaaab (m pc : Nat) : Option rI := bif Nat.blt m 292 then febabaaaba m pc else febabaaabb m pc
noncomputable def febabaaa (m pc : Nat) : Option rI := bif Nat.blt m 290 then febabaaaa m pc else febabaaab m pc
noncomputable def febabaaba (m pc : Nat) : Option rI := bif Nat.beq m 294 then tb294 pc else (bif Nat.beq m 295 then tb295 pc else (bif Nat.beq m 296 then tb296 pc else none))
noncomputable def febabaabba (m pc : Nat) : Option rI := bif Nat.beq m 297 then tb297 pc else (bif Nat.beq m 298 then tb298 pc else none)
noncomputable def febabaabbb (m pc : Nat) : Option rI := bif Nat.beq m 299 then tb299 pc else (bif Nat.beq m 300 then tb300 pc else none)
noncomputable def febabaabb (m pc : Nat) : Option rI := bif Nat.blt m 299 then febabaabba m pc else febabaabbb m pc
noncomputable def febabaab (m pc : Nat) : Option rI := bif Nat.blt m 297 then febabaaba m pc else febabaabb m pc
noncomputable def febabaa (m pc : Nat) : Option rI := bif Nat.blt m 294 then febabaaa m pc else febabaab m pc
noncomputable def febababaa (m pc : Nat) : Option rI := bif Nat.beq m 301 then tb301 pc else (bif Nat.beq m 302 then tb302 pc else (bif Nat.beq m 303 then tb303 pc else none))
noncomputable def febabababa (m pc : Nat) : Option rI := bif Nat.beq m 304 then tb304 pc else (bif Nat.beq m 305 then tb305 pc else none)
noncomputable def febabababb (m pc : Nat) : Option rI := bif Nat.beq m 306 then tb306 pc else (bif Nat.beq m 307 then tb307 pc else none)
noncomputable def febababab (m pc : Nat) : Option rI := bif Nat.blt m 306 then febabababa m pc else febabababb m pc
noncomputable def febababa (m pc : Nat) : Option rI := bif Nat.blt m 304 then febababaa m pc else febababab m pc
noncomputable def febababbaa (m pc : Nat) : Option rI := bif Nat.beq m 308 then tb308 pc else (bif Nat.beq m 309 then tb309 pc else none)
noncomputable def febababbab (m pc : Nat) : Option rI := bif Nat.beq m 310 then tb310 pc else (bif Nat.beq m 311 then tb311 pc else none)
noncomputable def febababba (m pc : Nat) : Option rI := bif Nat.blt m 310 then febababbaa m pc else febababbab m pc
noncomputable def febababbba (m pc : Nat) : Option rI := bif Nat.beq m 312 then tb312 pc else (bif Nat.beq m 313 then tb313 pc else none)
noncomputable def febababbbb (m pc : Nat) : Option rI := bif Nat.beq m 314 then tb314 pc else (bif Nat.beq m 315 then tb315 pc else none)
noncomputable def febababbb (m pc : Nat) : Option rI := bif Nat.blt m 314 then febababbba m pc else febababbbb m pc
noncomputable def febababb (m pc : Nat) : Option rI := bif Nat.blt m 312 then febababba m pc else febababbb m pc
noncomputable def febabab (m pc : Nat) : Option rI := bif Nat.blt m 308 then febababa m pc else febababb m pc
noncomputable def febaba (m pc : Nat) : Option rI := bif Nat.blt m 301 then febabaa m pc else febabab m pc
noncomputable def febabbaaa (m pc : Nat) : Option rI := bif Nat.beq m 316 then tb316 pc else (bif Nat.beq m 317 then tb317 pc else (bif Nat.beq m 318 then tb318 pc else none))
noncomputable def febabbaaba (m pc : Nat) : Option rI := bif Nat.beq m 319 then tb319 pc else (bif Nat.beq m 320 then tb320 pc else none)
noncomputable def febabbaabb (m pc : Nat) : Option rI := bif Nat.beq m 321 then tb321 pc else (bif Nat.beq m 322 then tb322 pc else none)
noncomputable def febabbaab (m pc : Nat) : Option rI := bif Nat.blt m 321 then febabbaaba m pc else febabbaabb m pc
noncomputable def febabbaa (m pc : Nat) : Option rI := bif Nat.blt m 319 then febabbaaa m pc else febabbaab m pc
noncomputable def febabbaba (m pc : Nat) : Option rI := bif Nat.beq m 323 then tb323 pc else (bif Nat.beq m 324 then tb324 pc else (bif Nat.beq m 325 then tb325 pc else none))
noncomputable def febabbabba (m pc : Nat) : Option rI := bif Nat.beq m 326 then tb326 pc else (bif Nat.beq m 327 then tb327 pc else none)
noncomputable def febabbabbb (m pc : Nat) : Option rI := bif Nat.beq m 328 then tb328 pc else (bif Nat.beq m 329 then tb329 pc else none)
noncomputable def febabbabb (m pc : Nat) : Option rI := bif Nat.blt m 328 then febabbabba m pc else febabbabbb m pc
noncomputable def febabbab (m pc : Nat) : Option rI := bif Nat.blt m 326 then febabbaba m pc else febabbabb m pc
noncomputable def febabba (m pc : Nat) : Option rI := bif Nat.blt m 323 then febabbaa m pc else febabbab m pc
noncomputable def febabbbaa (m pc : Nat) : Option rI := bif Nat.beq m 330 then tb330 pc else (bif Nat.beq m 331 then tb331 pc else (bif Nat.beq m 332 then tb332 pc else none))
noncomputable def febabbbaba (m pc : Nat) : Option rI := bif Nat.beq m 333 then tb333 pc else (bif Nat.beq m 334 then tb334 pc else none)
noncomputable def febabbbabb (m pc : Nat) : Option rI := bif Nat.beq m 335 then tb335 pc else (bif Nat.beq m 336 then tb336 pc else none)
noncomputable def febabbbab (m pc : Nat) : Option rI := bif Nat.blt m 335 then febabbbaba m pc else febabbbabb m pc
noncomputable def febabbba (m pc : Nat) : Option rI := bif Nat.blt m 333 then febabbbaa m pc else febabbbab m pc
noncomputable def febabbbbaa (m pc : Nat) : Option rI := bif Nat.beq m 337 then tb337 pc else (bif Nat.beq m 338 then tb338 pc else none)
noncomputable def febabbbbab (m pc : Nat) : Option rI := bif Nat.beq m 339 then tb339 pc else (bif Nat.beq m 340 then tb340 pc else none)
noncomputable def febabbbba (m pc : Nat) : Option rI := bif Nat.blt m 339 then febabbbbaa m pc else febabbbbab m pc
noncomputable def febabbbbba (m pc : Nat) : Option rI := bif Nat.beq m 341 then tb341 pc else (bif Nat.beq m 342 then tb342 pc else none)
noncomputable def febabbbbbb (m pc : Nat) : Option rI := bif Nat.beq m 343 then tb343 pc else (bif Nat.beq m 344 then tb344 pc else none)
noncomputable def febabbbbb (m pc : Nat) : Option rI := bif Nat.blt m 343 then febabbbbba m pc else febabbbbbb m pc
noncomputable def febabbbb (m pc : Nat) : Option rI := bif Nat.blt m 341 then febabbbba m pc else febabbbbb m pc
noncomputable def febabbb (m pc : Nat) : Option rI := bif Nat.blt m 337 then febabbba m pc else febabbbb m pc
noncomputable def febabb (m pc : Nat) : Option rI := bif Nat.blt m 330 then febabba m pc else febabbb m pc
noncomputable def febab (m pc : Nat) : Option rI := bif Nat.blt m 316 then febaba m pc else febabb m pc
noncomputable def feba (m pc : Nat) : Option rI := bif Nat.blt m 287 then febaa m pc else febab m pc
noncomputable def febbaaaaa (m pc : Nat) : Option rI := bif Nat.beq m 345 then tb345 pc else (bif Nat.beq m 346 then tb346 pc else (bif Nat.beq m 347 then tb347 pc else none))
noncomputable def febbaaaaba (m pc : Nat) : Option rI := bif Nat.beq m 348 then tb348 pc else (bif Nat.beq m 349 then tb349 pc else none)
noncomputable def febbaaaabb (m pc : Nat) : Option rI := bif Nat.beq m 350 then tb350 pc else (bif Nat.beq m 351 then tb351 pc else none)
noncomputable def febbaaaab (m pc : Nat) : Option rI := bif Nat.blt m 350 then febbaaaaba m pc else febbaaaabb m pc
noncomputable def febbaaaa (m pc : Nat) : Option rI := bif Nat.blt m 348 then febbaaaaa m pc else febbaaaab m pc
noncomputable def febbaaaba (m pc : Nat) : Option rI := bif Nat.beq m 352 then tb352 pc else (bif Nat.beq m 353 then tb353 pc else (bif Nat.beq m 354 then tb354 pc else none))
noncomputable def febbaaabba (m pc : Nat) : Option rI := bif Nat.beq m 355 then tb355 pc else (bif Nat.beq m 356 then tb356 pc else none)
noncomputable def febbaaabbb (m pc : Nat) : Option rI := bif Nat.beq m 357 then tb357 pc else (bif Nat.beq m 358 then tb358 pc else none)
noncomputable def febbaaabb (m pc : Nat) : Option rI := bif Nat.blt m 357 then febbaaabba m pc else febbaaabbb m pc
noncomputable def febbaaab (m pc : Nat) : Option rI := bif Nat.blt m 355 then febbaaaba m pc else febbaaabb m pc
noncomputable def febbaaa (m pc : Nat) : Option rI := bif Nat.blt m 352 then febbaaaa m pc else febbaaab m pc
noncomputable def febbaabaa (m pc : Nat) : Option rI := bif Nat.beq m 359 then tb359 pc else (bif Nat.beq m 360 then tb360 pc else (bif Nat.beq m 361 then tb361 pc else none))
noncomputable def febbaababa (m pc : Nat) : Option rI := bif Nat.beq m 362 then tb362 pc else (bif Nat.beq m 363 then tb363 pc else none)
noncomputable def febbaababb (m pc : Nat) : Option rI := bif Nat.beq m 364 then tb364 pc else (bif Nat.beq m 365 then tb365 pc else none)
noncomputable def febbaabab (m pc : Nat) : Option rI := bif Nat.blt m 364 then febbaababa m pc else febbaababb m pc
noncomputable def febbaaba (m pc : Nat) : Option rI := bif Nat.blt m 362 then febbaabaa m pc else febbaabab m pc
noncomputable def febbaabbaa (m pc : Nat) : Option rI := bif Nat.beq m 366 then tb366 pc else (bif Nat.beq m 367 then tb367 pc else none)
noncomputable def febbaabbab (m pc : Nat) : Option rI := bif Nat.beq m 368 then tb368 pc else (bif Nat.beq m 369 then tb369 pc else none)
noncomputable def febbaabba (m pc : Nat) : Option rI := bif Nat.blt m 368 then febbaabbaa m pc else febbaabbab m pc
noncomputable def febbaabbba (m pc : Nat) : Option rI := bif Nat.beq m 370 then tb370 pc else (bif Nat.beq m 371 then tb371 pc else none)
noncomputable def febbaabbbb (m pc : Nat) : Option rI := bif Nat.beq m 372 then tb372 pc else (bif Nat.beq m 373 then tb373 pc else none)
noncomputable def febbaabbb (m pc : Nat) : Option rI := bif Nat.blt m 372 then febbaabbba m pc else febbaabbbb m pc
noncomputable def febbaabb (m pc : Nat) : Option rI := bif Nat.blt m 370 then febbaabba m pc else febbaabbb m pc
noncomputable def febbaab (m pc : Nat) : Option rI := bif Nat.blt m 366 then febbaaba m pc else febbaabb m pc
noncomputable def febbaa (m pc : Nat) : Option rI := bif Nat.blt m 359 then febbaaa m pc else febbaab m pc
noncomputable def febbabaaa (m pc : Nat) : Option rI := bif Nat.beq m 374 then tb374 pc else (bif Nat.beq m 375 then tb375 pc else (bif Nat.beq m 376 then tb376 pc else none))
noncomputable def febbabaaba (m pc : Nat) : Option rI := bif Nat.beq m 377 then tb377 pc else (bif Nat.beq m 378 then tb378 pc else none)
noncomputable def febbabaabb (m pc : Nat) : Option rI := bif Nat.beq m 379 then tb379 pc else (bif Nat.beq m 380 then tb380 pc else none)
noncomputable def febbabaab (m pc : Nat) : Option rI := bif Nat.blt m 379 then febbabaaba m pc else febbabaabb m pc
noncomputable def febbabaa (m pc : Nat) : Option rI := bif Nat.blt m 377 then febbabaaa m pc else febbabaab m pc
noncomputable def febbababa (m pc : Nat) : Option rI := bif Nat.beq m 381 then tb381 pc else (bif Nat.beq m 382 then tb382 pc else (bif Nat.beq m 383 then tb383 pc else none))
noncomputable def febbababba (m pc : Nat) : Option rI := bif Nat.beq m 384 then tb384 pc else (bif Nat.beq m 385 then tb385 pc else none)
noncomputable def febbababbb (m pc : Nat) : Option rI := bif Nat.beq m 386 then tb386 pc else (bif Nat.beq m 387 then tb387 pc else none)
noncomputable def febbababb (m pc : Nat) : Option rI := bif Nat.blt m 386 then febbababba m pc else febbababbb m pc
noncomputable def febbabab (m pc : Nat) : Option rI := bif Nat.blt m 384 then febbababa m pc else febbababb m pc
noncomputable def febbaba (m pc : Nat) : Option rI := bif Nat.blt m 381 then febbabaa m pc else febbabab m pc
noncomputable def febbabbaa (m pc : Nat) : Option rI := bif Nat.beq m 388 then tb388 pc else (bif Nat.beq m 389 then tb389 pc else (bif Nat.beq m 390 then tb390 pc else none))
noncomputable def febbabbaba (m pc : Nat) : Option rI := bif Nat.beq m 391 then tb391 pc else (bif Nat.beq m 392 then tb392 pc else none)
noncomputable def febbabbabb (m pc : Nat) : Option rI := bif Nat.beq m 393 then tb393 pc else (bif Nat.beq m 394 then tb394 pc else none)
noncomputable def febbabbab (m pc : Nat) : Option rI := bif Nat.blt m 393 then febbabbaba m pc else febbabbabb m pc
noncomputable def febbabba (m pc : Nat) : Option rI := bif Nat.blt m 391 then febbabbaa m pc else febbabbab m pc
noncomputable def febbabbbaa (m pc : Nat) : Option rI := bif Nat.beq m 395 then tb395 pc else (bif Nat.beq m 396 then tb396 pc else none)
noncomputable def febbabbbab (m pc : Nat) : Option rI := bif Nat.beq m 397 then tb397 pc else (bif Nat.beq m 398 then tb398 pc else none)
noncomputable def febbabbba (m pc : Nat) : Option rI := bif Nat.blt m 397 then febbabbbaa m pc else febbabbbab m pc
noncomputable def febbabbbba (m pc : Nat) : Option rI := bif Nat.beq m 399 then tb399 pc else (bif Nat.beq m 400 then tb400 pc else none)
noncomputable def febbabbbbb (m pc : Nat) : Option rI := bif Nat.beq m 401 then tb401 pc else (bif Nat.beq m 402 then tb402 pc else none)
noncomputable def febbabbbb (m pc : Nat) : Option rI := bif Nat.blt m 401 then febbabbbba m pc else febbabbbbb m pc
noncomputable def febbabbb (m pc : Nat) : Option rI := bif Nat.blt m 399 then febbabbba m pc else febbabbbb m pc
noncomputable def febbabb (m pc : Nat) : Option rI := bif Nat.blt m 395 then febbabba m pc else febbabbb m pc
noncomputable def febbab (m pc : Nat) : Option rI := bif Nat.blt m 388 then febbaba m pc else febbabb m pc
noncomputable def febba (m pc : Nat) : Option rI := bif Nat.blt m 374 then febbaa m pc else febbab m pc
noncomputable def febbbaaaa (m pc : Nat) : Option rI := bif Nat.beq m 403 then tb403 pc else (bif Nat.beq m 404 then tb404 pc else (bif Nat.beq m 405 then tb405 pc else none))
noncomputable def febbbaaaba (m pc : Nat) : Option rI := bif Nat.beq m 406 then tb406 pc else (bif Nat.beq m 407 then tb407 pc else none)
noncomputable def febbbaaabb (m pc : Nat) : Option rI := bif Nat.beq m 408 then tb408 pc else (bif Nat.beq m 409 then tb409 pc else none)
noncomputable def febbbaaab (m pc : Nat) : Option rI := bif Nat.blt m 408 then febbbaaaba m pc else febbbaaabb m pc
noncomputable def febbbaaa (m pc : Nat) : Option rI := bif Nat.blt m 406 then febbbaaaa m pc else febbbaaab m pc
noncomputable def febbbaaba (m pc : Nat) : Option rI := bif Nat.beq m 410 then tb410 pc else (bif Nat.beq m 411 then tb411 pc else (bif Nat.beq m 412 then tb412 pc else none))
noncomputable def febbbaabba (m pc : Nat) : Option rI := bif Nat.beq m 413 then tb413 pc else (bif Nat.beq m 414 then tb414 pc else none)
noncomputable def febbbaabbb (m pc : Nat) : Option rI := bif Nat.beq m 415 then tb415 pc else (bif Nat.beq m 416 then tb416 pc else none)
noncomputable def febbbaabb (m pc : Nat) : Option rI := bif Nat.blt m 415 then febbbaabba m pc else febbbaabbb m pc
noncomputable def febbbaab (m pc : Nat) : Option rI := bif Nat.blt m 413 then febbbaaba m pc else febbbaabb m pc
noncomputable def febbbaa (m pc : Nat) : Option rI := bif Nat.blt m 410 then febbbaaa m pc else febbbaab m pc
noncomputable def febbbabaa (m pc : Nat) : Option rI := bif Nat.beq m 417 then tb417 pc else (bif Nat.beq m 418 then tb418 pc else (bif Nat.beq m 419 then tb419 pc else none))
noncomputable def febbbababa (m pc : Nat) : Option rI := bif Nat.beq m 420 then tb420 pc else (bif Nat.beq m 421 then tb421 pc else none)
noncomputable def febbbababb (m pc : Nat) : Option rI := bif Nat.beq m 422 then tb422 pc else (bif Nat.beq m 423 then tb423 pc else none)
noncomputable def febbbabab (m pc : Nat) : Option rI := bif Nat.blt m 422 then febbbababa m pc else febbbababb m pc
noncomputable def febbbaba (m pc : Nat) : Option rI := bif Nat.blt m 420 then febbbabaa m pc else febbbabab m pc
noncomputable def febbbabbaa (m pc : Nat) : Option rI := bif Nat.beq m 424 then tb424 pc else (bif Nat.beq m 425 then tb425 pc else none)
noncomputable def febbbabbab (m pc : Nat) : Option rI := bif Nat.beq m 426 then tb426 pc else (bif Nat.beq m 427 then tb427 pc else none)
noncomputable def febbbabba (m pc : Nat) : Option rI := bif Nat.blt m 426 then febbbabbaa m pc else febbbabbab m pc
noncomputable def febbbabbba (m pc : Nat) : Option rI := bif Nat.beq m 428 then tb428 pc else (bif Nat.beq m 429 then tb429 pc else none)
noncomputable def febbbabbbb (m pc : Nat) : Option rI := bif Nat.beq m 430 then tb430 pc else (bif Nat.beq m 431 then tb431 pc else none)
noncomputable def febbbabbb (m pc : Nat) : Option rI := bif Nat.blt m 430 then febbbabbba m pc else febbbabbbb m pc
noncomputable def febbbabb (m pc : Nat) : Option rI := bif Nat.blt m 428 then febbbabba m pc else febbbabbb m pc
noncomputable def febbbab (m pc : Nat) : Option rI := bif Nat.blt m 424 then febbbaba m pc else febbbabb m pc
noncomputable def febbba (m pc : Nat) : Option rI := bif Nat.blt m 417 then febbbaa m pc else febbbab m pc
noncomputable def febbbbaaa (m pc : Nat) : Option rI := bif Nat.beq m 432 then tb432 pc else (bif Nat.beq m 433 then tb433 pc else (bif Nat.beq m 434 then tb434 pc else none))
noncomputable def febbbbaaba (m pc : Nat) : Option rI := bif Nat.beq m 435 then tb435 pc else (bif Nat.beq m 436 then tb436 pc else none)
noncomputable def febbbbaabb (m pc : Nat) : Option rI := bif Nat.beq m 437 then tb437 pc else (bif Nat.beq m 438 then tb438 pc else none)
noncomputable def febbbbaab (m pc : Nat) : Option rI := bif Nat.blt m 437 then febbbbaaba m pc else febbbbaabb m pc
noncomputable def febbbbaa (m pc : Nat) : Option rI := bif Nat.blt m 435 then febbbbaaa m pc else febbbbaab m pc
noncomputable def febbbbaba (m pc : Nat) : Option rI := bif Nat.beq m 439 then tb439 pc else (bif Nat.beq m 440 then tb440 pc else (bif Nat.beq m 441 then tb441 pc else none))
noncomputable def febbbbabba (m pc : Nat) : Option rI := bif Nat.beq m 442 then tb442 pc else (bif Nat.beq m 443 then tb443 pc else none)
noncomputable def febbbbabbb (m pc : Nat) : Option rI := bif Nat.beq m 444 then tb444 pc else (bif Nat.beq m 445 then tb445 pc else none)
noncomputable def febbbbabb (m pc : Nat) : Option rI := bif Nat.blt m 444 then febbbbabba m pc else febbbbabbb m pc
noncomputable def febbbbab (m pc : Nat) : Option rI := bif Nat.blt m 442 then febbbbaba m pc else febbbbabb m pc
noncomputable def febbbba (m pc : Nat) : Option rI := bif Nat.blt m 439 then febbbbaa m pc else febbbbab m pc
noncomputable def febbbbbaa (m pc : Nat) : Option rI := bif Nat.beq m 446 then tb446 pc else (bif Nat.beq m 447 then tb447 pc else (bif Nat.beq m 448 then tb448 pc else none))
noncomputable def febbbbbaba (m pc : Nat) : Option rI := bif Nat.beq m 449 then tb449 pc else (bif Nat.beq m 450 then tb450 pc else none)
noncomputable def febbbbbabb (m pc : Nat) : Option rI := bif Nat.beq m 451 then tb451 pc else (bif Nat.beq m 452 then tb452 pc else none)
noncomputable def febbbbbab (m pc : Nat) : Option rI := bif Nat.blt m 451 then febbbbbaba m pc else febbbbbabb m pc
noncomputable def febbbbba (m pc : Nat) : Option rI := bif Nat.blt m 449 then febbbbbaa m pc else febbbbbab m pc
noncomputable def febbbbbbaa (m pc : Nat) : Option rI := bif Nat.beq m 453 then tb453 pc else (bif Nat.beq m 454 then tb454 pc else none)
noncomputable def febbbbbbab (m pc : Nat) : Option rI := bif Nat.beq m 455 then tb455 pc else (bif Nat.beq m 456 then tb456 pc else none)
noncomputable def febbbbbba (m pc : Nat) : Option rI := bif Nat.blt m 455 then febbbbbbaa m pc else febbbbbbab m pc
noncomputable def febbbbbbba (m pc : Nat) : Option rI := bif Nat.beq m 457 then tb457 pc else (bif Nat.beq m 458 then tb458 pc else none)
noncomputable def febbbbbbbb (m pc : Nat) : Option rI := bif Nat.beq m 459 then tb459 pc else (bif Nat.beq m 460 then tb460 pc else none)
noncomputable def febbbbbbb (m pc : Nat) : Option rI := bif Nat.blt m 459 then febbbbbbba m pc else febbbbbbbb m pc
noncomputable def febbbbbb (m pc : Nat) : Option rI := bif Nat.blt m 457 then febbbbbba m pc else febbbbbbb m pc
noncomputable def febbbbb (m pc : Nat) : Option rI := bif Nat.blt m 453 then febbbbba m pc else febbbbbb m pc
noncomputable def febbbb (m pc : Nat) : Option rI := bif Nat.blt m 446 then febbbba m pc else febbbbb m pc
noncomputable def febbb (m pc : Nat) : Option rI := bif Nat.blt m 432 then febbba m pc else febbbb m pc
noncomputable def febb (m pc : Nat) : Option rI := bif Nat.blt m 403 then febba m pc else febbb m pc
noncomputable def feb (m pc : Nat) : Option rI := bif Nat.blt m 345 then feba m pc else febb m pc
noncomputable def fe (m pc : Nat) : Option rI := bif Nat.blt m 230 then fea m pc else feb m pc
noncomputable abbrev rfetch : Nat → Nat → Option rI := fe


end
section
/-! 10.exec -/
noncomputable def rn {α : Type} (n : Nat) (k : Nat → α) : α := Nat.rec (k 0) (fun m _ => k (Nat.succ m)) n
theorem rn_eq {α : Type} (n : Nat) (k : Nat → α) : rn n k = k n := by cases n <;> rfl
noncomputable def rci {α : Type} (v : Int32) (k : Int32 → α) : α := rn v.toBitVec.toNat (fun n => k (Int32.ofNat n))
noncomputable def rcl {α : Type} (v : Int64) (k : Int64 → α) : α := rn v.toBitVec.toNat (fun n => k (Int64.ofNat n))
theorem rci_eq {α : Type} (v : Int32) (k : Int32 → α) : rci v k = k v := by
  unfold rci
  rw [rn_eq]
  congr 1
  apply Int32.toBitVec_inj.mp
  simp [Int32.ofNat]
theorem rcl_eq {α : Type} (v : Int64) (k : Int64 → α) : rcl v k = k v := by
  unfold rcl
  rw [rn_eq]
  congr 1
  apply Int64.toBitVec_inj.mp
  simp [Int64.ofNat]

def rg (ν : rV) (ρ : Nat → Nat) : Value → Value
  | .float k => .int (ν.1 k.toNat)
  | .double k => .long (ν.2 k.toNat)
  | .ref a => .ref (ρ a)
  | .int v => .int v
  | .long v => .long v
  | .null => .null
  | .retAddr p => .retAddr p
def ri (ν : rV) : Value → Int32
  | .int v => v
  | .float k => ν.1 k.toNat
  | _ => 0
def rl (ν : rV) : Value → Int64
  | .long v => v
  | .double k => ν.2 k.toNat
  | _ => 0
def risI : Value → Bool
  | .int _ => true
  | .float _ => true
  | _ => false
def risL : Value → Bool
  | .long _ => true
  | .double _ => true
  | _ => false
def risR : Value → Bool
  | .ref _ => true
  | .null => true
  | _ => false
theorem rg_i {ν : rV} {ρ : Nat → Nat} {v : Value} (h : risI v = true) : rg ν ρ v = .int (ri ν v) := by cases v <;> first | rfl | cases h
theorem rg_l {ν : rV} {ρ : Nat → Nat} {v : Value} (h : risL v = true) : rg ν ρ v = .long (rl ν v) := by cases v <;> first | rfl | cases h
theorem rg_cat (ν : rV) (ρ : Nat → Nat) (v : Value) : (rg ν ρ v).category = v.category := by cases v <;> rfl
def rop (o : Nat) (x y : Int32) : Int32 :=
  match o with
  | 0 => x + y
  | 1 => x - y
  | 2 => x * y
  | 3 => x &&& y
  | 4 => x ||| y
  | 5 => x ^^^ y
  | 6 => x <<< (y &&& 31)
  | 7 => x >>> (y &&& 31)
  | 8 => (x.toUInt32 >>> (y.toUInt32 &&& Int32.toUInt32 31)).toInt32
  | 9 => x / y
  | _ => x - x / y * y
def ruop (o : Nat) (x : Int32) : Int32 :=
  match o with
  | 0 => -x
  | _ => x.toInt8.toInt32
def rlop (o : Nat) (x y : Int64) : Int64 :=
  match o with
  | 0 => x + y
  | 1 => x - y
  | 2 => x * y
  | 3 => x &&& y
  | 4 => x ||| y
  | _ => x ^^^ y
def rsop (o : Nat) (x : Int64) (y : Int32) : Int64 :=
  match o with
  | 0 => x <<< (y.toInt64 &&& 63)
  | 1 => x >>> (y.toInt64 &&& 63)
  | _ => (x.toUInt64 >>> (y.toInt64.toUInt64 &&& Int64.toUInt64 63)).toInt64
def rcmp (o : Nat) (x y : Int32) : Bool :=
  match o with
  | 0 => decide (x = y)
  | 1 => !(decide (x = y))
  | 2 => decide (x < y)
  | 3 => decide (y ≤ x)
  | 4 => decide (y < x)
  | _ => decide (x ≤ y)

def rhold (ν : rV) (q : rK) : Prop :=
  match q.1 with
  | 0 => ν.1 (UInt32.ofNat q.2.2.2.2).toNat = rop q.2.1 (ri ν q.2.2.1) (ri ν q.2.2.2.1)
  | 1 => ν.2 (UInt64.ofNat q.2.2.2.2).toNat = rlop q.2.1 (rl ν q.2.2.1) (rl ν q.2.2.2.1)
  | 2 => ν.2 (UInt64.ofNat q.2.2.2.2).toNat = rsop q.2.1 (rl ν q.2.2.1) (ri ν q.2.2.2.1)
  | 3 => ν.2 (UInt64.ofNat q.2.2.2.2).toNat = (ri ν q.2.2.1).toInt64
  | 4 => ν.1 (UInt32.ofNat q.2.2.2.2).toNat = (rl ν q.2.2.1).toInt32
  | 5 => ν.1 (UInt32.ofNat q.2.2.2.2).toNat = lg_cmp (rl ν q.2.2.1) (rl ν q.2.2.2.1)
  | 6 => ν.1 (UInt32.ofNat q.2.2.2.2).toNat = ruop q.2.1 (ri ν q.2.2.1)
  | 7 => rcmp q.2.1 (ri ν q.2.2.1) (ri ν q.2.2.2.1) = Nat.beq q.2.2.2.2 1
  | 8 => ri ν q.2.2.1 = ri ν q.2.2.2.1
  | _ => (ri ν q.2.2.1).toInt < (q.2.1 : Int) - 2147483648 ∨ (q.2.2.2.2 : Int) - 2147483648 < (ri ν q.2.2.1).toInt
def rholds (ν : rV) (cs : List rK) : Prop := ∀ q ∈ cs, rhold ν q
theorem rholds_nil (ν : rV) : rholds ν [] := fun _ h => by cases h
theorem rholds_cons {ν : rV} {q : rK} {cs : List rK} (h : rholds ν (q :: cs)) : rhold ν q ∧ rholds ν cs := ⟨h q List.mem_cons_self, fun x hx => h x (List.mem_cons_of_mem _ hx)⟩
theorem rholds_app {ν : rV} {a b : List rK} (h : rholds ν (a ++ b)) : rholds ν a ∧ rholds ν b := ⟨fun x hx => h x (List.mem_append_left _ hx), fun x hx => h x (List.mem_append_right _ hx)⟩
def remit (q : rK) (r : Option rR) : Option rR :=
  match r with
  | some z => some (q :: z.1, z.2)
  | none => none
def rbinS (o : Nat) (x y : Value) (k : Nat) (c : Value → Nat → Option rR) : Option rR :=
  match risI x && risI y with
  | true => remit (0, o, x, y, k) (c (.float (UInt32.ofNat k)) (k + 1))
  | false => none
noncomputable def rbin (o : Nat) (x y : Value) (k : Nat) (c : Value → Nat → Option rR) : Option rR :=
  match x with
  | .int a => match y with
    | .int b => rci (rop o a b) (fun v => c (.int v) k)
    | y => rbinS o (.int a) y k c
  | x => rbinS o x y k c
noncomputable def rdiv (o : Nat) (x y : Value) (k : Nat) (c : Value → Nat → Option rR) : Option rR :=
  match y with
  | .int b => match decide (b = 0) with
    | true => none
    | false => rbin o x (.int b) k c
  | _ => none
def runiS (o : Nat) (x : Value) (k : Nat) (c : Value → Nat → Option rR) : Option rR :=
  match risI x with
  | true => remit (6, o, x, x, k) (c (.float (UInt32.ofNat k)) (k + 1))
  | false => none
noncomputable def runi (o : Nat) (x : Value) (k : Nat) (c : Value → Nat → Option rR) : Option rR :=
  match x with
  | .int a => rci (ruop o a) (fun v => c (.int v) k)
  | x => runiS o x k c
def rlbinS (o : Nat) (x y : Value) (k : Nat) (c : Value → Nat → Option rR) : Option rR :=
  match risL x && risL y with
  | true => remit (1, o, x, y, k) (c (.double (UInt64.ofNat k)) (k + 1))
  | false => none
noncomputable def rlbin (o : Nat) (x y : Value) (k : Nat) (c : Value → Nat → Option rR) : Option rR :=
  match x with
  | .long a => match y with
    | .long b => rcl (rlop o a b) (fun v => c (.long v) k)
    | y => rlbinS o (.long a) y k c
  | x => rlbinS o x y k c
def rlshS (o : Nat) (x y : Value) (k : Nat) (c : Value → Nat → Option rR) : Option rR :=
  match risL x && risI y with
  | true => remit (2, o, x, y, k) (c (.double (UInt64.ofNat k)) (k + 1))
  | false => none
noncomputable def rlsh (o : Nat) (x y : Value) (k : Nat) (c : Value → Nat → Option rR) : Option rR :=
  match x with
  | .long a => match y with
    | .int b => rcl (rsop o a b) (fun v => c (.long v) k)
    | y => rlshS o (.long a) y k c
  | x => rlshS o x y k c
noncomputable def ri2l (x : Value) (k : Nat) (c : Value → Nat → Option rR) : Option rR :=
  match x with
  | .int a => rcl a.toInt64 (fun v => c (.long v) k)
  | .float j => remit (3, 0, .float j, .null, k) (c (.double (UInt64.ofNat k)) (k + 1))
  | _ => none
noncomputable def rl2i (x : Value) (k : Nat) (c : Value → Nat → Option rR) : Option rR :=
  match x with
  | .long a => rci a.toInt32 (fun v => c (.int v) k)
  | .double j => remit (4, 0, .double j, .null, k) (c (.float (UInt32.ofNat k)) (k + 1))
  | _ => none
def rlcmpS (x y : Value) (k : Nat) (c : Value → Nat → Option rR) : Option rR :=
  match risL x && risL y with
  | true => remit (5, 0, x, y, k) (c (.float (UInt32.ofNat k)) (k + 1))
  | false => none
noncomputable def rlcmp (x y : Value) (k : Nat) (c : Value → Nat → Option rR) : Option rR :=
  match x with
  | .long a => match y with
    | .long b => rci (lg_cmp a b) (fun v => c (.int v) k)
    | y => rlcmpS (.long a) y k c
  | x => rlcmpS x y k c
def rbrS (o : Nat) (x y : Value) (pa : List Nat) (ct cf : List Nat → Option rR) : Option rR :=
  match risI x && risI y with
  | false => none
  | true => match pa with
    | [] => none
    | z :: pa' => match Nat.beq z 1 with
      | true => remit (7, o, x, y, 1) (ct pa')
      | false => remit (7, o, x, y, 0) (cf pa')
def rbr (o : Nat) (x y : Value) (pa : List Nat) (ct cf : List Nat → Option rR) : Option rR :=
  match x with
  | .int a => match y with
    | .int b => match rcmp o a b with
      | true => ct pa
      | false => cf pa
    | y => rbrS o (.int a) y pa ct cf
  | x => rbrS o x y pa ct cf
noncomputable def rjmp (pc : Nat) (off : Int) (c : Nat → Option rR) : Option rR :=
  match (pc : Int) + off with
  | .ofNat t => rn t c
  | .negSucc _ => none
noncomputable def rlook (l : rO) (i : Nat) : Option Value := @List.rec (Nat × Value) (fun _ => Option Value) none (fun q _ ih => @Bool.rec (fun _ => Option Value) ih (some q.2) (Nat.beq q.1 i)) l
noncomputable def rgt {α : Type} (l : List α) (n : Nat) : Option α := @List.rec α (fun _ => Nat → Option α) (fun _ => none) (fun c _ ih n => @Nat.rec (fun _ => Option α) (some c) (fun m _ => ih m) n) l n
theorem rgt_eq {α : Type} : ∀ (l : List α) (n : Nat), rgt l n = l[n]?
  | [], n => by
    show none = _
    simp
  | c :: l, 0 => by
    show some c = _
    simp
  | c :: l, n + 1 => by
    show rgt l n = _
    rw [rgt_eq l n]
    simp
noncomputable def rstl {α : Type} (l : List α) (n : Nat) (c : α) : List α := @List.rec α (fun _ => Nat → List α) (fun _ => []) (fun x tl ih n => @Nat.rec (fun _ => List α) (c :: tl) (fun m _ => x :: ih m) n) l n
theorem rstl_eq {α : Type} : ∀ (l : List α) (n : Nat) (c : α), rstl l n c = l.set n c
  | [], n, c => by
    show [] = _
    simp
  | x :: l, 0, c => rfl
  | x :: l, n + 1, c => by
    show x :: rstl l n c = _
    rw [rstl_eq l n c]
    rfl
noncomputable def rkp (q : Nat × Value) (i : Nat) : Bool := @Bool.rec (fun _ => Bool) (@Bool.rec (fun _ => Bool) true (Bool.not (Nat.beq q.2.category 2)) (Nat.beq (q.1 + 1) i)) false (Nat.beq q.1 i)
noncomputable def rkp2 (q : Nat × Value) (i : Nat) : Bool := @Bool.rec (fun _ => Bool) (@Bool.rec (fun _ => Bool) (@Bool.rec (fun _ => Bool) true (Bool.not (Nat.beq q.2.category 2)) (Nat.beq (q.1 + 1) i)) false (Nat.beq q.1 (i + 1))) false (Nat.beq q.1 i)
theorem rnbq (a b : Nat) : (a == b) = Nat.beq a b := by
  cases h : Nat.beq a b with
  | true =>
    rw [Nat.eq_of_beq_eq_true h]
    simp
  | false => simp [Nat.ne_of_beq_eq_false h]
theorem rkp_eq (q : Nat × Value) (i : Nat) : rkp q i = (!(q.1 == i) && !(q.1 + 1 == i && q.2.category == 2)) := by
  unfold rkp
  simp only [rnbq]
  cases Nat.beq q.1 i <;> cases Nat.beq (q.1 + 1) i <;> cases Nat.beq q.2.category 2 <;> rfl
theorem rkp2_eq (q : Nat × Value) (i : Nat) : rkp2 q i = (!(q.1 == i) && (!(q.1 == i + 1) && !(q.1 + 1 == i && q.2.category == 2))) := by
  unfold rkp2
  simp only [rnbq]
  cases Nat.beq q.1 i <;> cases Nat.beq q.1 (i + 1) <;> cases Nat.beq (q.1 + 1) i <;> cases Nat.beq q.2.category 2 <;> rfl
noncomputable def rdrp (f : Nat × Value → Bool) (l : rO) : rO := @List.rec (Nat × Value) (fun _ => rO) [] (fun q _ ih => @Bool.rec (fun _ => rO) ih (q :: ih) (f q)) l
theorem rdrp_eq {f g : Nat × Value → Bool} (h : ∀ q, f q = g q) : ∀ l : rO, rdrp f l = l.filter g
  | [] => rfl
  | q :: l => by
    show @Bool.rec (fun _ => rO) (rdrp f l) (q :: rdrp f l) (f q) = _
    rw [rdrp_eq h l, List.filter_cons, h q]
    cases g q <;> rfl
noncomputable def rset (ls : rO) (i : Nat) (v : Value) : rO := (i, v) :: rdrp (fun q => rkp q i) ls
noncomputable def rset2 (ls : rO) (i : Nat) (v : Value) : rO := (i, v) :: rdrp (fun q => rkp2 q i) ls
theorem rset_eq (ls : rO) (i : Nat) (v : Value) : rset ls i v = (i, v) :: ls.filter (fun q => !(q.1 == i) && !(q.1 + 1 == i && q.2.category == 2)) := congrArg _ (rdrp_eq (fun q => rkp_eq q i) ls)
theorem rset2_eq (ls : rO) (i : Nat) (v : Value) : rset2 ls i v = (i, v) :: ls.filter (fun q => !(q.1 == i) && (!(q.1 == i + 1) && !(q.1 + 1 == i && q.2.category == 2))) := congrArg _ (rdrp_eq (fun q => rkp2_eq q i) ls)
noncomputable def rlk (l : rO) (d : Value) (i : Nat) : Value := @List.rec (Nat × Value) (fun _ => Value) d (fun q _ ih => @Bool.rec (fun _ => Value) ih q.2 (Nat.beq q.1 i)) l
noncomputable def rup (l : rO) (i : Nat) (w : Value) : rO := @List.rec (Nat × Value) (fun _ => rO) [(i, w)] (fun q tl ih => @Bool.rec (fun _ => rO) (q :: ih) ((q.1, w) :: tl) (Nat.beq q.1 i)) l
noncomputable def rat (σ : rS) (n : Nat) : Option rC := rgt σ n
theorem rat_eq (σ : rS) (n : Nat) : rat σ n = σ[n]? := rgt_eq σ n
theorem rlook_mem : ∀ {l : rO} {i : Nat} {v : Value}, rlook l i = some v → (i, v) ∈ l
  | [], i, v, h => by cases h
  | (j, w) :: l, i, v, h => by
    have h : @Bool.rec (fun _ => Option Value) (rlook l i) (some w) (Nat.beq j i) = some v := h
    cases hb : Nat.beq j i with
    | true =>
      rw [hb] at h
      have : j = i := Nat.eq_of_beq_eq_true hb
      subst this
      cases h
      exact List.mem_cons_self
    | false =>
      rw [hb] at h
      exact List.mem_cons_of_mem _ (rlook_mem h)
theorem rlk_rup : ∀ (l : rO) (d w : Value) (i j : Nat), rlk (rup l i w) d j = if j = i then w else rlk l d j
  | [], d, w, i, j => by
    show @Bool.rec (fun _ => Value) d w (Nat.beq i j) = if j = i then w else d
    cases h : Nat.beq i j with
    | true => rw [if_pos (Nat.eq_of_beq_eq_true h).symm]
    | false => rw [if_neg (fun q => Nat.ne_of_beq_eq_false h q.symm)]
  | (a, v) :: l, d, w, i, j => by
    have e1 : rup ((a, v) :: l) i w = @Bool.rec (fun _ => rO) ((a, v) :: rup l i w) ((a, w) :: l) (Nat.beq a i) := rfl
    rw [e1]
    cases h : Nat.beq a i with
    | true =>
      have h := Nat.eq_of_beq_eq_true h
      subst h
      show @Bool.rec (fun _ => Value) (rlk l d j) w (Nat.beq a j) = if j = a then w else @Bool.rec (fun _ => Value) (rlk l d j) v (Nat.beq a j)
      cases h2 : Nat.beq a j with
      | true => rw [if_pos (Nat.eq_of_beq_eq_true h2).symm]
      | false => rw [if_neg (fun q => Nat.ne_of_beq_eq_false h2 q.symm)]
    | false =>
      have h := Nat.ne_of_beq_eq_false h
      show @Bool.rec (fun _ => Value) (rlk (rup l i w) d j) v (Nat.beq a j) = if j = i then w else @Bool.rec (fun _ => Value) (rlk l d j) v (Nat.beq a j)
      cases h2 : Nat.beq a j with
      | true =>
        have h2 := Nat.eq_of_beq_eq_true h2
        subst h2
        rw [if_neg h]
      | false => exact rlk_rup l d w i j


end
section
/-! 11.step -/
noncomputable def rnth (l : List Value) (n : Nat) : Option Value := rgt l n
theorem rnth_eq (σ : List Value) (n : Nat) : rnth σ n = σ[n]? := rgt_eq σ n
def rcond : ClassFile.Cond → Nat
  | .eq => 0
  | .ne => 1
  | .lt => 2
  | .ge => 3
  | .gt => 4
  | .le => 5
def rbool : Value → Bool
  | .int v => decide (v = 0) || decide (v = 1)
  | _ => false

def rfit (tag : Nat) (v : Value) : Bool :=
  match tag with
  | 0 => risI v
  | 1 => rbool v
  | 2 => risL v
  | 3 => risR v
  | _ => false
noncomputable def rget (σ : rS) (o : Value) (ci kf : Nat) (c : Value → Option rR) : Option rR :=
  match o with
  | .ref a => match rat σ a with
    | some (.inl q) => match Nat.beq q.1 ci with
      | true => match rnth q.2 kf with
        | some v => c v
        | none => none
      | false => none
    | _ => none
  | _ => none
noncomputable def rput (SB : Nat) (σ : rS) (o v : Value) (ci kf tag : Nat) (c : rS → Option rR) : Option rR :=
  match o with
  | .ref a => match rat σ a with
    | some (.inl q) => match Nat.beq q.1 ci && (Nat.ble SB a && (rfit tag v && Nat.blt kf q.2.length)) with
      | true => c (rstl σ a (.inl (q.1, rstl q.2 kf v)))
      | false => none
    | _ => none
  | _ => none

noncomputable def rplace (σ : rS) (o i : Value) (c : Nat → Nat × Nat × Value × rO → Nat → Option rR) : Option rR :=
  match o with
  | .ref a => match rat σ a with
    | some (.inr q) => match i with
      | .int j => match decide (j < 0) with
        | false => rn j.toNatClampNeg (fun x => match Nat.blt x q.2.1 with
          | true => c a q x
          | false => none)
        | true => none
      | _ => none
    | _ => none
  | _ => none
noncomputable def rald (t : Nat) (σ : rS) (o i : Value) (c : Value → Option rR) : Option rR :=
  rplace σ o i (fun _ q x => match Nat.beq q.1 t with
    | true => c (rlk q.2.2.2 q.2.2.1 x)
    | false => none)
noncomputable def ralq (σ : rS) (o i : Value) (c : Value → Option rR) : Option rR :=
  rplace σ o i (fun _ q x => match Nat.ble 4 q.1 && Nat.blt q.1 8 with
    | true => match risR (rlk q.2.2.2 q.2.2.1 x) with
      | true => c (rlk q.2.2.2 q.2.2.1 x)
      | false => none
    | false => none)
noncomputable def rast (t tag SB : Nat) (σ : rS) (o i v : Value) (c : rS → Option rR) : Option rR :=
  rplace σ o i (fun a q x => match Nat.beq q.1 t && (Nat.ble SB a && rfit tag v) with
    | true => c (rstl σ a (.inr (q.1, q.2.1, q.2.2.1, rup q.2.2.2 x v)))
    | false => none)

noncomputable def rkin (EC : Nat → Nat) (σ : rS) (t : Nat) (v : Value) : Bool :=
  match v with
  | .null => true
  | .ref b => match rat σ b with
    | some (.inl q) => Nat.beq q.1 (EC t)
    | _ => false
  | _ => false
noncomputable def rasq (EC : Nat → Nat) (SB : Nat) (σ : rS) (o i v : Value) (c : rS → Option rR) : Option rR :=
  rplace σ o i (fun a q x => match Nat.ble 4 q.1 && (Nat.blt q.1 7 && (Nat.ble SB a && rkin EC σ q.1 v)) with
    | true => c (rstl σ a (.inr (q.1, q.2.1, q.2.2.1, rup q.2.2.2 x v)))
    | false => none)
def rdef (t : Nat) : Value :=
  match t with
  | 0 => .int 0
  | 1 => .int 0
  | 2 => .long 0
  | 3 => .int 0
  | _ => .null
noncomputable def rnewa (t : Nat) (σ : rS) (n : Value) (c : Value → rS → Nat → Option rR) : Option rR :=
  match n with
  | .int j => match decide (j < 0) with
    | false => rn j.toNatClampNeg (fun x => match Nat.ble x 1000000 with
      | true => rn σ.length (fun a => c (.ref a) (σ ++ [.inr (t, x, rdef t, [])]) x)
      | false => none)
    | true => none
  | _ => none
def rwords : List Value → Nat
  | [] => 0
  | v :: l => v.category + rwords l
def rargs : Nat → List Value → rO
  | _, [] => []
  | i, v :: vs => (i, v) :: rargs (i + v.category) vs
def rafter (cs : List rK) (r : Option rR) : Option rR :=
  match cs with
  | [] => r
  | q :: cs => match r with
    | some y => some ((q :: cs) ++ y.1, y.2)
    | none => none
def rreti (v : Option Value) (i : Instr) : Bool :=
  match v with
  | none => decide (i = .return_)
  | some (.int _) => decide (i = .ireturn)
  | some (.float _) => decide (i = .ireturn)
  | some (.long _) => decide (i = .lreturn)
  | some (.double _) => decide (i = .lreturn)
  | some (.ref _) => decide (i = .areturn)
  | some .null => decide (i = .areturn)
  | some (.retAddr _) => false
def rretok (rt : Nat) (v : Option Value) : Bool :=
  match v with
  | none => Nat.beq rt 9
  | some v => Nat.blt rt 4 && rfit rt v
def rceq : rC → rC → Bool
  | .inl p, .inl q => Nat.beq p.1 q.1 && decide (p.2 = q.2)
  | .inr p, .inr q => Nat.beq p.1 q.1 && (Nat.beq p.2.1 q.2.1 && (decide (p.2.2.1 = q.2.2.1) && decide (p.2.2.2 = q.2.2.2)))
  | _, _ => false
theorem rceq_eq : ∀ {p q : rC}, rceq p q = true → p = q
  | .inl (a, b), .inl (a', b'), h => by
    simp only [rceq, Bool.and_eq_true, decide_eq_true_eq] at h
    have h1 := Nat.eq_of_beq_eq_true h.1
    rw [h1, h.2]
  | .inr (a, b, c, d), .inr (a', b', cₚ, d'), h => by
    simp only [rceq, Bool.and_eq_true, decide_eq_true_eq] at h
    have h1 := Nat.eq_of_beq_eq_true h.1
    have h2 := Nat.eq_of_beq_eq_true h.2.1
    rw [h1, h2, h.2.2.1, h.2.2.2]
  | .inl _, .inr _, h => by simp [rceq] at h
  | .inr _, .inl _, h => by simp [rceq] at h
def rseq : rS → rS → Bool
  | [], [] => true
  | a :: l, b :: lₚ => rceq a b && rseq l lₚ
  | _, _ => false
theorem rseq_eq : ∀ {p q : rS}, rseq p q = true → p = q
  | [], [], _ => rfl
  | a :: l, b :: lₚ, h => by
    simp only [rseq, Bool.and_eq_true] at h
    rw [rceq_eq h.1, rseq_eq h.2]
  | [], _ :: _, h => by simp [rseq] at h
  | _ :: _, [], h => by simp [rseq] at h
abbrev rM : Type := Nat × Nat × List Value × rS × Option Value × rS × Nat × Nat
def rmemo (Kn : List rM) (μ d : Nat) (vs : List Value) (σ : rS) : Option (Option Value × rS × Nat × Nat) :=
  match Kn with
  | [] => none
  | q :: l => match Nat.beq q.1 μ && (Nat.ble q.2.1 d && (decide (q.2.2.1 = vs) && rseq q.2.2.2.1 σ)) with
    | true => some q.2.2.2.2
    | false => rmemo l μ d vs σ
noncomputable def rcall (ML RT : Nat → Nat) (Kn : List rM) (rec : rF) (μ d pc : Nat) (ls : rO) (μ' : Nat) (vs rest : List Value) (σ : rS) (k : Nat) (pa : List Nat) (cells slots : Nat) : Option rR :=
  match d with
  | 0 => none
  | d' + 1 => match Nat.ble (rwords rest) 8 && Nat.ble (rwords vs) (ML μ') with
    | false => none
    | true => match rmemo Kn μ' d' vs σ with
      | some z => match rretok (RT μ') z.1 with
        | true => rn (pc + 3) (fun pcₚ => rec μ (d' + 1) pcₚ ls (z.1.toList ++ rest) z.2.1 k pa (cells + z.2.2.1) (slots + z.2.2.2))
        | false => none
      | none => match rec μ' d' 0 (rargs 0 vs) [] σ k pa 0 0 with
        | some z => match rretok (RT μ') z.2.1 with
          | true => rafter z.1 (rn (pc + 3) (fun pcₚ => rec μ (d' + 1) pcₚ ls (z.2.1.toList ++ rest) z.2.2.1 z.2.2.2.1 z.2.2.2.2.1 (cells + z.2.2.2.2.2.1) (slots + z.2.2.2.2.2.2)))
          | false => none
        | none => none

def rpopn : Nat → List Value → List Value → Option (List Value × List Value)
  | 0, acc, st => some (acc, st)
  | _ + 1, _, [] => none
  | n + 1, acc, v :: st => rpopn n (v :: acc) st
noncomputable def rinvo (ML RT : Nat → Nat) (Kn : List rM) (rec : rF) (μ d pc : Nat) (ls : rO) (vs st : List Value) (σ : rS) (k : Nat) (pa : List Nat) (cells slots : Nat) (act : rA) : Option rR :=
  match st with
  | .ref b :: rest => match rat σ b with
    | some (.inl q) => match act.2.2.2 with
      | .ref ci => match Nat.beq q.1 ci with
        | true => rcall ML RT Kn rec μ d pc ls act.2.1 (.ref b :: vs) rest σ k pa cells slots
        | false => none
      | _ => none
    | _ => none
  | _ => none
noncomputable def rinv (ML RT : Nat → Nat) (Kn : List rM) (rec : rF) (μ d pc : Nat) (ls : rO) (st : List Value) (σ : rS) (k : Nat) (pa : List Nat) (cells slots : Nat) (act : rA) : Option rR :=
  match rpopn act.2.2.1 [] st with
  | none => none
  | some z => match Nat.ble 24 act.1 with
    | true => rcall ML RT Kn rec μ d pc ls act.2.1 z.1 z.2 σ k pa cells slots
    | false => rinvo ML RT Kn rec μ d pc ls z.1 z.2 σ k pa cells slots act
noncomputable def rcpy (ov0 : rO) (d0 : Value) (sp dp : Nat) : Nat → rO → rO
  | 0, ov => ov
  | n + 1, ov => rup (rcpy ov0 d0 sp dp n ov) (dp + n) (rlk ov0 d0 (sp + n))
theorem rcpy_lk (ov0 : rO) (d0 : Value) (sp dp : Nat) (d : Value) (ov : rO) (j : Nat) : ∀ n : Nat, rlk (rcpy ov0 d0 sp dp n ov) d j = if dp ≤ j ∧ j < dp + n then rlk ov0 d0 (sp + (j - dp)) else rlk ov d j
  | 0 => by
    rw [if_neg (by omega)]
    rfl
  | n + 1 => by
    unfold rcpy
    rw [rlk_rup, rcpy_lk ov0 d0 sp dp d ov j n]
    by_cases h : j = dp + n
    · subst h
      rw [if_pos rfl, if_pos (by omega)]
      congr 1
      omega
    · rw [if_neg h]
      by_cases h2 : dp ≤ j ∧ j < dp + n
      · rw [if_pos h2, if_pos (by omega)]
      · rw [if_neg h2, if_neg (by omega)]

def rcel (t : Nat) (v : Value) : Bool :=
  match t with
  | 0 => match v with
    | .int x => decide (x.toInt8.toInt32 = x)
    | _ => false
  | 1 => risI v
  | _ => false
noncomputable def rcall0 (t : Nat) (ov0 : rO) (d0 : Value) (sp : Nat) : Nat → Bool
  | 0 => true
  | n + 1 => rcel t (rlk ov0 d0 (sp + n)) && rcall0 t ov0 d0 sp n
noncomputable def rcopy (SB : Nat) (σ : rS) (n dp a sp a0 : Value) (c : rS → Option rR) : Option rR :=
  match n, dp, a, sp, a0 with
  | .int n, .int dp, .ref a, .int sp, .ref a0 => match rat σ a with
    | some (.inr q) => match rat σ a0 with
      | some (.inr q0) => match decide (n < 0) || (decide (dp < 0) || decide (sp < 0)) with
        | true => none
        | false => rn n.toNatClampNeg (fun n => rn dp.toNatClampNeg (fun dp => rn sp.toNatClampNeg (fun sp =>
          match Nat.beq q.1 q0.1 && (Nat.ble q.1 1 && (Nat.ble (sp + n) q0.2.1 && (Nat.ble (dp + n) q.2.1 && (Nat.ble SB a && rcall0 q.1 q0.2.2.2 q0.2.2.1 sp n)))) with
          | true => c (rstl σ a (.inr (q.1, q.2.1, q.2.2.1, rcpy q0.2.2.2 q0.2.2.1 sp dp n q.2.2.2)))
          | false => none)))
      | _ => none
    | _ => none
  | _, _, _, _, _ => none
noncomputable def rfill (SB : Nat) (σ : rS) (v a : Value) (c : rS → Option rR) : Option rR :=
  match a with
  | .ref a => match rat σ a with
    | some (.inr q) => match Nat.beq q.1 1 && (Nat.ble SB a && (risI v && Nat.ble q.2.1 1000000)) with
      | true => c (rstl σ a (.inr (q.1, q.2.1, v, [])))
      | false => none
    | _ => none
  | _ => none
noncomputable def rsw (pc : Nat) (dflt lo hi : Int) (offs : Array Int) (x : Int32) (c : Nat → Option rR) : Option rR :=
  match decide (x.toInt < lo) || decide (hi < x.toInt) with
  | true => rjmp pc dflt c
  | false => match offs[(x.toInt - lo).toNat]? with
    | some off => rjmp pc off c
    | none => none
noncomputable def rswitch (pc : Nat) (dflt lo hi : Int) (offs : Array Int) (v : Value) (pa : List Nat) (c : List Nat → Nat → Option rR) : Option rR :=
  match v with
  | .int x => rsw pc dflt lo hi offs x (c pa)
  | .float j => match pa with
    | [] => none
    | z :: pa' => match Nat.ble z 4294967295 with
      | true => remit (8, 0, .float j, .int (Int32.ofNat z), 0) (rsw pc dflt lo hi offs (Int32.ofNat z) (c pa'))
      | false => match decide (0 ≤ lo + 2147483648) && decide (0 ≤ hi + 2147483648) with
        | true => remit (9, (lo + 2147483648).toNat, .float j, .null, (hi + 2147483648).toNat) (rjmp pc dflt (c pa'))
        | false => none
  | _ => none

def rpick (x dflt : Int) : List (Int × Int) → Int
  | [] => dflt
  | q :: l => bif decide (q.1 = x) then q.2 else rpick x dflt l

noncomputable def rkz (σ : rS) (o : Value) : Bool :=
  match o with
  | .ref a => match rat σ a with
    | some (.inr q) => Nat.beq q.1 3
    | _ => false
  | _ => false
noncomputable def rload (ls : rO) (i : Nat) (f : Value → Bool) (c : Value → Option rR) : Option rR :=
  match rlook ls i with
  | some v => match f v with
    | true => c v
    | false => none
  | none => none

noncomputable def rconc (v : Value) (pa : List Nat) (c : Value → List Nat → Option rR) : Option rR :=
  match v with
  | .float j => match pa with
    | [] => none
    | z :: pa' => match Nat.ble z 4294967295 with
      | true => remit (8, 0, .float j, .int (Int32.ofNat z), 0) (c (.int (Int32.ofNat z)) pa')
      | false => c (.float j) pa'
  | v => c v pa

abbrev rP : Type := (Nat → Nat → Option rI) × (Nat → Nat) × (Nat → Nat) × (Nat → Bool) × (Nat → List Value) × (Nat → Nat) × Nat × List rM
noncomputable def rinstr (P : rP) (rec : rF) (μ d pc : Nat) (ls : rO) (st : List Value) (σ : rS) (k : Nat) (pa : List Nat) (cells slots : Nat) (i : Instr) (len : Nat) (act : rA) : Option rR :=
  match i with
  | .iconst n => rci (Int32.ofInt n) (fun v => rn (pc + 1) (fun pcₚ => rec μ d pcₚ ls (.int v :: st) σ k pa cells slots))
  | .bipush n => rci (Int8.ofInt n).toInt32 (fun v => rn (pc + 2) (fun pcₚ => rec μ d pcₚ ls (.int v :: st) σ k pa cells slots))
  | .sipush n => rci (Int16.ofInt n).toInt32 (fun v => rn (pc + 3) (fun pcₚ => rec μ d pcₚ ls (.int v :: st) σ k pa cells slots))
  | .lconst n => rcl (Int64.ofNat (n : Nat)) (fun v => rn (pc + 1) (fun pcₚ => rec μ d pcₚ ls (.long v :: st) σ k pa cells slots))
  | .aconst_null => rn (pc + 1) (fun pcₚ => rec μ d pcₚ ls (.null :: st) σ k pa cells slots)
  | .ldc _ => match act.2.2.2 with
    | .int v => rn (pc + 2) (fun pcₚ => rec μ d pcₚ ls (.int v :: st) σ k pa cells slots)
    | _ => none
  | .ldc_w _ => match act.2.2.2 with
    | .int v => rn (pc + 3) (fun pcₚ => rec μ d pcₚ ls (.int v :: st) σ k pa cells slots)
    | _ => none
  | .ldc2_w _ => match act.2.2.2 with
    | .long v => rn (pc + 3) (fun pcₚ => rec μ d pcₚ ls (.long v :: st) σ k pa cells slots)
    | _ => none
  | .iload n => rload ls n risI (fun v => rn (pc + 2) (fun pcₚ => rec μ d pcₚ ls (v :: st) σ k pa cells slots))
  | .iload_n n => rload ls n risI (fun v => rn (pc + 1) (fun pcₚ => rec μ d pcₚ ls (v :: st) σ k pa cells slots))
  | .lload n => rload ls n risL (fun v => rn (pc + 2) (fun pcₚ => rec μ d pcₚ ls (v :: st) σ k pa cells slots))
  | .lload_n n => rload ls n risL (fun v => rn (pc + 1) (fun pcₚ => rec μ d pcₚ ls (v :: st) σ k pa cells slots))
  | .aload n => rload ls n risR (fun v => rn (pc + 2) (fun pcₚ => rec μ d pcₚ ls (v :: st) σ k pa cells slots))
  | .aload_n n => rload ls n risR (fun v => rn (pc + 1) (fun pcₚ => rec μ d pcₚ ls (v :: st) σ k pa cells slots))
  | .istore n => match st with
    | v :: st => match risI v with
      | true => rn (pc + 2) (fun pcₚ => rec μ d pcₚ (rset ls n v) st σ k pa cells slots)
      | false => none
    | _ => none
  | .istore_n n => match st with
    | v :: st => match risI v with
      | true => rn (pc + 1) (fun pcₚ => rec μ d pcₚ (rset ls n v) st σ k pa cells slots)
      | false => none
    | _ => none
  | .lstore n => match st with
    | v :: st => match risL v with
      | true => rn (pc + 2) (fun pcₚ => rec μ d pcₚ (rset2 ls n v) st σ k pa cells slots)
      | false => none
    | _ => none
  | .lstore_n n => match st with
    | v :: st => match risL v with
      | true => rn (pc + 1) (fun pcₚ => rec μ d pcₚ (rset2 ls n v) st σ k pa cells slots)
      | false => none
    | _ => none
  | .astore n => match st with
    | .ref a :: st => rn (pc + 2) (fun pcₚ => rec μ d pcₚ (rset ls n (.ref a)) st σ k pa cells slots)
    | .null :: st => rn (pc + 2) (fun pcₚ => rec μ d pcₚ (rset ls n .null) st σ k pa cells slots)
    | _ => none
  | .astore_n n => match st with
    | .ref a :: st => rn (pc + 1) (fun pcₚ => rec μ d pcₚ (rset ls n (.ref a)) st σ k pa cells slots)
    | .null :: st => rn (pc + 1) (fun pcₚ => rec μ d pcₚ (rset ls n .null) st σ k pa cells slots)
    | _ => none
  | .iinc n x => match rlook ls n with
    | some v => rbin 0 v (.int (Int32.ofInt x)) k (fun v k => rn (pc + len) (fun pcₚ => rec μ d pcₚ (rset ls n v) st σ k pa cells slots))
    | none => none
  | .iadd => match st with
    | y :: x :: st => rbin 0 x y k (fun v k => rn (pc + 1) (fun pcₚ => rec μ d pcₚ ls (v :: st) σ k pa cells slots))
    | _ => none
  | .isub => match st with
    | y :: x :: st => rbin 1 x y k (fun v k => rn (pc + 1) (fun pcₚ => rec μ d pcₚ ls (v :: st) σ k pa cells slots))
    | _ => none
  | .imul => match st with
    | y :: x :: st => rbin 2 x y k (fun v k => rn (pc + 1) (fun pcₚ => rec μ d pcₚ ls (v :: st) σ k pa cells slots))
    | _ => none
  | .iand => match st with
    | y :: x :: st => rbin 3 x y k (fun v k => rn (pc + 1) (fun pcₚ => rec μ d pcₚ ls (v :: st) σ k pa cells slots))
    | _ => none
  | .ior => match st with
    | y :: x :: st => rbin 4 x y k (fun v k => rn (pc + 1) (fun pcₚ => rec μ d pcₚ ls (v :: st) σ k pa cells slots))
    | _ => none
  | .ixor => match st with
    | y :: x :: st => rbin 5 x y k (fun v k => rn (pc + 1) (fun pcₚ => rec μ d pcₚ ls (v :: st) σ k pa cells slots))
    | _ => none
  | .ishl => match st with
    | y :: x :: st => rbin 6 x y k (fun v k => rn (pc + 1) (fun pcₚ => rec μ d pcₚ ls (v :: st) σ k pa cells slots))
    | _ => none
  | .ishr => match st with
    | y :: x :: st => rbin 7 x y k (fun v k => rn (pc + 1) (fun pcₚ => rec μ d pcₚ ls (v :: st) σ k pa cells slots))
    | _ => none
  | .iushr => match st with
    | y :: x :: st => rbin 8 x y k (fun v k => rn (pc + 1) (fun pcₚ => rec μ d pcₚ ls (v :: st) σ k pa cells slots))
    | _ => none
  | .idiv => match st with
    | y :: x :: st => rdiv 9 x y k (fun v k => rn (pc + 1) (fun pcₚ => rec μ d pcₚ ls (v :: st) σ k pa cells slots))
    | _ => none
  | .irem => match st with
    | y :: x :: st => rdiv 10 x y k (fun v k => rn (pc + 1) (fun pcₚ => rec μ d pcₚ ls (v :: st) σ k pa cells slots))
    | _ => none
  | .ineg => match st with
    | x :: st => runi 0 x k (fun v k => rn (pc + 1) (fun pcₚ => rec μ d pcₚ ls (v :: st) σ k pa cells slots))
    | _ => none
  | .i2b => match st with
    | x :: st => runi 1 x k (fun v k => rn (pc + 1) (fun pcₚ => rec μ d pcₚ ls (v :: st) σ k pa cells slots))
    | _ => none
  | .i2l => match st with
    | x :: st => ri2l x k (fun v k => rn (pc + 1) (fun pcₚ => rec μ d pcₚ ls (v :: st) σ k pa cells slots))
    | _ => none
  | .l2i => match st with
    | x :: st => rl2i x k (fun v k => rn (pc + 1) (fun pcₚ => rec μ d pcₚ ls (v :: st) σ k pa cells slots))
    | _ => none
  | .ladd => match st with
    | y :: x :: st => rlbin 0 x y k (fun v k => rn (pc + 1) (fun pcₚ => rec μ d pcₚ ls (v :: st) σ k pa cells slots))
    | _ => none
  | .lsub => match st with
    | y :: x :: st => rlbin 1 x y k (fun v k => rn (pc + 1) (fun pcₚ => rec μ d pcₚ ls (v :: st) σ k pa cells slots))
    | _ => none
  | .lmul => match st with
    | y :: x :: st => rlbin 2 x y k (fun v k => rn (pc + 1) (fun pcₚ => rec μ d pcₚ ls (v :: st) σ k pa cells slots))
    | _ => none
  | .land => match st with
    | y :: x :: st => rlbin 3 x y k (fun v k => rn (pc + 1) (fun pcₚ => rec μ d pcₚ ls (v :: st) σ k pa cells slots))
    | _ => none
  | .lor => match st with
    | y :: x :: st => rlbin 4 x y k (fun v k => rn (pc + 1) (fun pcₚ => rec μ d pcₚ ls (v :: st) σ k pa cells slots))
    | _ => none
  | .lxor => match st with
    | y :: x :: st => rlbin 5 x y k (fun v k => rn (pc + 1) (fun pcₚ => rec μ d pcₚ ls (v :: st) σ k pa cells slots))
    | _ => none
  | .lshl => match st with
    | y :: x :: st => rlsh 0 x y k (fun v k => rn (pc + 1) (fun pcₚ => rec μ d pcₚ ls (v :: st) σ k pa cells slots))
    | _ => none
  | .lshr => match st with
    | y :: x :: st => rlsh 1 x y k (fun v k => rn (pc + 1) (fun pcₚ => rec μ d pcₚ ls (v :: st) σ k pa cells slots))
    | _ => none
  | .lushr => match st with
    | y :: x :: st => rlsh 2 x y k (fun v k => rn (pc + 1) (fun pcₚ => rec μ d pcₚ ls (v :: st) σ k pa cells slots))
    | _ => none
  | .lcmp => match st with
    | y :: x :: st => rlcmp x y k (fun v k => rn (pc + 1) (fun pcₚ => rec μ d pcₚ ls (v :: st) σ k pa cells slots))
    | _ => none
  | .dup => match st with
    | x :: st => match Nat.beq x.category 1 with
      | true => rn (pc + 1) (fun pcₚ => rec μ d pcₚ ls (x :: x :: st) σ k pa cells slots)
      | false => none
    | _ => none
  | .dup_x1 => match st with
    | x :: y :: st => match Nat.beq x.category 1 && Nat.beq y.category 1 with
      | true => rn (pc + 1) (fun pcₚ => rec μ d pcₚ ls (x :: y :: x :: st) σ k pa cells slots)
      | false => none
    | _ => none
  | .dup2 => match st with
    | x :: st => match Nat.beq x.category 1 with
      | false => rn (pc + 1) (fun pcₚ => rec μ d pcₚ ls (x :: x :: st) σ k pa cells slots)
      | true => match st with
        | y :: st => match Nat.beq y.category 1 with
          | true => rn (pc + 1) (fun pcₚ => rec μ d pcₚ ls (x :: y :: x :: y :: st) σ k pa cells slots)
          | false => none
        | _ => none
    | _ => none
  | .pop => match st with
    | x :: st => match Nat.beq x.category 1 with
      | true => rn (pc + 1) (fun pcₚ => rec μ d pcₚ ls st σ k pa cells slots)
      | false => none
    | _ => none
  | .goto off => rjmp pc off (fun pcₚ => rec μ d pcₚ ls st σ k pa cells slots)
  | .ifCond c off => match st with
    | x :: st => rjmp pc off (fun t => rbr (rcond c) x (.int 0) pa (fun pa => rec μ d t ls st σ k pa cells slots) (fun pa => rn (pc + 3) (fun pcₚ => rec μ d pcₚ ls st σ k pa cells slots)))
    | _ => none
  | .if_icmp c off => match st with
    | y :: x :: st => rjmp pc off (fun t => rbr (rcond c) x y pa (fun pa => rec μ d t ls st σ k pa cells slots) (fun pa => rn (pc + 3) (fun pcₚ => rec μ d pcₚ ls st σ k pa cells slots)))
    | _ => none
  | .ifnull off => match st with
    | .null :: st => rjmp pc off (fun pcₚ => rec μ d pcₚ ls st σ k pa cells slots)
    | .ref _ :: st => rn (pc + 3) (fun pcₚ => rec μ d pcₚ ls st σ k pa cells slots)
    | _ => none
  | .ifnonnull off => match st with
    | .ref _ :: st => rjmp pc off (fun pcₚ => rec μ d pcₚ ls st σ k pa cells slots)
    | .null :: st => rn (pc + 3) (fun pcₚ => rec μ d pcₚ ls st σ k pa cells slots)
    | _ => none
  | .tableswitch dflt lo hi offs => match st with
    | v :: st => rswitch pc dflt lo hi offs v pa (fun pa pcₚ => rec μ d pcₚ ls st σ k pa cells slots)
    | _ => none
  | .lneg => match st with
    | .long x :: st => rcl (-x) (fun v => rn (pc + 1) (fun pcₚ => rec μ d pcₚ ls (.long v :: st) σ k pa cells slots))
    | _ => none
  | .pop2 => match st with
    | .long _ :: st => rn (pc + 1) (fun pcₚ => rec μ d pcₚ ls st σ k pa cells slots)
    | _ => none
  | .if_acmp .ne off => match st with
    | .ref b :: .ref a :: st => rjmp pc off (fun t => match Nat.beq a b with
      | true => rn (pc + 3) (fun pcₚ => rec μ d pcₚ ls st σ k pa cells slots)
      | false => match Nat.ble P.2.2.2.2.2.2.1 b with
        | true => rec μ d t ls st σ k pa cells slots
        | false => none)
    | .ref _ :: .null :: st => rjmp pc off (fun pcₚ => rec μ d pcₚ ls st σ k pa cells slots)
    | _ => none
  | .lookupswitch dflt pairs => match st with
    | .int x :: st => rjmp pc (rpick x.toInt dflt pairs.toList) (fun pcₚ => rec μ d pcₚ ls st σ k pa cells slots)
    | _ => none
  | .getfield _ => match st with
    | o :: st => rget σ o act.2.1 act.2.2.1 (fun v => rn (pc + 3) (fun pcₚ => rec μ d pcₚ ls (v :: st) σ k pa cells slots))
    | _ => none
  | .putfield _ => match st with
    | v :: o :: st => match act.2.2.2 with
      | .ref tag => match Nat.blt tag 8 || (Nat.blt tag 16 && P.2.2.2.1 μ) with
        | true => rput P.2.2.2.2.2.2.1 σ o v act.2.1 act.2.2.1 (tag % 8) (fun σ => rn (pc + 3) (fun pcₚ => rec μ d pcₚ ls st σ k pa cells slots))
        | false => none
      | _ => none
    | _ => none
  | .getstatic _ => rn (pc + 3) (fun pcₚ => rec μ d pcₚ ls (.ref act.2.1 :: st) σ k pa cells slots)
  | .iaload => match st with
    | i :: o :: st => rald 1 σ o i (fun v => match risI v with
      | true => rconc v pa (fun v pa => rn (pc + 1) (fun pcₚ => rec μ d pcₚ ls (v :: st) σ k pa cells slots))
      | false => none)
    | _ => none
  | .baload => match st with
    | i :: o :: st => match rkz σ o with
      | false => rald 0 σ o i (fun v => match risI v with
        | true => rn (pc + 1) (fun pcₚ => rec μ d pcₚ ls (v :: st) σ k pa cells slots)
        | false => none)
      | true => rald 3 σ o i (fun v => match rbool v with
        | true => rn (pc + 1) (fun pcₚ => rec μ d pcₚ ls (v :: st) σ k pa cells slots)
        | false => none)
    | _ => none
  | .laload => match st with
    | i :: o :: st => rald 2 σ o i (fun v => match risL v with
      | true => rn (pc + 1) (fun pcₚ => rec μ d pcₚ ls (v :: st) σ k pa cells slots)
      | false => none)
    | _ => none
  | .aaload => match st with
    | i :: o :: st => ralq σ o i (fun v => rn (pc + 1) (fun pcₚ => rec μ d pcₚ ls (v :: st) σ k pa cells slots))
    | _ => none
  | .iastore => match st with
    | v :: i :: o :: st => rast 1 0 P.2.2.2.2.2.2.1 σ o i v (fun σ => rn (pc + 1) (fun pcₚ => rec μ d pcₚ ls st σ k pa cells slots))
    | _ => none
  | .lastore => match st with
    | v :: i :: o :: st => rast 2 2 P.2.2.2.2.2.2.1 σ o i v (fun σ => rn (pc + 1) (fun pcₚ => rec μ d pcₚ ls st σ k pa cells slots))
    | _ => none
  | .bastore => match st with
    | v :: i :: o :: st => match rkz σ o with
      | false => runi 1 v k (fun v k => rast 0 0 P.2.2.2.2.2.2.1 σ o i v (fun σ => rn (pc + 1) (fun pcₚ => rec μ d pcₚ ls st σ k pa cells slots)))
      | true => rast 3 1 P.2.2.2.2.2.2.1 σ o i v (fun σ => rn (pc + 1) (fun pcₚ => rec μ d pcₚ ls st σ k pa cells slots))
    | _ => none
  | .aastore => match st with
    | v :: i :: o :: st => rasq P.2.2.2.2.2.1 P.2.2.2.2.2.2.1 σ o i v (fun σ => rn (pc + 1) (fun pcₚ => rec μ d pcₚ ls st σ k pa cells slots))
    | _ => none
  | .arraylength => match st with
    | .ref a :: st => match rat σ a with
      | some (.inr q) => match Nat.ble q.2.1 1000000 && Nat.blt q.1 8 with
        | true => rn (pc + 1) (fun pcₚ => rec μ d pcₚ ls (.int (Int32.ofNat q.2.1) :: st) σ k pa cells slots)
        | false => none
      | _ => none
    | _ => none
  | .newarray ty => match st with
    | n :: st => match ty with
      | .byte => rnewa 0 σ n (fun v σ x => rn (pc + 2) (fun pcₚ => rec μ d pcₚ ls (v :: st) σ k pa (cells + 1) (slots + x)))
      | .int => rnewa 1 σ n (fun v σ x => rn (pc + 2) (fun pcₚ => rec μ d pcₚ ls (v :: st) σ k pa (cells + 1) (slots + x)))
      | .long => rnewa 2 σ n (fun v σ x => rn (pc + 2) (fun pcₚ => rec μ d pcₚ ls (v :: st) σ k pa (cells + 1) (slots + x)))
      | .boolean => rnewa 3 σ n (fun v σ x => rn (pc + 2) (fun pcₚ => rec μ d pcₚ ls (v :: st) σ k pa (cells + 1) (slots + x)))
      | _ => none
    | _ => none
  | .anewarray _ => match st with
    | n :: st => match Nat.ble 4 act.2.1 && Nat.blt act.2.1 7 with
      | true => rnewa act.2.1 σ n (fun v σ x => rn (pc + 3) (fun pcₚ => rec μ d pcₚ ls (v :: st) σ k pa (cells + 1) (slots + x)))
      | false => none
    | _ => none
  | .multianewarray _ _ => match st with
    | .int b :: .int a :: st => match !(decide (b < 0)) && decide (a = 3) with
      | true => rn b.toNatClampNeg (fun x => match Nat.ble x 1000000 with
        | true => rn σ.length (fun n => rn (pc + 4) (fun pcₚ => rec μ d pcₚ ls (.ref n :: st) (σ ++ [.inr (7, 3, .null, [(0, .ref (n + 1)), (1, .ref (n + 2)), (2, .ref (n + 3))]), .inr (1, x, .int 0, []), .inr (1, x, .int 0, []), .inr (1, x, .int 0, [])]) k pa (cells + 4) (slots + (3 + 3 * x))))
        | false => none)
      | false => none
    | _ => none
  | .new _ => rn σ.length (fun a => rn (pc + 3) (fun pcₚ => rec μ d pcₚ ls (.ref a :: st) (σ ++ [.inl (act.2.1, P.2.2.2.2.1 act.2.1)]) k pa (cells + 1) (slots + act.2.2.1)))
  | .invokevirtual _ => match Nat.beq act.1 20 || Nat.beq act.1 21 with
    | true => rinv P.2.1 P.2.2.1 P.2.2.2.2.2.2.2 rec μ d pc ls st σ k pa cells slots act
    | false => none
  | .invokespecial _ => match act.1 with
    | 26 => match st with
      | .ref _ :: st => match Nat.ble (rwords st) 8 with
        | true => rn (pc + 3) (fun pcₚ => rec μ d pcₚ ls st σ k pa cells slots)
        | false => none
      | _ => none
    | _ => match Nat.beq act.1 22 || Nat.beq act.1 23 with
      | true => rinv P.2.1 P.2.2.1 P.2.2.2.2.2.2.2 rec μ d pc ls st σ k pa cells slots act
      | false => none
  | .invokestatic _ => match act.1 with
    | 27 => match st with
      | n :: dp :: a :: sp :: a0 :: st => match Nat.ble (rwords st) 8 with
        | true => rcopy P.2.2.2.2.2.2.1 σ n dp a sp a0 (fun σ => rn (pc + 3) (fun pcₚ => rec μ d pcₚ ls st σ k pa cells slots))
        | false => none
      | _ => none
    | 28 => match st with
      | v :: a :: st => match Nat.ble (rwords st) 8 && Nat.ble 1 d with
        | true => rfill P.2.2.2.2.2.2.1 σ v a (fun σ => rn (pc + 3) (fun pcₚ => rec μ d pcₚ ls st σ k pa cells slots))
        | false => none
      | _ => none
    | 29 => match st with
      | y :: x :: st => match Nat.ble (rwords st) 8 with
        | true => rbr 2 x y pa (fun pa => rn (pc + 3) (fun pcₚ => rec μ d pcₚ ls (y :: st) σ k pa cells slots)) (fun pa => rn (pc + 3) (fun pcₚ => rec μ d pcₚ ls (x :: st) σ k pa cells slots))
        | false => none
      | _ => none
    | 30 => match st with
      | y :: x :: st => match Nat.ble (rwords st) 8 with
        | true => rbr 4 x y pa (fun pa => rn (pc + 3) (fun pcₚ => rec μ d pcₚ ls (y :: st) σ k pa cells slots)) (fun pa => rn (pc + 3) (fun pcₚ => rec μ d pcₚ ls (x :: st) σ k pa cells slots))
        | false => none
      | _ => none
    | _ => match Nat.beq act.1 24 || Nat.beq act.1 25 with
      | true => rinv P.2.1 P.2.2.1 P.2.2.2.2.2.2.2 rec μ d pc ls st σ k pa cells slots act
      | false => none
  | .ireturn => match st with
    | [v] => match risI v with
      | true => some ([], some v, σ, k, pa, cells, slots)
      | false => none
    | _ => none
  | .lreturn => match st with
    | [v] => match risL v with
      | true => some ([], some v, σ, k, pa, cells, slots)
      | false => none
    | _ => none
  | .areturn => match st with
    | [v] => match risR v with
      | true => some ([], some v, σ, k, pa, cells, slots)
      | false => none
    | _ => none
  | .return_ => match st with
    | [] => some ([], none, σ, k, pa, cells, slots)
    | _ => none
  | _ => none
noncomputable def rstep (P : rP) (rec : rF) : rF := fun μ d pc ls st σ k pa cells slots =>
  match P.1 μ pc with
  | none => none
  | some f => rinstr P rec μ d pc ls st σ k pa cells slots f.1 f.2.1 f.2.2
noncomputable def rrun (P : rP) (n : Nat) : rF := Nat.rec (fun _ _ _ _ _ _ _ _ _ _ => none) (fun _ rec => rstep P rec) n


end
section
/-! 12.ev -/
noncomputable def rpar (kn : List rM) : rP := (rfetch, rmaxl, rret, rinit, rdflt, relem, 12, kn)
noncomputable abbrev PP : rP := rpar []

abbrev I (z : Int) : Value := .int (Int32.ofInt z)
abbrev J (z : Int) : Value := .long (Int64.ofInt z)
def Ev (P : rP) (μ d pc : Nat) (ls : rO) (st : List Value) (σ : rS) (c s : Nat) (r : rT) : Prop := ∃ n0, ∀ n, n0 ≤ n → rrun P n μ d pc ls st σ 0 [] c s = some ([], r)
section EV
variable {P : rP} {μ d pc c s : Nat} {ls : rO} {st : List Value} {σ : rS} {r : rT} {len : Nat} {act : rA}
theorem Ev_of {i : Instr} (hf : P.1 μ pc = some (i, len, act)) {n0 : Nat} (h : ∀ n, n0 ≤ n → rinstr P (rrun P n) μ d pc ls st σ 0 [] c s i len act = some ([], r)) : Ev P μ d pc ls st σ c s r := ⟨n0 + 1, fun n hn => by
  obtain ⟨m, rfl⟩ : ∃ m, n = m + 1 := ⟨n - 1, by omega⟩
  show rstep P (rrun P m) μ d pc ls st σ 0 [] c s = _
  unfold rstep
  rw [hf]
  exact h m (by omega)⟩
theorem x_iconst {m : Int} (hf : P.1 μ pc = some (.iconst m, len, act)) (h : Ev P μ d (pc + 1) ls (I m :: st) σ c s r) : Ev P μ d pc ls st σ c s r := by
  obtain ⟨n0, h⟩ := h
  refine Ev_of hf (n0 := n0) (fun n hn => ?_)
  show rci (Int32.ofInt m) (fun v => rn (pc + 1) (fun pcₚ => rrun P n μ d pcₚ ls (.int v :: st) σ 0 [] c s)) = _
  rw [rci_eq, rn_eq]
  exact h n hn
theorem x_bipush {m z : Int} (hf : P.1 μ pc = some (.bipush m, len, act)) (hz : (Int8.ofInt m).toInt32 = Int32.ofInt z) (h : Ev P μ d (pc + 2) ls (I z :: st) σ c s r) : Ev P μ d pc ls st σ c s r := by
  obtain ⟨n0, h⟩ := h
  refine Ev_of hf (n0 := n0) (fun n hn => ?_)
  show rci (Int8.ofInt m).toInt32 (fun v => rn (pc + 2) (fun pcₚ => rrun P n μ d pcₚ ls (.int v :: st) σ 0 [] c s)) = _
  rw [rci_eq, rn_eq, hz]
  exact h n hn
theorem x_sipush {m z : Int} (hf : P.1 μ pc = some (.sipush m, len, act)) (hz : (Int16.ofInt m).toInt32 = Int32.ofInt z) (h : Ev P μ d (pc + 3) ls (I z :: st) σ c s r) : Ev P μ d pc ls st σ c s r := by
  obtain ⟨n0, h⟩ := h
  refine Ev_of hf (n0 := n0) (fun n hn => ?_)
  show rci (Int16.ofInt m).toInt32 (fun v => rn (pc + 3) (fun pcₚ => rrun P n μ d pcₚ ls (.int v :: st) σ 0 [] c s)) = _
  rw [rci_eq, rn_eq, hz]
  exact h n hn
theorem x_ldc {x a b e : Nat} {v : Int32} {z : Int} (hf : P.1 μ pc = some (.ldc x, len, (a, b, e, .int v))) (hz : v = Int32.ofInt z) (h : Ev P μ d (pc + 2) ls (I z :: st) σ c s r) : Ev P μ d pc ls st σ c s r := by
  obtain ⟨n0, h⟩ := h
  refine Ev_of hf (n0 := n0) (fun n hn => ?_)
  show rn (pc + 2) (fun pcₚ => rrun P n μ d pcₚ ls (.int v :: st) σ 0 [] c s) = _
  rw [rn_eq, hz]
  exact h n hn
theorem x_ldc_w {x a b e : Nat} {v : Int32} {z : Int} (hf : P.1 μ pc = some (.ldc_w x, len, (a, b, e, .int v))) (hz : v = Int32.ofInt z) (h : Ev P μ d (pc + 3) ls (I z :: st) σ c s r) : Ev P μ d pc ls st σ c s r := by
  obtain ⟨n0, h⟩ := h
  refine Ev_of hf (n0 := n0) (fun n hn => ?_)
  show rn (pc + 3) (fun pcₚ => rrun P n μ d pcₚ ls (.int v :: st) σ 0 [] c s) = _
  rw [rn_eq, hz]
  exact h n hn
theorem x_ldc2 {x a b e : Nat} {v : Int64} {z : Int} (hf : P.1 μ pc = some (.ldc2_w x, len, (a, b, e, .long v))) (hz : v = Int64.ofInt z) (h : Ev P μ d (pc + 3) ls (J z :: st) σ c s r) : Ev P μ d pc ls st σ c s r := by
  obtain ⟨n0, h⟩ := h
  refine Ev_of hf (n0 := n0) (fun n hn => ?_)
  show rn (pc + 3) (fun pcₚ => rrun P n μ d pcₚ ls (.long v :: st) σ 0 [] c s) = _
  rw [rn_eq, hz]
  exact h n hn
theorem x_lconst {m : Fin 2} {z : Int} (hf : P.1 μ pc = some (.lconst m, len, act)) (hz : Int64.ofNat (m : Nat) = Int64.ofInt z) (h : Ev P μ d (pc + 1) ls (J z :: st) σ c s r) : Ev P μ d pc ls st σ c s r := by
  obtain ⟨n0, h⟩ := h
  refine Ev_of hf (n0 := n0) (fun n hn => ?_)
  show rcl (Int64.ofNat (m : Nat)) (fun v => rn (pc + 1) (fun pcₚ => rrun P n μ d pcₚ ls (.long v :: st) σ 0 [] c s)) = _
  rw [rcl_eq, rn_eq, hz]
  exact h n hn
theorem x_null  (hf : P.1 μ pc = some (.aconst_null, len, act)) (h : Ev P μ d (pc + 1) ls (.null :: st) σ c s r) : Ev P μ d pc ls st σ c s r := by
  obtain ⟨n0, h⟩ := h
  refine Ev_of hf (n0 := n0) (fun n hn => ?_)
  show rn (pc + 1) (fun pcₚ => rrun P n μ d pcₚ ls (.null :: st) σ 0 [] c s) = _
  rw [rn_eq]
  exact h n hn
theorem x_iload {i : Nat} {v : Int32} (hf : P.1 μ pc = some (.iload i, len, act)) (hl : rlook ls i = some (.int v)) (h : Ev P μ d (pc + 2) ls ((.int v) :: st) σ c s r) : Ev P μ d pc ls st σ c s r := by
  obtain ⟨n0, h⟩ := h
  refine Ev_of hf (n0 := n0) (fun n hn => ?_)
  show rload ls i risI (fun v => rn (pc + 2) (fun pcₚ => rrun P n μ d pcₚ ls (v :: st) σ 0 [] c s)) = _
  unfold rload
  rw [hl]
  show rn (pc + 2) (fun pcₚ => rrun P n μ d pcₚ ls ((.int v) :: st) σ 0 [] c s) = _
  rw [rn_eq]
  exact h n hn
theorem x_istore {i : Nat} {v : Int32} (hf : P.1 μ pc = some (.istore i, len, act)) (h : Ev P μ d (pc + 2) (rset ls i (.int v)) st σ c s r) : Ev P μ d pc ls ((.int v) :: st) σ c s r := by
  obtain ⟨n0, h⟩ := h
  refine Ev_of hf (n0 := n0) (fun n hn => ?_)
  show rn (pc + 2) (fun pcₚ => rrun P n μ d pcₚ (rset ls i (.int v)) st σ 0 [] c s) = _
  rw [rn_eq]
  exact h n hn
theorem x_iload_n {i : Fin 4} {v : Int32} (hf : P.1 μ pc = some (.iload_n i, len, act)) (hl : rlook ls i = some (.int v)) (h : Ev P μ d (pc + 1) ls ((.int v) :: st) σ c s r) : Ev P μ d pc ls st σ c s r := by
  obtain ⟨n0, h⟩ := h
  refine Ev_of hf (n0 := n0) (fun n hn => ?_)
  show rload ls i risI (fun v => rn (pc + 1) (fun pcₚ => rrun P n μ d pcₚ ls (v :: st) σ 0 [] c s)) = _
  unfold rload
  rw [hl]
  show rn (pc + 1) (fun pcₚ => rrun P n μ d pcₚ ls ((.int v) :: st) σ 0 [] c s) = _
  rw [rn_eq]
  exact h n hn
theorem x_istore_n {i : Fin 4} {v : Int32} (hf : P.1 μ pc = some (.istore_n i, len, act)) (h : Ev P μ d (pc + 1) (rset ls i (.int v)) st σ c s r) : Ev P μ d pc ls ((.int v) :: st) σ c s r := by
  obtain ⟨n0, h⟩ := h
  refine Ev_of hf (n0 := n0) (fun n hn => ?_)
  show rn (pc + 1) (fun pcₚ => rrun P n μ d pcₚ (rset ls i (.int v)) st σ 0 [] c s) = _
  rw [rn_eq]
  exact h n hn
theorem x_lload {i : Nat} {v : Int64} (hf : P.1 μ pc = some (.lload i, len, act)) (hl : rlook ls i = some (.long v)) (h : Ev P μ d (pc + 2) ls ((.long v) :: st) σ c s r) : Ev P μ d pc ls st σ c s r := by
  obtain ⟨n0, h⟩ := h
  refine Ev_of hf (n0 := n0) (fun n hn => ?_)
  show rload ls i risL (fun v => rn (pc + 2) (fun pcₚ => rrun P n μ d pcₚ ls (v :: st) σ 0 [] c s)) = _
  unfold rload
  rw [hl]
  show rn (pc + 2) (fun pcₚ => rrun P n μ d pcₚ ls ((.long v) :: st) σ 0 [] c s) = _
  rw [rn_eq]
  exact h n hn
theorem x_lstore {i : Nat} {v : Int64} (hf : P.1 μ pc = some (.lstore i, len, act)) (h : Ev P μ d (pc + 2) (rset2 ls i (.long v)) st σ c s r) : Ev P μ d pc ls ((.long v) :: st) σ c s r := by
  obtain ⟨n0, h⟩ := h
  refine Ev_of hf (n0 := n0) (fun n hn => ?_)
  show rn (pc + 2) (fun pcₚ => rrun P n μ d pcₚ (rset2 ls i (.long v)) st σ 0 [] c s) = _
  rw [rn_eq]
  exact h n hn
theorem x_lload_n {i : Fin 4} {v : Int64} (hf : P.1 μ pc = some (.lload_n i, len, act)) (hl : rlook ls i = some (.long v)) (h : Ev P μ d (pc + 1) ls ((.long v) :: st) σ c s r) : Ev P μ d pc ls st σ c s r := by
  obtain ⟨n0, h⟩ := h
  refine Ev_of hf (n0 := n0) (fun n hn => ?_)
  show rload ls i risL (fun v => rn (pc + 1) (fun pcₚ => rrun P n μ d pcₚ ls (v :: st) σ 0 [] c s)) = _
  unfold rload
  rw [hl]
  show rn (pc + 1) (fun pcₚ => rrun P n μ d pcₚ ls ((.long v) :: st) σ 0 [] c s) = _
  rw [rn_eq]
  exact h n hn
theorem x_lstore_n {i : Fin 4} {v : Int64} (hf : P.1 μ pc = some (.lstore_n i, len, act)) (h : Ev P μ d (pc + 1) (rset2 ls i (.long v)) st σ c s r) : Ev P μ d pc ls ((.long v) :: st) σ c s r := by
  obtain ⟨n0, h⟩ := h
  refine Ev_of hf (n0 := n0) (fun n hn => ?_)
  show rn (pc + 1) (fun pcₚ => rrun P n μ d pcₚ (rset2 ls i (.long v)) st σ 0 [] c s) = _
  rw [rn_eq]
  exact h n hn
theorem x_aload {i : Nat} {v : Nat} (hf : P.1 μ pc = some (.aload i, len, act)) (hl : rlook ls i = some (.ref v)) (h : Ev P μ d (pc + 2) ls ((.ref v) :: st) σ c s r) : Ev P μ d pc ls st σ c s r := by
  obtain ⟨n0, h⟩ := h
  refine Ev_of hf (n0 := n0) (fun n hn => ?_)
  show rload ls i risR (fun v => rn (pc + 2) (fun pcₚ => rrun P n μ d pcₚ ls (v :: st) σ 0 [] c s)) = _
  unfold rload
  rw [hl]
  show rn (pc + 2) (fun pcₚ => rrun P n μ d pcₚ ls ((.ref v) :: st) σ 0 [] c s) = _
  rw [rn_eq]
  exact h n hn
theorem x_astore {i : Nat} {v : Nat} (hf : P.1 μ pc = some (.astore i, len, act)) (h : Ev P μ d (pc + 2) (rset ls i (.ref v)) st σ c s r) : Ev P μ d pc ls ((.ref v) :: st) σ c s r := by
  obtain ⟨n0, h⟩ := h
  refine Ev_of hf (n0 := n0) (fun n hn => ?_)
  show rn (pc + 2) (fun pcₚ => rrun P n μ d pcₚ (rset ls i (.ref v)) st σ 0 [] c s) = _
  rw [rn_eq]
  exact h n hn
theorem x_aload_n {i : Fin 4} {v : Nat} (hf : P.1 μ pc = some (.aload_n i, len, act)) (hl : rlook ls i = some (.ref v)) (h : Ev P μ d (pc + 1) ls ((.ref v) :: st) σ c s r) : Ev P μ d pc ls st σ c s r := by
  obtain ⟨n0, h⟩ := h
  refine Ev_of hf (n0 := n0) (fun n hn => ?_)
  show rload ls i risR (fun v => rn (pc + 1) (fun pcₚ => rrun P n μ d pcₚ ls (v :: st) σ 0 [] c s)) = _
  unfold rload
  rw [hl]
  show rn (pc + 1) (fun pcₚ => rrun P n μ d pcₚ ls ((.ref v) :: st) σ 0 [] c s) = _
  rw [rn_eq]
  exact h n hn
theorem x_astore_n {i : Fin 4} {v : Nat} (hf : P.1 μ pc = some (.astore_n i, len, act)) (h : Ev P μ d (pc + 1) (rset ls i (.ref v)) st σ c s r) : Ev P μ d pc ls ((.ref v) :: st) σ c s r := by
  obtain ⟨n0, h⟩ := h
  refine Ev_of hf (n0 := n0) (fun n hn => ?_)
  show rn (pc + 1) (fun pcₚ => rrun P n μ d pcₚ (rset ls i (.ref v)) st σ 0 [] c s) = _
  rw [rn_eq]
  exact h n hn
theorem x_iinc {i : Nat} {m z : Int} (hf : P.1 μ pc = some (.iinc i m, len, act)) (hl : rlook ls i = some (I z)) (h : Ev P μ d (pc + len) (rset ls i (I (z + m))) st σ c s r) : Ev P μ d pc ls st σ c s r := by
  obtain ⟨n0, h⟩ := h
  refine Ev_of hf (n0 := n0) (fun n hn => ?_)
  show (match rlook ls i with | some v => rbin 0 v (.int (Int32.ofInt m)) 0 (fun v k => rn (pc + len) (fun pcₚ => rrun P n μ d pcₚ (rset ls i v) st σ k [] c s)) | none => none) = _
  rw [hl]
  show rci (Int32.ofInt z + Int32.ofInt m) (fun w => rn (pc + len) (fun pcₚ => rrun P n μ d pcₚ (rset ls i (.int w)) st σ 0 [] c s)) = _
  rw [rci_eq, rn_eq, ← Int32.ofInt_add]
  exact h n hn
theorem x_iadd {a b : Int32} {z : Int} (hf : P.1 μ pc = some (.iadd, len, act)) (hz : rop 0 a b = Int32.ofInt z) (h : Ev P μ d (pc + 1) ls (I z :: st) σ c s r) : Ev P μ d pc ls (.int b :: .int a :: st) σ c s r := by
  obtain ⟨n0, h⟩ := h
  refine Ev_of hf (n0 := n0) (fun n hn => ?_)
  show rci (rop 0 a b) (fun v => rn (pc + 1) (fun pcₚ => rrun P n μ d pcₚ ls (.int v :: st) σ 0 [] c s)) = _
  rw [rci_eq, rn_eq, hz]
  exact h n hn
theorem x_isub {a b : Int32} {z : Int} (hf : P.1 μ pc = some (.isub, len, act)) (hz : rop 1 a b = Int32.ofInt z) (h : Ev P μ d (pc + 1) ls (I z :: st) σ c s r) : Ev P μ d pc ls (.int b :: .int a :: st) σ c s r := by
  obtain ⟨n0, h⟩ := h
  refine Ev_of hf (n0 := n0) (fun n hn => ?_)
  show rci (rop 1 a b) (fun v => rn (pc + 1) (fun pcₚ => rrun P n μ d pcₚ ls (.int v :: st) σ 0 [] c s)) = _
  rw [rci_eq, rn_eq, hz]
  exact h n hn
theorem x_imul {a b : Int32} {z : Int} (hf : P.1 μ pc = some (.imul, len, act)) (hz : rop 2 a b = Int32.ofInt z) (h : Ev P μ d (pc + 1) ls (I z :: st) σ c s r) : Ev P μ d pc ls (.int b :: .int a :: st) σ c s r := by
  obtain ⟨n0, h⟩ := h
  refine Ev_of hf (n0 := n0) (fun n hn => ?_)
  show rci (rop 2 a b) (fun v => rn (pc + 1) (fun pcₚ => rrun P n μ d pcₚ ls (.int v :: st) σ 0 [] c s)) = _
  rw [rci_eq, rn_eq, hz]
  exact h n hn
theorem x_iand {a b : Int32} {z : Int} (hf : P.1 μ pc = some (.iand, len, act)) (hz : rop 3 a b = Int32.ofInt z) (h : Ev P μ d (pc + 1) ls (I z :: st) σ c s r) : Ev P μ d pc ls (.int b :: .int a :: st) σ c s r := by
  obtain ⟨n0, h⟩ := h
  refine Ev_of hf (n0 := n0) (fun n hn => ?_)
  show rci (rop 3 a b) (fun v => rn (pc + 1) (fun pcₚ => rrun P n μ d pcₚ ls (.int v :: st) σ 0 [] c s)) = _
  rw [rci_eq, rn_eq, hz]
  exact h n hn
theorem x_ior {a b : Int32} {z : Int} (hf : P.1 μ pc = some (.ior, len, act)) (hz : rop 4 a b = Int32.ofInt z) (h : Ev P μ d (pc + 1) ls (I z :: st) σ c s r) : Ev P μ d pc ls (.int b :: .int a :: st) σ c s r := by
  obtain ⟨n0, h⟩ := h
  refine Ev_of hf (n0 := n0) (fun n hn => ?_)
  show rci (rop 4 a b) (fun v => rn (pc + 1) (fun pcₚ => rrun P n μ d pcₚ ls (.int v :: st) σ 0 [] c s)) = _
  rw [rci_eq, rn_eq, hz]
  exact h n hn
theorem x_ixor {a b : Int32} {z : Int} (hf : P.1 μ pc = some (.ixor, len, act)) (hz : rop 5 a b = Int32.ofInt z) (h : Ev P μ d (pc + 1) ls (I z :: st) σ c s r) : Ev P μ d pc ls (.int b :: .int a :: st) σ c s r := by
  obtain ⟨n0, h⟩ := h
  refine Ev_of hf (n0 := n0) (fun n hn => ?_)
  show rci (rop 5 a b) (fun v => rn (pc + 1) (fun pcₚ => rrun P n μ d pcₚ ls (.int v :: st) σ 0 [] c s)) = _
  rw [rci_eq, rn_eq, hz]
  exact h n hn
theorem x_ishl {a b : Int32} {z : Int} (hf : P.1 μ pc = some (.ishl, len, act)) (hz : rop 6 a b = Int32.ofInt z) (h : Ev P μ d (pc + 1) ls (I z :: st) σ c s r) : Ev P μ d pc ls (.int b :: .int a :: st) σ c s r := by
  obtain ⟨n0, h⟩ := h
  refine Ev_of hf (n0 := n0) (fun n hn => ?_)
  show rci (rop 6 a b) (fun v => rn (pc + 1) (fun pcₚ => rrun P n μ d pcₚ ls (.int v :: st) σ 0 [] c s)) = _
  rw [rci_eq, rn_eq, hz]
  exact h n hn
theorem x_ishr {a b : Int32} {z : Int} (hf : P.1 μ pc = some (.ishr, len, act)) (hz : rop 7 a b = Int32.ofInt z) (h : Ev P μ d (pc + 1) ls (I z :: st) σ c s r) : Ev P μ d pc ls (.int b :: .int a :: st) σ c s r := by
  obtain ⟨n0, h⟩ := h
  refine Ev_of hf (n0 := n0) (fun n hn => ?_)
  show rci (rop 7 a b) (fun v => rn (pc + 1) (fun pcₚ => rrun P n μ d pcₚ ls (.int v :: st) σ 0 [] c s)) = _
  rw [rci_eq, rn_eq, hz]
  exact h n hn
theorem x_iushr {a b : Int32} {z : Int} (hf : P.1 μ pc = some (.iushr, len, act)) (hz : rop 8 a b = Int32.ofInt z) (h : Ev P μ d (pc + 1) ls (I z :: st) σ c s r) : Ev P μ d pc ls (.int b :: .int a :: st) σ c s r := by
  obtain ⟨n0, h⟩ := h
  refine Ev_of hf (n0 := n0) (fun n hn => ?_)
  show rci (rop 8 a b) (fun v => rn (pc + 1) (fun pcₚ => rrun P n μ d pcₚ ls (.int v :: st) σ 0 [] c s)) = _
  rw [rci_eq, rn_eq, hz]
  exact h n hn
theorem x_idiv {a b : Int32} {z : Int} (hf : P.1 μ pc = some (.idiv, len, act)) (hb : decide (b = 0) = false) (hz : rop 9 a b = Int32.ofInt z) (h : Ev P μ d (pc + 1) ls (I z :: st) σ c s r) : Ev P μ d pc ls (.int b :: .int a :: st) σ c s r := by
  obtain ⟨n0, h⟩ := h
  refine Ev_of hf (n0 := n0) (fun n hn => ?_)
  show rdiv 9 (.int a) (.int b) 0 (fun v k => rn (pc + 1) (fun pcₚ => rrun P n μ d pcₚ ls (v :: st) σ k [] c s)) = _
  unfold rdiv
  simp only [hb]
  show rci (rop 9 a b) (fun v => rn (pc + 1) (fun pcₚ => rrun P n μ d pcₚ ls (.int v :: st) σ 0 [] c s)) = _
  rw [rci_eq, rn_eq, hz]
  exact h n hn
theorem x_irem {a b : Int32} {z : Int} (hf : P.1 μ pc = some (.irem, len, act)) (hb : decide (b = 0) = false) (hz : rop 10 a b = Int32.ofInt z) (h : Ev P μ d (pc + 1) ls (I z :: st) σ c s r) : Ev P μ d pc ls (.int b :: .int a :: st) σ c s r := by
  obtain ⟨n0, h⟩ := h
  refine Ev_of hf (n0 := n0) (fun n hn => ?_)
  show rdiv 10 (.int a) (.int b) 0 (fun v k => rn (pc + 1) (fun pcₚ => rrun P n μ d pcₚ ls (v :: st) σ k [] c s)) = _
  unfold rdiv
  simp only [hb]
  show rci (rop 10 a b) (fun v => rn (pc + 1) (fun pcₚ => rrun P n μ d pcₚ ls (.int v :: st) σ 0 [] c s)) = _
  rw [rci_eq, rn_eq, hz]
  exact h n hn
theorem x_ineg {a : Int32} {z : Int} (hf : P.1 μ pc = some (.ineg, len, act)) (hz : ruop 0 a = Int32.ofInt z) (h : Ev P μ d (pc + 1) ls (I z :: st) σ c s r) : Ev P μ d pc ls (.int a :: st) σ c s r := by
  obtain ⟨n0, h⟩ := h
  refine Ev_of hf (n0 := n0) (fun n hn => ?_)
  show rci (ruop 0 a) (fun v => rn (pc + 1) (fun pcₚ => rrun P n μ d pcₚ ls (.int v :: st) σ 0 [] c s)) = _
  rw [rci_eq, rn_eq, hz]
  exact h n hn
theorem x_i2b {a : Int32} {z : Int} (hf : P.1 μ pc = some (.i2b, len, act)) (hz : ruop 1 a = Int32.ofInt z) (h : Ev P μ d (pc + 1) ls (I z :: st) σ c s r) : Ev P μ d pc ls (.int a :: st) σ c s r := by
  obtain ⟨n0, h⟩ := h
  refine Ev_of hf (n0 := n0) (fun n hn => ?_)
  show rci (ruop 1 a) (fun v => rn (pc + 1) (fun pcₚ => rrun P n μ d pcₚ ls (.int v :: st) σ 0 [] c s)) = _
  rw [rci_eq, rn_eq, hz]
  exact h n hn
theorem x_ladd {a b : Int64} {z : Int} (hf : P.1 μ pc = some (.ladd, len, act)) (hz : rlop 0 a b = Int64.ofInt z) (h : Ev P μ d (pc + 1) ls (J z :: st) σ c s r) : Ev P μ d pc ls (.long b :: .long a :: st) σ c s r := by
  obtain ⟨n0, h⟩ := h
  refine Ev_of hf (n0 := n0) (fun n hn => ?_)
  show rcl (rlop 0 a b) (fun v => rn (pc + 1) (fun pcₚ => rrun P n μ d pcₚ ls (.long v :: st) σ 0 [] c s)) = _
  rw [rcl_eq, rn_eq, hz]
  exact h n hn
theorem x_lsub {a b : Int64} {z : Int} (hf : P.1 μ pc = some (.lsub, len, act)) (hz : rlop 1 a b = Int64.ofInt z) (h : Ev P μ d (pc + 1) ls (J z :: st) σ c s r) : Ev P μ d pc ls (.long b :: .long a :: st) σ c s r := by
  obtain ⟨n0, h⟩ := h
  refine Ev_of hf (n0 := n0) (fun n hn => ?_)
  show rcl (rlop 1 a b) (fun v => rn (pc + 1) (fun pcₚ => rrun P n μ d pcₚ ls (.long v :: st) σ 0 [] c s)) = _
  rw [rcl_eq, rn_eq, hz]
  exact h n hn
theorem x_lmul {a b : Int64} {z : Int} (hf : P.1 μ pc = some (.lmul, len, act)) (hz : rlop 2 a b = Int64.ofInt z) (h : Ev P μ d (pc + 1) ls (J z :: st) σ c s r) : Ev P μ d pc ls (.long b :: .long a :: st) σ c s r := by
  obtain ⟨n0, h⟩ := h
  refine Ev_of hf (n0 := n0) (fun n hn => ?_)
  show rcl (rlop 2 a b) (fun v => rn (pc + 1) (fun pcₚ => rrun P n μ d pcₚ ls (.long v :: st) σ 0 [] c s)) = _
  rw [rcl_eq, rn_eq, hz]
  exact h n hn
theorem x_land {a b : Int64} {z : Int} (hf : P.1 μ pc = some (.land, len, act)) (hz : rlop 3 a b = Int64.ofInt z) (h : Ev P μ d (pc + 1) ls (J z :: st) σ c s r) : Ev P μ d pc ls (.long b :: .long a :: st) σ c s r := by
  obtain ⟨n0, h⟩ := h
  refine Ev_of hf (n0 := n0) (fun n hn => ?_)
  show rcl (rlop 3 a b) (fun v => rn (pc + 1) (fun pcₚ => rrun P n μ d pcₚ ls (.long v :: st) σ 0 [] c s)) = _
  rw [rcl_eq, rn_eq, hz]
  exact h n hn
theorem x_lor {a b : Int64} {z : Int} (hf : P.1 μ pc = some (.lor, len, act)) (hz : rlop 4 a b = Int64.ofInt z) (h : Ev P μ d (pc + 1) ls (J z :: st) σ c s r) : Ev P μ d pc ls (.long b :: .long a :: st) σ c s r := by
  obtain ⟨n0, h⟩ := h
  refine Ev_of hf (n0 := n0) (fun n hn => ?_)
  show rcl (rlop 4 a b) (fun v => rn (pc + 1) (fun pcₚ => rrun P n μ d pcₚ ls (.long v :: st) σ 0 [] c s)) = _
  rw [rcl_eq, rn_eq, hz]
  exact h n hn
theorem x_lxor {a b : Int64} {z : Int} (hf : P.1 μ pc = some (.lxor, len, act)) (hz : rlop 5 a b = Int64.ofInt z) (h : Ev P μ d (pc + 1) ls (J z :: st) σ c s r) : Ev P μ d pc ls (.long b :: .long a :: st) σ c s r := by
  obtain ⟨n0, h⟩ := h
  refine Ev_of hf (n0 := n0) (fun n hn => ?_)
  show rcl (rlop 5 a b) (fun v => rn (pc + 1) (fun pcₚ => rrun P n μ d pcₚ ls (.long v :: st) σ 0 [] c s)) = _
  rw [rcl_eq, rn_eq, hz]
  exact h n hn
theorem x_lshl {a : Int64} {b : Int32} {z : Int} (hf : P.1 μ pc = some (.lshl, len, act)) (hz : rsop 0 a b = Int64.ofInt z) (h : Ev P μ d (pc + 1) ls (J z :: st) σ c s r) : Ev P μ d pc ls (.int b :: .long a :: st) σ c s r := by
  obtain ⟨n0, h⟩ := h
  refine Ev_of hf (n0 := n0) (fun n hn => ?_)
  show rcl (rsop 0 a b) (fun v => rn (pc + 1) (fun pcₚ => rrun P n μ d pcₚ ls (.long v :: st) σ 0 [] c s)) = _
  rw [rcl_eq, rn_eq, hz]
  exact h n hn
theorem x_lshr {a : Int64} {b : Int32} {z : Int} (hf : P.1 μ pc = some (.lshr, len, act)) (hz : rsop 1 a b = Int64.ofInt z) (h : Ev P μ d (pc + 1) ls (J z :: st) σ c s r) : Ev P μ d pc ls (.int b :: .long a :: st) σ c s r := by
  obtain ⟨n0, h⟩ := h
  refine Ev_of hf (n0 := n0) (fun n hn => ?_)
  show rcl (rsop 1 a b) (fun v => rn (pc + 1) (fun pcₚ => rrun P n μ d pcₚ ls (.long v :: st) σ 0 [] c s)) = _
  rw [rcl_eq, rn_eq, hz]
  exact h n hn
theorem x_lushr {a : Int64} {b : Int32} {z : Int} (hf : P.1 μ pc = some (.lushr, len, act)) (hz : rsop 2 a b = Int64.ofInt z) (h : Ev P μ d (pc + 1) ls (J z :: st) σ c s r) : Ev P μ d pc ls (.int b :: .long a :: st) σ c s r := by
  obtain ⟨n0, h⟩ := h
  refine Ev_of hf (n0 := n0) (fun n hn => ?_)
  show rcl (rsop 2 a b) (fun v => rn (pc + 1) (fun pcₚ => rrun P n μ d pcₚ ls (.long v :: st) σ 0 [] c s)) = _
  rw [rcl_eq, rn_eq, hz]
  exact h n hn
theorem x_i2l {a : Int32} {z : Int} (hf : P.1 μ pc = some (.i2l, len, act)) (hz : a.toInt64 = Int64.ofInt z) (h : Ev P μ d (pc + 1) ls (J z :: st) σ c s r) : Ev P μ d pc ls (.int a :: st) σ c s r := by
  obtain ⟨n0, h⟩ := h
  refine Ev_of hf (n0 := n0) (fun n hn => ?_)
  show rcl a.toInt64 (fun v => rn (pc + 1) (fun pcₚ => rrun P n μ d pcₚ ls (.long v :: st) σ 0 [] c s)) = _
  rw [rcl_eq, rn_eq, hz]
  exact h n hn
theorem x_l2i {a : Int64} {z : Int} (hf : P.1 μ pc = some (.l2i, len, act)) (hz : a.toInt32 = Int32.ofInt z) (h : Ev P μ d (pc + 1) ls (I z :: st) σ c s r) : Ev P μ d pc ls (.long a :: st) σ c s r := by
  obtain ⟨n0, h⟩ := h
  refine Ev_of hf (n0 := n0) (fun n hn => ?_)
  show rci a.toInt32 (fun v => rn (pc + 1) (fun pcₚ => rrun P n μ d pcₚ ls (.int v :: st) σ 0 [] c s)) = _
  rw [rci_eq, rn_eq, hz]
  exact h n hn
theorem x_lcmp {a b : Int64} {z : Int} (hf : P.1 μ pc = some (.lcmp, len, act)) (hz : lg_cmp a b = Int32.ofInt z) (h : Ev P μ d (pc + 1) ls (I z :: st) σ c s r) : Ev P μ d pc ls (.long b :: .long a :: st) σ c s r := by
  obtain ⟨n0, h⟩ := h
  refine Ev_of hf (n0 := n0) (fun n hn => ?_)
  show rci (lg_cmp a b) (fun v => rn (pc + 1) (fun pcₚ => rrun P n μ d pcₚ ls (.int v :: st) σ 0 [] c s)) = _
  rw [rci_eq, rn_eq, hz]
  exact h n hn
theorem x_dup {x : Value} (hf : P.1 μ pc = some (.dup, len, act)) (hx : Nat.beq x.category 1 = true) (h : Ev P μ d (pc + 1) ls (x :: x :: st) σ c s r) : Ev P μ d pc ls (x :: st) σ c s r := by
  obtain ⟨n0, h⟩ := h
  refine Ev_of hf (n0 := n0) (fun n hn => ?_)
  show (match Nat.beq x.category 1 with | true => _ | false => _) = _
  rw [hx]
  show rn (pc + 1) (fun pcₚ => rrun P n μ d pcₚ ls (x :: x :: st) σ 0 [] c s) = _
  rw [rn_eq]
  exact h n hn
theorem x_dup_x1 {x y : Value} (hf : P.1 μ pc = some (.dup_x1, len, act)) (hx : (Nat.beq x.category 1 && Nat.beq y.category 1) = true) (h : Ev P μ d (pc + 1) ls (x :: y :: x :: st) σ c s r) : Ev P μ d pc ls (x :: y :: st) σ c s r := by
  obtain ⟨n0, h⟩ := h
  refine Ev_of hf (n0 := n0) (fun n hn => ?_)
  show (match Nat.beq x.category 1 && Nat.beq y.category 1 with | true => _ | false => _) = _
  rw [hx]
  show rn (pc + 1) (fun pcₚ => rrun P n μ d pcₚ ls (x :: y :: x :: st) σ 0 [] c s) = _
  rw [rn_eq]
  exact h n hn
theorem x_dup2 {x y : Value} (hf : P.1 μ pc = some (.dup2, len, act)) (hx : Nat.beq x.category 1 = true) (hy : Nat.beq y.category 1 = true) (h : Ev P μ d (pc + 1) ls (x :: y :: x :: y :: st) σ c s r) : Ev P μ d pc ls (x :: y :: st) σ c s r := by
  obtain ⟨n0, h⟩ := h
  refine Ev_of hf (n0 := n0) (fun n hn => ?_)
  show (match Nat.beq x.category 1 with | false => _ | true => (match Nat.beq y.category 1 with | true => _ | false => _)) = _
  rw [hx, hy]
  show rn (pc + 1) (fun pcₚ => rrun P n μ d pcₚ ls (x :: y :: x :: y :: st) σ 0 [] c s) = _
  rw [rn_eq]
  exact h n hn
theorem x_pop {x : Value} (hf : P.1 μ pc = some (.pop, len, act)) (hx : Nat.beq x.category 1 = true) (h : Ev P μ d (pc + 1) ls st σ c s r) : Ev P μ d pc ls (x :: st) σ c s r := by
  obtain ⟨n0, h⟩ := h
  refine Ev_of hf (n0 := n0) (fun n hn => ?_)
  show (match Nat.beq x.category 1 with | true => _ | false => _) = _
  rw [hx]
  show rn (pc + 1) (fun pcₚ => rrun P n μ d pcₚ ls st σ 0 [] c s) = _
  rw [rn_eq]
  exact h n hn
theorem x_lneg {a : Int64} {z : Int} (hf : P.1 μ pc = some (.lneg, len, act)) (hz : -a = Int64.ofInt z) (h : Ev P μ d (pc + 1) ls (J z :: st) σ c s r) : Ev P μ d pc ls (.long a :: st) σ c s r := by
  obtain ⟨n0, h⟩ := h
  refine Ev_of hf (n0 := n0) (fun n hn => ?_)
  show rcl (-a) (fun v => rn (pc + 1) (fun pcₚ => rrun P n μ d pcₚ ls (.long v :: st) σ 0 [] c s)) = _
  rw [rcl_eq, rn_eq, hz]
  exact h n hn
theorem x_pop2 {v : Int64} (hf : P.1 μ pc = some (.pop2, len, act)) (h : Ev P μ d (pc + 1) ls st σ c s r) : Ev P μ d pc ls (.long v :: st) σ c s r := by
  obtain ⟨n0, h⟩ := h
  refine Ev_of hf (n0 := n0) (fun n hn => ?_)
  show rn (pc + 1) (fun pcₚ => rrun P n μ d pcₚ ls st σ 0 [] c s) = _
  rw [rn_eq]
  exact h n hn
theorem x_goto {off : Int} {t : Nat} (hf : P.1 μ pc = some (.goto off, len, act)) (ht : (pc : Int) + off = Int.ofNat t) (h : Ev P μ d t ls st σ c s r) : Ev P μ d pc ls st σ c s r := by
  obtain ⟨n0, h⟩ := h
  refine Ev_of hf (n0 := n0) (fun n hn => ?_)
  show rjmp pc off (fun pcₚ => rrun P n μ d pcₚ ls st σ 0 [] c s) = _
  unfold rjmp
  rw [ht]
  show rn t _ = _
  rw [rn_eq]
  exact h n hn
theorem x_icmp_t {k : ClassFile.Cond} {off : Int} {t : Nat} {x y : Int32} (hf : P.1 μ pc = some (.if_icmp k off, len, act)) (ht : (pc : Int) + off = Int.ofNat t) (hb : rcmp (rcond k) x y = true) (h : Ev P μ d t ls st σ c s r) : Ev P μ d pc ls (.int y :: .int x :: st) σ c s r := by
  obtain ⟨n0, h⟩ := h
  refine Ev_of hf (n0 := n0) (fun n hn => ?_)
  show rjmp pc off (fun t => rbr (rcond k) (.int x) (.int y) [] (fun pa => rrun P n μ d t ls st σ 0 pa c s) (fun pa => rn (pc + 3) (fun pcₚ => rrun P n μ d pcₚ ls st σ 0 pa c s))) = _
  unfold rjmp
  rw [ht]
  show rn t _ = _
  rw [rn_eq]
  unfold rbr
  show (match rcmp (rcond k) x y with | true => _ | false => _) = _
  rw [hb]
  exact h n hn
theorem x_icmp_f {k : ClassFile.Cond} {off : Int} {t : Nat} {x y : Int32} (hf : P.1 μ pc = some (.if_icmp k off, len, act)) (ht : (pc : Int) + off = Int.ofNat t) (hb : rcmp (rcond k) x y = false) (h : Ev P μ d (pc + 3) ls st σ c s r) : Ev P μ d pc ls (.int y :: .int x :: st) σ c s r := by
  obtain ⟨n0, h⟩ := h
  refine Ev_of hf (n0 := n0) (fun n hn => ?_)
  show rjmp pc off (fun t => rbr (rcond k) (.int x) (.int y) [] (fun pa => rrun P n μ d t ls st σ 0 pa c s) (fun pa => rn (pc + 3) (fun pcₚ => rrun P n μ d pcₚ ls st σ 0 pa c s))) = _
  unfold rjmp
  rw [ht]
  show rn t _ = _
  rw [rn_eq]
  unfold rbr
  show (match rcmp (rcond k) x y with | true => _ | false => _) = _
  rw [hb]
  show rn (pc + 3) _ = _
  rw [rn_eq]
  exact h n hn
theorem x_ifc_t {k : ClassFile.Cond} {off : Int} {t : Nat} {x : Int32} (hf : P.1 μ pc = some (.ifCond k off, len, act)) (ht : (pc : Int) + off = Int.ofNat t) (hb : rcmp (rcond k) x 0 = true) (h : Ev P μ d t ls st σ c s r) : Ev P μ d pc ls (.int x :: st) σ c s r := by
  obtain ⟨n0, h⟩ := h
  refine Ev_of hf (n0 := n0) (fun n hn => ?_)
  show rjmp pc off (fun t => rbr (rcond k) (.int x) (.int 0) [] (fun pa => rrun P n μ d t ls st σ 0 pa c s) (fun pa => rn (pc + 3) (fun pcₚ => rrun P n μ d pcₚ ls st σ 0 pa c s))) = _
  unfold rjmp
  rw [ht]
  show rn t _ = _
  rw [rn_eq]
  unfold rbr
  show (match rcmp (rcond k) x 0 with | true => _ | false => _) = _
  rw [hb]
  exact h n hn
theorem x_ifc_f {k : ClassFile.Cond} {off : Int} {t : Nat} {x : Int32} (hf : P.1 μ pc = some (.ifCond k off, len, act)) (ht : (pc : Int) + off = Int.ofNat t) (hb : rcmp (rcond k) x 0 = false) (h : Ev P μ d (pc + 3) ls st σ c s r) : Ev P μ d pc ls (.int x :: st) σ c s r := by
  obtain ⟨n0, h⟩ := h
  refine Ev_of hf (n0 := n0) (fun n hn => ?_)
  show rjmp pc off (fun t => rbr (rcond k) (.int x) (.int 0) [] (fun pa => rrun P n μ d t ls st σ 0 pa c s) (fun pa => rn (pc + 3) (fun pcₚ => rrun P n μ d pcₚ ls st σ 0 pa c s))) = _
  unfold rjmp
  rw [ht]
  show rn t _ = _
  rw [rn_eq]
  unfold rbr
  show (match rcmp (rcond k) x 0 with | true => _ | false => _) = _
  rw [hb]
  show rn (pc + 3) _ = _
  rw [rn_eq]
  exact h n hn
theorem x_ifnull_t {off : Int} {t : Nat} (hf : P.1 μ pc = some (.ifnull off, len, act)) (ht : (pc : Int) + off = Int.ofNat t) (h : Ev P μ d t ls st σ c s r) : Ev P μ d pc ls (.null :: st) σ c s r := by
  obtain ⟨n0, h⟩ := h
  refine Ev_of hf (n0 := n0) (fun n hn => ?_)
  show rjmp pc off (fun pcₚ => rrun P n μ d pcₚ ls st σ 0 [] c s) = _
  unfold rjmp
  rw [ht]
  show rn t _ = _
  rw [rn_eq]
  exact h n hn
theorem x_ifnull_f {off : Int} {t a : Nat} (hf : P.1 μ pc = some (.ifnull off, len, act)) (ht : (pc : Int) + off = Int.ofNat t) (h : Ev P μ d (pc + 3) ls st σ c s r) : Ev P μ d pc ls (.ref a :: st) σ c s r := by
  obtain ⟨n0, h⟩ := h
  refine Ev_of hf (n0 := n0) (fun n hn => ?_)
  show rn (pc + 3) (fun pcₚ => rrun P n μ d pcₚ ls st σ 0 [] c s) = _
  rw [rn_eq]
  exact h n hn
theorem x_ifnonnull_t {off : Int} {t a : Nat} (hf : P.1 μ pc = some (.ifnonnull off, len, act)) (ht : (pc : Int) + off = Int.ofNat t) (h : Ev P μ d t ls st σ c s r) : Ev P μ d pc ls (.ref a :: st) σ c s r := by
  obtain ⟨n0, h⟩ := h
  refine Ev_of hf (n0 := n0) (fun n hn => ?_)
  show rjmp pc off (fun pcₚ => rrun P n μ d pcₚ ls st σ 0 [] c s) = _
  unfold rjmp
  rw [ht]
  show rn t _ = _
  rw [rn_eq]
  exact h n hn
theorem x_ifnonnull_f {off : Int} {t : Nat} (hf : P.1 μ pc = some (.ifnonnull off, len, act)) (ht : (pc : Int) + off = Int.ofNat t) (h : Ev P μ d (pc + 3) ls st σ c s r) : Ev P μ d pc ls (.null :: st) σ c s r := by
  obtain ⟨n0, h⟩ := h
  refine Ev_of hf (n0 := n0) (fun n hn => ?_)
  show rn (pc + 3) (fun pcₚ => rrun P n μ d pcₚ ls st σ 0 [] c s) = _
  rw [rn_eq]
  exact h n hn
theorem x_acmp_t {off : Int} {t a b : Nat} (hf : P.1 μ pc = some (.if_acmp .ne off, len, act)) (ht : (pc : Int) + off = Int.ofNat t) (hb : Nat.beq a b = false) (hs : Nat.ble P.2.2.2.2.2.2.1 b = true) (h : Ev P μ d t ls st σ c s r) : Ev P μ d pc ls (.ref b :: .ref a :: st) σ c s r := by
  obtain ⟨n0, h⟩ := h
  refine Ev_of hf (n0 := n0) (fun n hn => ?_)
  show rjmp pc off (fun t => match Nat.beq a b with | true => _ | false => _) = _
  unfold rjmp
  rw [ht]
  show rn t _ = _
  rw [rn_eq]
  show (match Nat.beq a b with | true => _ | false => _) = _
  rw [hb]
  show (match Nat.ble P.2.2.2.2.2.2.1 b with | true => _ | false => _) = _
  rw [hs]
  exact h n hn
theorem x_acmp_n {off : Int} {t b : Nat} (hf : P.1 μ pc = some (.if_acmp .ne off, len, act)) (ht : (pc : Int) + off = Int.ofNat t) (h : Ev P μ d t ls st σ c s r) : Ev P μ d pc ls (.ref b :: .null :: st) σ c s r := by
  obtain ⟨n0, h⟩ := h
  refine Ev_of hf (n0 := n0) (fun n hn => ?_)
  show rjmp pc off (fun pcₚ => rrun P n μ d pcₚ ls st σ 0 [] c s) = _
  unfold rjmp
  rw [ht]
  show rn t _ = _
  rw [rn_eq]
  exact h n hn
theorem x_acmp_f {off : Int} {t a b : Nat} (hf : P.1 μ pc = some (.if_acmp .ne off, len, act)) (ht : (pc : Int) + off = Int.ofNat t) (hb : Nat.beq a b = true) (h : Ev P μ d (pc + 3) ls st σ c s r) : Ev P μ d pc ls (.ref b :: .ref a :: st) σ c s r := by
  obtain ⟨n0, h⟩ := h
  refine Ev_of hf (n0 := n0) (fun n hn => ?_)
  show rjmp pc off (fun t => match Nat.beq a b with | true => _ | false => _) = _
  unfold rjmp
  rw [ht]
  show rn t _ = _
  rw [rn_eq]
  show (match Nat.beq a b with | true => _ | false => _) = _
  rw [hb]
  show rn (pc + 3) (fun pcₚ => rrun P n μ d pcₚ ls st σ 0 [] c s) = _
  rw [rn_eq]
  exact h n hn
theorem x_lsw {dflt : Int} {pairs : Array (Int × Int)} {x : Int32} {t : Nat} (hf : P.1 μ pc = some (.lookupswitch dflt pairs, len, act)) (ht : (pc : Int) + rpick x.toInt dflt pairs.toList = Int.ofNat t) (h : Ev P μ d t ls st σ c s r) : Ev P μ d pc ls (.int x :: st) σ c s r := by
  obtain ⟨n0, h⟩ := h
  refine Ev_of hf (n0 := n0) (fun n hn => ?_)
  show rjmp pc (rpick x.toInt dflt pairs.toList) (fun pcₚ => rrun P n μ d pcₚ ls st σ 0 [] c s) = _
  unfold rjmp
  rw [ht]
  show rn t _ = _
  rw [rn_eq]
  exact h n hn
theorem x_tsk {dflt lo hi off : Int} {offs : Array Int} {x : Int32} {t k : Nat} (hf : P.1 μ pc = some (.tableswitch dflt lo hi offs, len, act)) (hx : x.toInt = lo + k) (hk : lo + k ≤ hi) (ho : offs[k]? = some off) (ht : (pc : Int) + off = Int.ofNat t) (h : Ev P μ d t ls st σ c s r) : Ev P μ d pc ls (.int x :: st) σ c s r := by
  obtain ⟨n0, h⟩ := h
  refine Ev_of hf (n0 := n0) (fun n hn => ?_)
  show rsw pc dflt lo hi offs x (fun pcₚ => rrun P n μ d pcₚ ls st σ 0 [] c s) = _
  unfold rsw
  rw [show (decide (x.toInt < lo) || decide (hi < x.toInt)) = false from by rw [decide_eq_false (by omega), decide_eq_false (by omega)]; rfl]
  show (match offs[(x.toInt - lo).toNat]? with | some off => _ | none => _) = _
  rw [show (x.toInt - lo).toNat = k from by omega, ho]
  show rjmp pc off (fun pcₚ => rrun P n μ d pcₚ ls st σ 0 [] c s) = _
  unfold rjmp
  rw [ht]
  show rn t _ = _
  rw [rn_eq]
  exact h n hn
theorem x_tsd {dflt lo hi : Int} {offs : Array Int} {x : Int32} {t : Nat} (hf : P.1 μ pc = some (.tableswitch dflt lo hi offs, len, act)) (hx : x.toInt < lo ∨ hi < x.toInt) (ht : (pc : Int) + dflt = Int.ofNat t) (h : Ev P μ d t ls st σ c s r) : Ev P μ d pc ls (.int x :: st) σ c s r := by
  obtain ⟨n0, h⟩ := h
  refine Ev_of hf (n0 := n0) (fun n hn => ?_)
  show rsw pc dflt lo hi offs x (fun pcₚ => rrun P n μ d pcₚ ls st σ 0 [] c s) = _
  unfold rsw
  rw [show (decide (x.toInt < lo) || decide (hi < x.toInt)) = true from by rcases hx with hx | hx; (rw [decide_eq_true hx]; rfl); (rw [decide_eq_true hx, Bool.or_true])]
  show rjmp pc dflt (fun pcₚ => rrun P n μ d pcₚ ls st σ 0 [] c s) = _
  unfold rjmp
  rw [ht]
  show rn t _ = _
  rw [rn_eq]
  exact h n hn
theorem x_getfield {x a q ci kf : Nat} {z : Value} {fs : List Value} {v : Value} (hf : P.1 μ pc = some (.getfield x, len, (q, ci, kf, z))) (hc : rat σ a = some (.inl (ci, fs))) (hk : rnth fs kf = some v) (h : Ev P μ d (pc + 3) ls (v :: st) σ c s r) : Ev P μ d pc ls (.ref a :: st) σ c s r := by
  obtain ⟨n0, h⟩ := h
  refine Ev_of hf (n0 := n0) (fun n hn => ?_)
  show rget σ (.ref a) ci kf (fun v => rn (pc + 3) (fun pcₚ => rrun P n μ d pcₚ ls (v :: st) σ 0 [] c s)) = _
  unfold rget
  simp only [hc, hk, Nat.beq_refl, rn_eq]
  exact h n hn
theorem x_putfield {x a q ci kf tag : Nat} {fs : List Value} {v : Value} (hf : P.1 μ pc = some (.putfield x, len, (q, ci, kf, .ref tag))) (hp : (Nat.blt tag 8 || (Nat.blt tag 16 && P.2.2.2.1 μ)) = true) (hc : rat σ a = some (.inl (ci, fs))) (hk : kf < fs.length) (hB : P.2.2.2.2.2.2.1 ≤ a) (hv : rfit (tag % 8) v = true) (h : Ev P μ d (pc + 3) ls st (rstl σ a (.inl (ci, rstl fs kf v))) c s r) : Ev P μ d pc ls (v :: .ref a :: st) σ c s r := by
  obtain ⟨n0, h⟩ := h
  refine Ev_of hf (n0 := n0) (fun n hn => ?_)
  show (match Nat.blt tag 8 || (Nat.blt tag 16 && P.2.2.2.1 μ) with | true => rput P.2.2.2.2.2.2.1 σ (.ref a) v ci kf (tag % 8) (fun σ => rn (pc + 3) (fun pcₚ => rrun P n μ d pcₚ ls st σ 0 [] c s)) | false => none) = _
  rw [hp]
  show rput P.2.2.2.2.2.2.1 σ (.ref a) v ci kf (tag % 8) (fun σ => rn (pc + 3) (fun pcₚ => rrun P n μ d pcₚ ls st σ 0 [] c s)) = _
  unfold rput
  simp only [hc]
  rw [show (Nat.beq ci ci && (Nat.ble P.2.2.2.2.2.2.1 a && (rfit (tag % 8) v && Nat.blt kf fs.length))) = true from by rw [Nat.beq_refl, Nat.ble_eq.mpr hB, hv, show Nat.blt kf fs.length = true from Nat.ble_eq.mpr hk]; rfl]
  show rn (pc + 3) _ = _
  rw [rn_eq]
  exact h n hn
theorem x_getstatic {x a b e : Nat} {z : Value} (hf : P.1 μ pc = some (.getstatic x, len, (a, b, e, z))) (h : Ev P μ d (pc + 3) ls (.ref b :: st) σ c s r) : Ev P μ d pc ls st σ c s r := by
  obtain ⟨n0, h⟩ := h
  refine Ev_of hf (n0 := n0) (fun n hn => ?_)
  show rn (pc + 3) (fun pcₚ => rrun P n μ d pcₚ ls (.ref b :: st) σ 0 [] c s) = _
  rw [rn_eq]
  exact h n hn
theorem rplace_eq {a x : Nat} {q : Nat × Nat × Value × rO} {j : Int32} {k : Nat → Nat × Nat × Value × rO → Nat → Option rR} (hc : rat σ a = some (.inr q)) (hj : decide (j < 0) = false) (hx : j.toNatClampNeg = x) (hlt : x < q.2.1) : rplace σ (.ref a) (.int j) k = k a q x := by
  unfold rplace
  simp only [hc, hj, rn_eq, hx]
  rw [show Nat.blt x q.2.1 = true from Nat.ble_eq.mpr hlt]
theorem x_iaload {a N x : Nat} {dv : Value} {ov : rO} {j : Int32} {w : Int32} (hf : P.1 μ pc = some (.iaload, len, act)) (hc : rat σ a = some (.inr (1, N, dv, ov))) (hj : decide (j < 0) = false) (hx : j.toNatClampNeg = x) (hlt : x < N) (hv : rlk ov dv x = .int w) (h : Ev P μ d (pc + 1) ls (.int w :: st) σ c s r) : Ev P μ d pc ls (.int j :: .ref a :: st) σ c s r := by
  obtain ⟨n0, h⟩ := h
  refine Ev_of hf (n0 := n0) (fun n hn => ?_)
  show rald 1 σ (.ref a) (.int j) (fun v => match risI v with | true => rconc v [] (fun v pa => rn (pc + 1) (fun pcₚ => rrun P n μ d pcₚ ls (v :: st) σ 0 pa c s)) | false => none) = _
  unfold rald
  rw [rplace_eq hc hj hx hlt]
  show (match risI (rlk ov dv x) with | true => _ | false => _) = _
  rw [hv]
  show rn (pc + 1) _ = _
  rw [rn_eq]
  exact h n hn
theorem x_baload {a N x : Nat} {dv : Value} {ov : rO} {j : Int32} {w : Int32} (hf : P.1 μ pc = some (.baload, len, act)) (hc : rat σ a = some (.inr (0, N, dv, ov))) (hj : decide (j < 0) = false) (hx : j.toNatClampNeg = x) (hlt : x < N) (hv : rlk ov dv x = .int w) (h : Ev P μ d (pc + 1) ls (.int w :: st) σ c s r) : Ev P μ d pc ls (.int j :: .ref a :: st) σ c s r := by
  obtain ⟨n0, h⟩ := h
  refine Ev_of hf (n0 := n0) (fun n hn => ?_)
  show (match rkz σ (.ref a) with | false => rald 0 σ (.ref a) (.int j) (fun v => match risI v with | true => rn (pc + 1) (fun pcₚ => rrun P n μ d pcₚ ls (v :: st) σ 0 [] c s) | false => none) | true => rald 3 σ (.ref a) (.int j) (fun v => match rbool v with | true => rn (pc + 1) (fun pcₚ => rrun P n μ d pcₚ ls (v :: st) σ 0 [] c s) | false => none)) = _
  rw [show rkz σ (.ref a) = false from by unfold rkz; simp only [hc]; rfl]
  show rald 0 σ (.ref a) (.int j) (fun v => match risI v with | true => rn (pc + 1) (fun pcₚ => rrun P n μ d pcₚ ls (v :: st) σ 0 [] c s) | false => none) = _
  unfold rald
  rw [rplace_eq hc hj hx hlt]
  show (match risI (rlk ov dv x) with | true => _ | false => _) = _
  rw [hv]
  show rn (pc + 1) _ = _
  rw [rn_eq]
  exact h n hn
theorem x_baloadZ {a N x : Nat} {dv : Value} {ov : rO} {j : Int32} {w : Int32} (hf : P.1 μ pc = some (.baload, len, act)) (hc : rat σ a = some (.inr (3, N, dv, ov))) (hj : decide (j < 0) = false) (hx : j.toNatClampNeg = x) (hlt : x < N) (hv : rlk ov dv x = .int w) (hb : rbool (.int w) = true) (h : Ev P μ d (pc + 1) ls (.int w :: st) σ c s r) : Ev P μ d pc ls (.int j :: .ref a :: st) σ c s r := by
  obtain ⟨n0, h⟩ := h
  refine Ev_of hf (n0 := n0) (fun n hn => ?_)
  show (match rkz σ (.ref a) with | false => rald 0 σ (.ref a) (.int j) (fun v => match risI v with | true => rn (pc + 1) (fun pcₚ => rrun P n μ d pcₚ ls (v :: st) σ 0 [] c s) | false => none) | true => rald 3 σ (.ref a) (.int j) (fun v => match rbool v with | true => rn (pc + 1) (fun pcₚ => rrun P n μ d pcₚ ls (v :: st) σ 0 [] c s) | false => none)) = _
  rw [show rkz σ (.ref a) = true from by unfold rkz; simp only [hc]; rfl]
  show rald 3 σ (.ref a) (.int j) (fun v => match rbool v with | true => rn (pc + 1) (fun pcₚ => rrun P n μ d pcₚ ls (v :: st) σ 0 [] c s) | false => none) = _
  unfold rald
  rw [rplace_eq hc hj hx hlt]
  show (match rbool (rlk ov dv x) with | true => _ | false => _) = _
  rw [hv, hb]
  show rn (pc + 1) _ = _
  rw [rn_eq]
  exact h n hn
theorem x_laload {a N x : Nat} {dv : Value} {ov : rO} {j : Int32} {w : Int64} (hf : P.1 μ pc = some (.laload, len, act)) (hc : rat σ a = some (.inr (2, N, dv, ov))) (hj : decide (j < 0) = false) (hx : j.toNatClampNeg = x) (hlt : x < N) (hv : rlk ov dv x = .long w) (h : Ev P μ d (pc + 1) ls (.long w :: st) σ c s r) : Ev P μ d pc ls (.int j :: .ref a :: st) σ c s r := by
  obtain ⟨n0, h⟩ := h
  refine Ev_of hf (n0 := n0) (fun n hn => ?_)
  show rald 2 σ (.ref a) (.int j) (fun v => match risL v with | true => rn (pc + 1) (fun pcₚ => rrun P n μ d pcₚ ls (v :: st) σ 0 [] c s) | false => none) = _
  unfold rald
  rw [rplace_eq hc hj hx hlt]
  show (match risL (rlk ov dv x) with | true => _ | false => _) = _
  rw [hv]
  show rn (pc + 1) _ = _
  rw [rn_eq]
  exact h n hn
theorem x_iastore {a N x : Nat} {dv : Value} {ov : rO} {j : Int32} {w : Int32} (hf : P.1 μ pc = some (.iastore, len, act)) (hc : rat σ a = some (.inr (1, N, dv, ov))) (hj : decide (j < 0) = false) (hx : j.toNatClampNeg = x) (hlt : x < N) (hB : P.2.2.2.2.2.2.1 ≤ a) (h : Ev P μ d (pc + 1) ls st (rstl σ a (.inr (1, N, dv, rup ov x (.int w)))) c s r) : Ev P μ d pc ls (.int w :: .int j :: .ref a :: st) σ c s r := by
  obtain ⟨n0, h⟩ := h
  refine Ev_of hf (n0 := n0) (fun n hn => ?_)
  show rast 1 0 P.2.2.2.2.2.2.1 σ (.ref a) (.int j) (.int w) (fun σ => rn (pc + 1) (fun pcₚ => rrun P n μ d pcₚ ls st σ 0 [] c s)) = _
  unfold rast
  rw [rplace_eq hc hj hx hlt]
  show (match Nat.beq 1 1 && (Nat.ble P.2.2.2.2.2.2.1 a && rfit 0 (.int w)) with | true => _ | false => _) = _
  rw [show Nat.ble P.2.2.2.2.2.2.1 a = true from Nat.ble_eq.mpr hB]
  show rn (pc + 1) _ = _
  rw [rn_eq]
  exact h n hn
theorem x_lastore {a N x : Nat} {dv : Value} {ov : rO} {j : Int32} {w : Int64} (hf : P.1 μ pc = some (.lastore, len, act)) (hc : rat σ a = some (.inr (2, N, dv, ov))) (hj : decide (j < 0) = false) (hx : j.toNatClampNeg = x) (hlt : x < N) (hB : P.2.2.2.2.2.2.1 ≤ a) (h : Ev P μ d (pc + 1) ls st (rstl σ a (.inr (2, N, dv, rup ov x (.long w)))) c s r) : Ev P μ d pc ls (.long w :: .int j :: .ref a :: st) σ c s r := by
  obtain ⟨n0, h⟩ := h
  refine Ev_of hf (n0 := n0) (fun n hn => ?_)
  show rast 2 2 P.2.2.2.2.2.2.1 σ (.ref a) (.int j) (.long w) (fun σ => rn (pc + 1) (fun pcₚ => rrun P n μ d pcₚ ls st σ 0 [] c s)) = _
  unfold rast
  rw [rplace_eq hc hj hx hlt]
  show (match Nat.beq 2 2 && (Nat.ble P.2.2.2.2.2.2.1 a && rfit 2 (.long w)) with | true => _ | false => _) = _
  rw [show Nat.ble P.2.2.2.2.2.2.1 a = true from Nat.ble_eq.mpr hB]
  show rn (pc + 1) _ = _
  rw [rn_eq]
  exact h n hn
theorem x_bastore {a N x : Nat} {dv : Value} {ov : rO} {j : Int32} {w : Int32} {z : Int} (hf : P.1 μ pc = some (.bastore, len, act)) (hc : rat σ a = some (.inr (0, N, dv, ov))) (hj : decide (j < 0) = false) (hx : j.toNatClampNeg = x) (hlt : x < N) (hB : P.2.2.2.2.2.2.1 ≤ a) (hz : ruop 1 w = Int32.ofInt z) (h : Ev P μ d (pc + 1) ls st (rstl σ a (.inr (0, N, dv, rup ov x (I z)))) c s r) : Ev P μ d pc ls (.int w :: .int j :: .ref a :: st) σ c s r := by
  obtain ⟨n0, h⟩ := h
  refine Ev_of hf (n0 := n0) (fun n hn => ?_)
  show (match rkz σ (.ref a) with | false => runi 1 (.int w) 0 (fun v k => rast 0 0 P.2.2.2.2.2.2.1 σ (.ref a) (.int j) v (fun σ => rn (pc + 1) (fun pcₚ => rrun P n μ d pcₚ ls st σ k [] c s))) | true => rast 3 1 P.2.2.2.2.2.2.1 σ (.ref a) (.int j) (.int w) (fun σ => rn (pc + 1) (fun pcₚ => rrun P n μ d pcₚ ls st σ 0 [] c s))) = _
  rw [show rkz σ (.ref a) = false from by unfold rkz; simp only [hc]; rfl]
  show rci (ruop 1 w) (fun v => rast 0 0 P.2.2.2.2.2.2.1 σ (.ref a) (.int j) (.int v) (fun σ => rn (pc + 1) (fun pcₚ => rrun P n μ d pcₚ ls st σ 0 [] c s))) = _
  rw [rci_eq, hz]
  unfold rast
  rw [rplace_eq hc hj hx hlt]
  show (match Nat.beq 0 0 && (Nat.ble P.2.2.2.2.2.2.1 a && rfit 0 (I z)) with | true => _ | false => _) = _
  rw [show Nat.ble P.2.2.2.2.2.2.1 a = true from Nat.ble_eq.mpr hB]
  show rn (pc + 1) _ = _
  rw [rn_eq]
  exact h n hn
theorem x_bastoreZ {a N x : Nat} {dv : Value} {ov : rO} {j : Int32} {w : Int32} (hf : P.1 μ pc = some (.bastore, len, act)) (hc : rat σ a = some (.inr (3, N, dv, ov))) (hj : decide (j < 0) = false) (hx : j.toNatClampNeg = x) (hlt : x < N) (hB : P.2.2.2.2.2.2.1 ≤ a) (hb : rbool (.int w) = true) (h : Ev P μ d (pc + 1) ls st (rstl σ a (.inr (3, N, dv, rup ov x (.int w)))) c s r) : Ev P μ d pc ls (.int w :: .int j :: .ref a :: st) σ c s r := by
  obtain ⟨n0, h⟩ := h
  refine Ev_of hf (n0 := n0) (fun n hn => ?_)
  show (match rkz σ (.ref a) with | false => runi 1 (.int w) 0 (fun v k => rast 0 0 P.2.2.2.2.2.2.1 σ (.ref a) (.int j) v (fun σ => rn (pc + 1) (fun pcₚ => rrun P n μ d pcₚ ls st σ k [] c s))) | true => rast 3 1 P.2.2.2.2.2.2.1 σ (.ref a) (.int j) (.int w) (fun σ => rn (pc + 1) (fun pcₚ => rrun P n μ d pcₚ ls st σ 0 [] c s))) = _
  rw [show rkz σ (.ref a) = true from by unfold rkz; simp only [hc]; rfl]
  show rast 3 1 P.2.2.2.2.2.2.1 σ (.ref a) (.int j) (.int w) (fun σ => rn (pc + 1) (fun pcₚ => rrun P n μ d pcₚ ls st σ 0 [] c s)) = _
  unfold rast
  rw [rplace_eq hc hj hx hlt]
  show (match Nat.beq 3 3 && (Nat.ble P.2.2.2.2.2.2.1 a && rbool (.int w)) with | true => _ | false => _) = _
  rw [hb]
  rw [show Nat.ble P.2.2.2.2.2.2.1 a = true from Nat.ble_eq.mpr hB]
  show rn (pc + 1) _ = _
  rw [rn_eq]
  exact h n hn
theorem x_return (hf : P.1 μ pc = some (.return_, len, act)) : Ev P μ d pc ls [] σ c s (none, σ, 0, [], c, s) := Ev_of hf (n0 := 0) (fun _ _ => rfl)
theorem x_ireturn {v : Int32} (hf : P.1 μ pc = some (.ireturn, len, act)) : Ev P μ d pc ls [.int v] σ c s (some (.int v), σ, 0, [], c, s) := Ev_of hf (n0 := 0) (fun _ _ => rfl)
theorem x_lreturn {v : Int64} (hf : P.1 μ pc = some (.lreturn, len, act)) : Ev P μ d pc ls [.long v] σ c s (some (.long v), σ, 0, [], c, s) := Ev_of hf (n0 := 0) (fun _ _ => rfl)
theorem x_areturn {v : Nat} (hf : P.1 μ pc = some (.areturn, len, act)) : Ev P μ d pc ls [.ref v] σ c s (some (.ref v), σ, 0, [], c, s) := Ev_of hf (n0 := 0) (fun _ _ => rfl)
theorem x_call {μ' n q : Nat} {ci : Value} {i : Instr} {vs rest : List Value} {v : Option Value} {σₚ : rS} {cₚ sₚ : Nat} (hP : P.2.2.2.2.2.2.2 = []) (hf : P.1 μ pc = some (i, len, (q, μ', n, ci)))
    (hi : ∀ rec : rF, rinstr P rec μ (d + 1) pc ls st σ 0 [] c s i len (q, μ', n, ci) = rcall P.2.1 P.2.2.1 P.2.2.2.2.2.2.2 rec μ (d + 1) pc ls μ' vs rest σ 0 [] c s)
    (hw : (Nat.ble (rwords rest) 8 && Nat.ble (rwords vs) (P.2.1 μ')) = true) (hr : rretok (P.2.2.1 μ') v = true)
    (h1 : Ev P μ' d 0 (rargs 0 vs) [] σ 0 0 (v, σₚ, 0, [], cₚ, sₚ)) (h : Ev P μ (d + 1) (pc + 3) ls (v.toList ++ rest) σₚ (c + cₚ) (s + sₚ) r) : Ev P μ (d + 1) pc ls st σ c s r := by
  obtain ⟨n1, h1⟩ := h1
  obtain ⟨n0, h⟩ := h
  refine Ev_of hf (n0 := max n0 n1) (fun n hn => ?_)
  rw [hi, hP]
  unfold rcall
  simp only [hw]
  show (match rrun P n μ' d 0 (rargs 0 vs) [] σ 0 [] 0 0 with | some z => (match rretok (P.2.2.1 μ') z.2.1 with | true => rafter z.1 (rn (pc + 3) (fun pcₚ => rrun P n μ (d + 1) pcₚ ls (z.2.1.toList ++ rest) z.2.2.1 z.2.2.2.1 z.2.2.2.2.1 (c + z.2.2.2.2.2.1) (s + z.2.2.2.2.2.2))) | false => none) | none => none) = _
  rw [h1 n (by omega)]
  show (match rretok (P.2.2.1 μ') v with | true => _ | false => _) = _
  rw [hr]
  show rn (pc + 3) _ = _
  rw [rn_eq]
  exact h n (by omega)
theorem rat_same {a : Nat} {q qₚ : rC} (h : rat σ a = some qₚ) : rat (rstl σ a q) a = some q := by
  rw [rat_eq] at *
  rw [rstl_eq]
  obtain ⟨hl, -⟩ := List.getElem?_eq_some_iff.mp h
  simp [List.getElem?_set, hl]
theorem rat_other {a b : Nat} {q : rC} (h : a ≠ b) : rat (rstl σ a q) b = rat σ b := by
  rw [rat_eq, rat_eq, rstl_eq]
  simp [List.getElem?_set, h]
end EV


end
