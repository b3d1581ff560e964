theorem e_X3_readCell_82 : decode cX3_readCell 82 = .ok (.iload_n 1, 1) ∧ 82 + 1 = 83 := by decide +kernel
theorem e_X3_readCell_83 : decode cX3_readCell 83 = .ok (.ishl, 1) ∧ 83 + 1 = 84 := by decide +kernel
theorem e_X3_readCell_84 : decode cX3_readCell 84 = .ok (.ior, 1) ∧ 84 + 1 = 85 := by decide +kernel
theorem e_X3_readCell_85 : decode cX3_readCell 85 = .ok (.putfield 74, 3) ∧ 85 + 3 = 88 := by decide +kernel
theorem e_X3_readCell_88 : decode cX3_readCell 88 = .ok (.aload_n 0, 1) ∧ 88 + 1 = 89 := by decide +kernel
theorem e_X3_readCell_89 : decode cX3_readCell 89 = .ok (.getfield 23, 3) ∧ 89 + 3 = 92 := by decide +kernel
theorem e_X3_readCell_92 : decode cX3_readCell 92 = .ok (.iload_n 1, 1) ∧ 92 + 1 = 93 := by decide +kernel
theorem e_X3_readCell_93 : decode cX3_readCell 93 = .ok (.iload_n 2, 1) ∧ 93 + 1 = 94 := by decide +kernel
theorem e_X3_readCell_94 : decode cX3_readCell 94 = .ok (.iastore, 1) ∧ 94 + 1 = 95 := by decide +kernel
theorem e_X3_readCell_95 : decode cX3_readCell 95 = .ok (.aload_n 0, 1) ∧ 95 + 1 = 96 := by decide +kernel
theorem e_X3_readCell_96 : decode cX3_readCell 96 = .ok (.getfield 23, 3) ∧ 96 + 3 = 99 := by decide +kernel
theorem e_X3_readCell_99 : decode cX3_readCell 99 = .ok (.bipush 12, 2) ∧ 99 + 2 = 101 := by decide +kernel
theorem e_X3_readCell_101 : decode cX3_readCell 101 = .ok (.iload_n 1, 1) ∧ 101 + 1 = 102 := by decide +kernel
theorem e_X3_readCell_102 : decode cX3_readCell 102 = .ok (.iadd, 1) ∧ 102 + 1 = 103 := by decide +kernel
theorem e_X3_readCell_103 : decode cX3_readCell 103 = .ok (.iload_n 3, 1) ∧ 103 + 1 = 104 := by decide +kernel
theorem e_X3_readCell_104 : decode cX3_readCell 104 = .ok (.iastore, 1) ∧ 104 + 1 = 105 := by decide +kernel
theorem e_X3_readCell_105 : decode cX3_readCell 105 = .ok (.aload_n 0, 1) ∧ 105 + 1 = 106 := by decide +kernel
theorem e_X3_readCell_106 : decode cX3_readCell 106 = .ok (.getfield 23, 3) ∧ 106 + 3 = 109 := by decide +kernel
theorem e_X3_readCell_109 : decode cX3_readCell 109 = .ok (.bipush 24, 2) ∧ 109 + 2 = 111 := by decide +kernel
theorem e_X3_readCell_111 : decode cX3_readCell 111 = .ok (.iload_n 1, 1) ∧ 111 + 1 = 112 := by decide +kernel
theorem e_X3_readCell_112 : decode cX3_readCell 112 = .ok (.iadd, 1) ∧ 112 + 1 = 113 := by decide +kernel
theorem e_X3_readCell_113 : decode cX3_readCell 113 = .ok (.iload 4, 2) ∧ 113 + 2 = 115 := by decide +kernel
theorem e_X3_readCell_115 : decode cX3_readCell 115 = .ok (.iastore, 1) ∧ 115 + 1 = 116 := by decide +kernel
theorem e_X3_readCell_116 : decode cX3_readCell 116 = .ok (.aload_n 0, 1) ∧ 116 + 1 = 117 := by decide +kernel
theorem e_X3_readCell_117 : decode cX3_readCell 117 = .ok (.dup, 1) ∧ 117 + 1 = 118 := by decide +kernel
theorem e_X3_readCell_118 : decode cX3_readCell 118 = .ok (.getfield 85, 3) ∧ 118 + 3 = 121 := by decide +kernel
theorem e_X3_readCell_121 : decode cX3_readCell 121 = .ok (.iconst 1, 1) ∧ 121 + 1 = 122 := by decide +kernel
theorem e_X3_readCell_122 : decode cX3_readCell 122 = .ok (.iadd, 1) ∧ 122 + 1 = 123 := by decide +kernel
theorem e_X3_readCell_123 : decode cX3_readCell 123 = .ok (.putfield 85, 3) ∧ 123 + 3 = 126 := by decide +kernel
theorem e_X3_readCell_126 : decode cX3_readCell 126 = .ok (.iconst 1, 1) ∧ 126 + 1 = 127 := by decide +kernel
theorem e_X3_readCell_127 : decode cX3_readCell 127 = .ok (.ireturn, 1) := by decide +kernel
theorem e_X3_readMonk_0 : decode cX3_readMonk 0 = .ok (.aload_n 0, 1) ∧ 0 + 1 = 1 := by decide +kernel
theorem e_X3_readMonk_1 : decode cX3_readMonk 1 = .ok (.iconst 0, 1) ∧ 1 + 1 = 2 := by decide +kernel
theorem e_X3_readMonk_2 : decode cX3_readMonk 2 = .ok (.invokevirtual 77, 3) ∧ 2 + 3 = 5 := by decide +kernel
theorem e_X3_readMonk_5 : decode cX3_readMonk 5 = .ok (.istore_n 1, 1) ∧ 5 + 1 = 6 := by decide +kernel
theorem e_X3_readMonk_6 : decode cX3_readMonk 6 = .ok (.iload_n 1, 1) ∧ 6 + 1 = 7 := by decide +kernel
theorem e_X3_readMonk_7 : decode cX3_readMonk 7 = .ok (.bipush (-9), 2) ∧ 7 + 2 = 9 := by decide +kernel
theorem e_X3_readMonk_9 : decode cX3_readMonk 9 = .ok (.if_icmp .ne 8, 3) ∧ 9 + 3 = 12 ∧ ((9 : Nat) : Int) + (8) = ((17 : Nat) : Int) := by decide +kernel
theorem e_X3_readMonk_12 : decode cX3_readMonk 12 = .ok (.bipush (-9), 2) ∧ 12 + 2 = 14 := by decide +kernel
theorem e_X3_readMonk_14 : decode cX3_readMonk 14 = .ok (.goto 9, 3) ∧ 14 + 3 = 17 ∧ ((14 : Nat) : Int) + (9) = ((23 : Nat) : Int) := by decide +kernel
theorem e_X3_readMonk_17 : decode cX3_readMonk 17 = .ok (.aload_n 0, 1) ∧ 17 + 1 = 18 := by decide +kernel
theorem e_X3_readMonk_18 : decode cX3_readMonk 18 = .ok (.iconst 0, 1) ∧ 18 + 1 = 19 := by decide +kernel
theorem e_X3_readMonk_19 : decode cX3_readMonk 19 = .ok (.iconst 1, 1) ∧ 19 + 1 = 20 := by decide +kernel
theorem e_X3_readMonk_20 : decode cX3_readMonk 20 = .ok (.invokevirtual 81, 3) ∧ 20 + 3 = 23 := by decide +kernel
theorem e_X3_readMonk_23 : decode cX3_readMonk 23 = .ok (.istore_n 2, 1) ∧ 23 + 1 = 24 := by decide +kernel
theorem e_X3_readMonk_24 : decode cX3_readMonk 24 = .ok (.iload_n 2, 1) ∧ 24 + 1 = 25 := by decide +kernel
theorem e_X3_readMonk_25 : decode cX3_readMonk 25 = .ok (.bipush (-9), 2) ∧ 25 + 2 = 27 := by decide +kernel
theorem e_X3_readMonk_27 : decode cX3_readMonk 27 = .ok (.if_icmp .ne 5, 3) ∧ 27 + 3 = 30 ∧ ((27 : Nat) : Int) + (5) = ((32 : Nat) : Int) := by decide +kernel
theorem e_X3_readMonk_30 : decode cX3_readMonk 30 = .ok (.iconst 0, 1) ∧ 30 + 1 = 31 := by decide +kernel
theorem e_X3_readMonk_31 : decode cX3_readMonk 31 = .ok (.ireturn, 1) := by decide +kernel
theorem e_X3_readMonk_32 : decode cX3_readMonk 32 = .ok (.aload_n 0, 1) ∧ 32 + 1 = 33 := by decide +kernel
theorem e_X3_readMonk_33 : decode cX3_readMonk 33 = .ok (.getfield 23, 3) ∧ 33 + 3 = 36 := by decide +kernel
theorem e_X3_readMonk_36 : decode cX3_readMonk 36 = .ok (.bipush 49, 2) ∧ 36 + 2 = 38 := by decide +kernel
theorem e_X3_readMonk_38 : decode cX3_readMonk 38 = .ok (.aload_n 0, 1) ∧ 38 + 1 = 39 := by decide +kernel
theorem e_X3_readMonk_39 : decode cX3_readMonk 39 = .ok (.getfield 88, 3) ∧ 39 + 3 = 42 := by decide +kernel
theorem e_X3_readMonk_42 : decode cX3_readMonk 42 = .ok (.iadd, 1) ∧ 42 + 1 = 43 := by decide +kernel
theorem e_X3_readMonk_43 : decode cX3_readMonk 43 = .ok (.iload_n 1, 1) ∧ 43 + 1 = 44 := by decide +kernel
theorem e_X3_readMonk_44 : decode cX3_readMonk 44 = .ok (.iastore, 1) ∧ 44 + 1 = 45 := by decide +kernel
theorem e_X3_readMonk_45 : decode cX3_readMonk 45 = .ok (.aload_n 0, 1) ∧ 45 + 1 = 46 := by decide +kernel
theorem e_X3_readMonk_46 : decode cX3_readMonk 46 = .ok (.getfield 26, 3) ∧ 46 + 3 = 49 := by decide +kernel
theorem e_X3_readMonk_49 : decode cX3_readMonk 49 = .ok (.aload_n 0, 1) ∧ 49 + 1 = 50 := by decide +kernel
theorem e_X3_readMonk_50 : decode cX3_readMonk 50 = .ok (.getfield 88, 3) ∧ 50 + 3 = 53 := by decide +kernel
theorem e_X3_readMonk_53 : decode cX3_readMonk 53 = .ok (.iload_n 2, 1) ∧ 53 + 1 = 54 := by decide +kernel
theorem e_X3_readMonk_54 : decode cX3_readMonk 54 = .ok (.iastore, 1) ∧ 54 + 1 = 55 := by decide +kernel
theorem e_X3_readMonk_55 : decode cX3_readMonk 55 = .ok (.aload_n 0, 1) ∧ 55 + 1 = 56 := by decide +kernel
theorem e_X3_readMonk_56 : decode cX3_readMonk 56 = .ok (.dup, 1) ∧ 56 + 1 = 57 := by decide +kernel
theorem e_X3_readMonk_57 : decode cX3_readMonk 57 = .ok (.getfield 88, 3) ∧ 57 + 3 = 60 := by decide +kernel
theorem e_X3_readMonk_60 : decode cX3_readMonk 60 = .ok (.iconst 1, 1) ∧ 60 + 1 = 61 := by decide +kernel
theorem e_X3_readMonk_61 : decode cX3_readMonk 61 = .ok (.iadd, 1) ∧ 61 + 1 = 62 := by decide +kernel
theorem e_X3_readMonk_62 : decode cX3_readMonk 62 = .ok (.putfield 88, 3) ∧ 62 + 3 = 65 := by decide +kernel
theorem e_X3_readMonk_65 : decode cX3_readMonk 65 = .ok (.iconst 1, 1) ∧ 65 + 1 = 66 := by decide +kernel
theorem e_X3_readMonk_66 : decode cX3_readMonk 66 = .ok (.ireturn, 1) := by decide +kernel
theorem e_X3_readPart_0 : decode cX3_readPart 0 = .ok (.aload_n 0, 1) ∧ 0 + 1 = 1 := by decide +kernel
theorem e_X3_readPart_1 : decode cX3_readPart 1 = .ok (.getfield 7, 3) ∧ 1 + 3 = 4 := by decide +kernel
theorem e_X3_readPart_4 : decode cX3_readPart 4 = .ok (.aload_n 0, 1) ∧ 4 + 1 = 5 := by decide +kernel
theorem e_X3_readPart_5 : decode cX3_readPart 5 = .ok (.getfield 65, 3) ∧ 5 + 3 = 8 := by decide +kernel
theorem e_X3_readPart_8 : decode cX3_readPart 8 = .ok (.iaload, 1) ∧ 8 + 1 = 9 := by decide +kernel
theorem e_X3_readPart_9 : decode cX3_readPart 9 = .ok (.istore_n 1, 1) ∧ 9 + 1 = 10 := by decide +kernel
theorem e_X3_readPart_10 : decode cX3_readPart 10 = .ok (.iload_n 1, 1) ∧ 10 + 1 = 11 := by decide +kernel
theorem e_X3_readPart_11 : decode cX3_readPart 11 = .ok (.bipush 67, 2) ∧ 11 + 2 = 13 := by decide +kernel
theorem e_X3_readPart_13 : decode cX3_readPart 13 = .ok (.if_icmp .ne 27, 3) ∧ 13 + 3 = 16 ∧ ((13 : Nat) : Int) + (27) = ((40 : Nat) : Int) := by decide +kernel
theorem e_X3_readPart_16 : decode cX3_readPart 16 = .ok (.aload_n 0, 1) ∧ 16 + 1 = 17 := by decide +kernel
theorem e_X3_readPart_17 : decode cX3_readPart 17 = .ok (.getfield 85, 3) ∧ 17 + 3 = 20 := by decide +kernel
theorem e_X3_readPart_20 : decode cX3_readPart 20 = .ok (.bipush 8, 2) ∧ 20 + 2 = 22 := by decide +kernel
theorem e_X3_readPart_22 : decode cX3_readPart 22 = .ok (.if_icmp .ge 18, 3) ∧ 22 + 3 = 25 ∧ ((22 : Nat) : Int) + (18) = ((40 : Nat) : Int) := by decide +kernel
theorem e_X3_readPart_25 : decode cX3_readPart 25 = .ok (.aload_n 0, 1) ∧ 25 + 1 = 26 := by decide +kernel
theorem e_X3_readPart_26 : decode cX3_readPart 26 = .ok (.dup, 1) ∧ 26 + 1 = 27 := by decide +kernel
theorem e_X3_readPart_27 : decode cX3_readPart 27 = .ok (.getfield 65, 3) ∧ 27 + 3 = 30 := by decide +kernel
theorem e_X3_readPart_30 : decode cX3_readPart 30 = .ok (.iconst 1, 1) ∧ 30 + 1 = 31 := by decide +kernel
theorem e_X3_readPart_31 : decode cX3_readPart 31 = .ok (.iadd, 1) ∧ 31 + 1 = 32 := by decide +kernel
theorem e_X3_readPart_32 : decode cX3_readPart 32 = .ok (.putfield 65, 3) ∧ 32 + 3 = 35 := by decide +kernel
theorem e_X3_readPart_35 : decode cX3_readPart 35 = .ok (.aload_n 0, 1) ∧ 35 + 1 = 36 := by decide +kernel
theorem e_X3_readPart_36 : decode cX3_readPart 36 = .ok (.invokevirtual 91, 3) ∧ 36 + 3 = 39 := by decide +kernel
theorem e_X3_readPart_39 : decode cX3_readPart 39 = .ok (.ireturn, 1) := by decide +kernel
theorem e_X3_readPart_40 : decode cX3_readPart 40 = .ok (.iload_n 1, 1) ∧ 40 + 1 = 41 := by decide +kernel
theorem e_X3_readPart_41 : decode cX3_readPart 41 = .ok (.bipush 75, 2) ∧ 41 + 2 = 43 := by decide +kernel
theorem e_X3_readPart_43 : decode cX3_readPart 43 = .ok (.if_icmp .ne 26, 3) ∧ 43 + 3 = 46 ∧ ((43 : Nat) : Int) + (26) = ((69 : Nat) : Int) := by decide +kernel
theorem e_X3_readPart_46 : decode cX3_readPart 46 = .ok (.aload_n 0, 1) ∧ 46 + 1 = 47 := by decide +kernel
theorem e_X3_readPart_47 : decode cX3_readPart 47 = .ok (.getfield 88, 3) ∧ 47 + 3 = 50 := by decide +kernel
theorem e_X3_readPart_50 : decode cX3_readPart 50 = .ok (.iconst 4, 1) ∧ 50 + 1 = 51 := by decide +kernel
theorem e_X3_readPart_51 : decode cX3_readPart 51 = .ok (.if_icmp .ge 18, 3) ∧ 51 + 3 = 54 ∧ ((51 : Nat) : Int) + (18) = ((69 : Nat) : Int) := by decide +kernel
theorem e_X3_readPart_54 : decode cX3_readPart 54 = .ok (.aload_n 0, 1) ∧ 54 + 1 = 55 := by decide +kernel
theorem e_X3_readPart_55 : decode cX3_readPart 55 = .ok (.dup, 1) ∧ 55 + 1 = 56 := by decide +kernel
theorem e_X3_readPart_56 : decode cX3_readPart 56 = .ok (.getfield 65, 3) ∧ 56 + 3 = 59 := by decide +kernel
theorem e_X3_readPart_59 : decode cX3_readPart 59 = .ok (.iconst 1, 1) ∧ 59 + 1 = 60 := by decide +kernel
theorem e_X3_readPart_60 : decode cX3_readPart 60 = .ok (.iadd, 1) ∧ 60 + 1 = 61 := by decide +kernel
theorem e_X3_readPart_61 : decode cX3_readPart 61 = .ok (.putfield 65, 3) ∧ 61 + 3 = 64 := by decide +kernel
theorem e_X3_readPart_64 : decode cX3_readPart 64 = .ok (.aload_n 0, 1) ∧ 64 + 1 = 65 := by decide +kernel
theorem e_X3_readPart_65 : decode cX3_readPart 65 = .ok (.invokevirtual 95, 3) ∧ 65 + 3 = 68 := by decide +kernel
theorem e_X3_readPart_68 : decode cX3_readPart 68 = .ok (.ireturn, 1) := by decide +kernel
theorem e_X3_readPart_69 : decode cX3_readPart 69 = .ok (.iconst 0, 1) ∧ 69 + 1 = 70 := by decide +kernel
theorem e_X3_readPart_70 : decode cX3_readPart 70 = .ok (.ireturn, 1) := by decide +kernel
theorem e_X3_readMine_0 : decode cX3_readMine 0 = .ok (.aload_n 0, 1) ∧ 0 + 1 = 1 := by decide +kernel
theorem e_X3_readMine_1 : decode cX3_readMine 1 = .ok (.iconst 0, 1) ∧ 1 + 1 = 2 := by decide +kernel
theorem e_X3_readMine_2 : decode cX3_readMine 2 = .ok (.putfield 65, 3) ∧ 2 + 3 = 5 := by decide +kernel
theorem e_X3_readMine_5 : decode cX3_readMine 5 = .ok (.aload_n 0, 1) ∧ 5 + 1 = 6 := by decide +kernel
theorem e_X3_readMine_6 : decode cX3_readMine 6 = .ok (.iconst 0, 1) ∧ 6 + 1 = 7 := by decide +kernel
theorem e_X3_readMine_7 : decode cX3_readMine 7 = .ok (.putfield 88, 3) ∧ 7 + 3 = 10 := by decide +kernel
theorem e_X3_readMine_10 : decode cX3_readMine 10 = .ok (.aload_n 0, 1) ∧ 10 + 1 = 11 := by decide +kernel
theorem e_X3_readMine_11 : decode cX3_readMine 11 = .ok (.iconst 0, 1) ∧ 11 + 1 = 12 := by decide +kernel
theorem e_X3_readMine_12 : decode cX3_readMine 12 = .ok (.putfield 85, 3) ∧ 12 + 3 = 15 := by decide +kernel
theorem e_X3_readMine_15 : decode cX3_readMine 15 = .ok (.aload_n 0, 1) ∧ 15 + 1 = 16 := by decide +kernel
theorem e_X3_readMine_16 : decode cX3_readMine 16 = .ok (.iconst 0, 1) ∧ 16 + 1 = 17 := by decide +kernel
theorem e_X3_readMine_17 : decode cX3_readMine 17 = .ok (.putfield 74, 3) ∧ 17 + 3 = 20 := by decide +kernel
theorem e_X3_readMine_20 : decode cX3_readMine 20 = .ok (.iconst 0, 1) ∧ 20 + 1 = 21 := by decide +kernel
theorem e_X3_readMine_21 : decode cX3_readMine 21 = .ok (.istore_n 1, 1) ∧ 21 + 1 = 22 := by decide +kernel
theorem e_X3_readMine_22 : decode cX3_readMine 22 = .ok (.iload_n 1, 1) ∧ 22 + 1 = 23 := by decide +kernel
theorem e_X3_readMine_23 : decode cX3_readMine 23 = .ok (.bipush 58, 2) ∧ 23 + 2 = 25 := by decide +kernel
theorem e_X3_readMine_25 : decode cX3_readMine 25 = .ok (.if_icmp .ge 16, 3) ∧ 25 + 3 = 28 ∧ ((25 : Nat) : Int) + (16) = ((41 : Nat) : Int) := by decide +kernel
theorem e_X3_readMine_28 : decode cX3_readMine 28 = .ok (.aload_n 0, 1) ∧ 28 + 1 = 29 := by decide +kernel
theorem e_X3_readMine_29 : decode cX3_readMine 29 = .ok (.getfield 23, 3) ∧ 29 + 3 = 32 := by decide +kernel
theorem e_X3_readMine_32 : decode cX3_readMine 32 = .ok (.iload_n 1, 1) ∧ 32 + 1 = 33 := by decide +kernel
theorem e_X3_readMine_33 : decode cX3_readMine 33 = .ok (.iconst 0, 1) ∧ 33 + 1 = 34 := by decide +kernel
theorem e_X3_readMine_34 : decode cX3_readMine 34 = .ok (.iastore, 1) ∧ 34 + 1 = 35 := by decide +kernel
theorem e_X3_readMine_35 : decode cX3_readMine 35 = .ok (.iinc 1 1, 3) ∧ 35 + 3 = 38 := by decide +kernel
theorem e_X3_readMine_38 : decode cX3_readMine 38 = .ok (.goto (-16), 3) ∧ 38 + 3 = 41 ∧ ((38 : Nat) : Int) + (-16) = ((22 : Nat) : Int) := by decide +kernel
theorem e_X3_readMine_41 : decode cX3_readMine 41 = .ok (.aload_n 0, 1) ∧ 41 + 1 = 42 := by decide +kernel
theorem e_X3_readMine_42 : decode cX3_readMine 42 = .ok (.getfield 62, 3) ∧ 42 + 3 = 45 := by decide +kernel
theorem e_X3_readMine_45 : decode cX3_readMine 45 = .ok (.ifCond .eq 14, 3) ∧ 45 + 3 = 48 ∧ ((45 : Nat) : Int) + (14) = ((59 : Nat) : Int) := by decide +kernel
theorem e_X3_readMine_48 : decode cX3_readMine 48 = .ok (.aload_n 0, 1) ∧ 48 + 1 = 49 := by decide +kernel
theorem e_X3_readMine_49 : decode cX3_readMine 49 = .ok (.getfield 7, 3) ∧ 49 + 3 = 52 := by decide +kernel
theorem e_X3_readMine_52 : decode cX3_readMine 52 = .ok (.iconst 0, 1) ∧ 52 + 1 = 53 := by decide +kernel
theorem e_X3_readMine_53 : decode cX3_readMine 53 = .ok (.iaload, 1) ∧ 53 + 1 = 54 := by decide +kernel
theorem e_X3_readMine_54 : decode cX3_readMine 54 = .ok (.bipush 77, 2) ∧ 54 + 2 = 56 := by decide +kernel
theorem e_X3_readMine_56 : decode cX3_readMine 56 = .ok (.if_icmp .eq 5, 3) ∧ 56 + 3 = 59 ∧ ((56 : Nat) : Int) + (5) = ((61 : Nat) : Int) := by decide +kernel
theorem e_X3_readMine_59 : decode cX3_readMine 59 = .ok (.iconst 0, 1) ∧ 59 + 1 = 60 := by decide +kernel
theorem e_X3_readMine_60 : decode cX3_readMine 60 = .ok (.ireturn, 1) := by decide +kernel
theorem e_X3_readMine_61 : decode cX3_readMine 61 = .ok (.aload_n 0, 1) ∧ 61 + 1 = 62 := by decide +kernel
theorem e_X3_readMine_62 : decode cX3_readMine 62 = .ok (.iconst 1, 1) ∧ 62 + 1 = 63 := by decide +kernel
theorem e_X3_readMine_63 : decode cX3_readMine 63 = .ok (.putfield 65, 3) ∧ 63 + 3 = 66 := by decide +kernel
theorem e_X3_readMine_66 : decode cX3_readMine 66 = .ok (.aload_n 0, 1) ∧ 66 + 1 = 67 := by decide +kernel
theorem e_X3_readMine_67 : decode cX3_readMine 67 = .ok (.aload_n 0, 1) ∧ 67 + 1 = 68 := by decide +kernel
theorem e_X3_readMine_68 : decode cX3_readMine 68 = .ok (.iconst 1, 1) ∧ 68 + 1 = 69 := by decide +kernel
theorem e_X3_readMine_69 : decode cX3_readMine 69 = .ok (.bipush 9, 2) ∧ 69 + 2 = 71 := by decide +kernel
theorem e_X3_readMine_71 : decode cX3_readMine 71 = .ok (.invokevirtual 81, 3) ∧ 71 + 3 = 74 := by decide +kernel
theorem e_X3_readMine_74 : decode cX3_readMine 74 = .ok (.putfield 98, 3) ∧ 74 + 3 = 77 := by decide +kernel
theorem e_X3_readMine_77 : decode cX3_readMine 77 = .ok (.aload_n 0, 1) ∧ 77 + 1 = 78 := by decide +kernel
theorem e_X3_readMine_78 : decode cX3_readMine 78 = .ok (.getfield 98, 3) ∧ 78 + 3 = 81 := by decide +kernel
theorem e_X3_readMine_81 : decode cX3_readMine 81 = .ok (.bipush (-9), 2) ∧ 81 + 2 = 83 := by decide +kernel
theorem e_X3_readMine_83 : decode cX3_readMine 83 = .ok (.if_icmp .ne 5, 3) ∧ 83 + 3 = 86 ∧ ((83 : Nat) : Int) + (5) = ((88 : Nat) : Int) := by decide +kernel
theorem e_X3_readMine_86 : decode cX3_readMine 86 = .ok (.iconst 1, 1) ∧ 86 + 1 = 87 := by decide +kernel
theorem e_X3_readMine_87 : decode cX3_readMine 87 = .ok (.ireturn, 1) := by decide +kernel
theorem e_X3_readMine_88 : decode cX3_readMine 88 = .ok (.aload_n 0, 1) ∧ 88 + 1 = 89 := by decide +kernel
theorem e_X3_readMine_89 : decode cX3_readMine 89 = .ok (.getfield 65, 3) ∧ 89 + 3 = 92 := by decide +kernel
theorem e_X3_readMine_92 : decode cX3_readMine 92 = .ok (.aload_n 0, 1) ∧ 92 + 1 = 93 := by decide +kernel
theorem e_X3_readMine_93 : decode cX3_readMine 93 = .ok (.getfield 62, 3) ∧ 93 + 3 = 96 := by decide +kernel
theorem e_X3_readMine_96 : decode cX3_readMine 96 = .ok (.if_icmp .ge 15, 3) ∧ 96 + 3 = 99 ∧ ((96 : Nat) : Int) + (15) = ((111 : Nat) : Int) := by decide +kernel
theorem e_X3_readMine_99 : decode cX3_readMine 99 = .ok (.aload_n 0, 1) ∧ 99 + 1 = 100 := by decide +kernel
theorem e_X3_readMine_100 : decode cX3_readMine 100 = .ok (.invokevirtual 101, 3) ∧ 100 + 3 = 103 := by decide +kernel
theorem e_X3_readMine_103 : decode cX3_readMine 103 = .ok (.ifCond .ne (-15), 3) ∧ 103 + 3 = 106 ∧ ((103 : Nat) : Int) + (-15) = ((88 : Nat) : Int) := by decide +kernel
theorem e_X3_readMine_106 : decode cX3_readMine 106 = .ok (.aload_n 0, 1) ∧ 106 + 1 = 107 := by decide +kernel
theorem e_X3_readMine_107 : decode cX3_readMine 107 = .ok (.getfield 65, 3) ∧ 107 + 3 = 110 := by decide +kernel
theorem e_X3_readMine_110 : decode cX3_readMine 110 = .ok (.ireturn, 1) := by decide +kernel
theorem e_X3_readMine_111 : decode cX3_readMine 111 = .ok (.bipush (-9), 2) ∧ 111 + 2 = 113 := by decide +kernel
theorem e_X3_readMine_113 : decode cX3_readMine 113 = .ok (.ireturn, 1) := by decide +kernel
theorem e_X3_fault_0 : decode cX3_fault 0 = .ok (.aload_n 0, 1) ∧ 0 + 1 = 1 := by decide +kernel
theorem e_X3_fault_1 : decode cX3_fault 1 = .ok (.iconst 0, 1) ∧ 1 + 1 = 2 := by decide +kernel
theorem e_X3_fault_2 : decode cX3_fault 2 = .ok (.putfield 48, 3) ∧ 2 + 3 = 5 := by decide +kernel
theorem e_X3_fault_5 : decode cX3_fault 5 = .ok (.aload_n 0, 1) ∧ 5 + 1 = 6 := by decide +kernel
theorem e_X3_fault_6 : decode cX3_fault 6 = .ok (.invokevirtual 104, 3) ∧ 6 + 3 = 9 := by decide +kernel
theorem e_X3_fault_9 : decode cX3_fault 9 = .ok (.ireturn, 1) := by decide +kernel
theorem e_X3_mine_0 : decode cX3_mine 0 = .ok (.aload_n 0, 1) ∧ 0 + 1 = 1 := by decide +kernel
theorem e_X3_mine_1 : decode cX3_mine 1 = .ok (.iconst 0, 1) ∧ 1 + 1 = 2 := by decide +kernel
theorem e_X3_mine_2 : decode cX3_mine 2 = .ok (.putfield 48, 3) ∧ 2 + 3 = 5 := by decide +kernel
theorem e_X3_mine_5 : decode cX3_mine 5 = .ok (.aload_n 0, 1) ∧ 5 + 1 = 6 := by decide +kernel
theorem e_X3_mine_6 : decode cX3_mine 6 = .ok (.invokevirtual 104, 3) ∧ 6 + 3 = 9 := by decide +kernel
theorem e_X3_mine_9 : decode cX3_mine 9 = .ok (.bipush (-9), 2) ∧ 9 + 2 = 11 := by decide +kernel
theorem e_X3_mine_11 : decode cX3_mine 11 = .ok (.if_icmp .eq 6, 3) ∧ 11 + 3 = 14 ∧ ((11 : Nat) : Int) + (6) = ((17 : Nat) : Int) := by decide +kernel
theorem e_X3_mine_14 : decode cX3_mine 14 = .ok (.bipush (-3), 2) ∧ 14 + 2 = 16 := by decide +kernel
theorem e_X3_mine_16 : decode cX3_mine 16 = .ok (.ireturn, 1) := by decide +kernel
theorem e_X3_mine_17 : decode cX3_mine 17 = .ok (.aload_n 0, 1) ∧ 17 + 1 = 18 := by decide +kernel
theorem e_X3_mine_18 : decode cX3_mine 18 = .ok (.aload_n 0, 1) ∧ 18 + 1 = 19 := by decide +kernel
theorem e_X3_mine_19 : decode cX3_mine 19 = .ok (.getfield 98, 3) ∧ 19 + 3 = 22 := by decide +kernel
theorem e_X3_mine_22 : decode cX3_mine 22 = .ok (.putfield 13, 3) ∧ 22 + 3 = 25 := by decide +kernel
theorem e_X3_mine_25 : decode cX3_mine 25 = .ok (.aload_n 0, 1) ∧ 25 + 1 = 26 := by decide +kernel
theorem e_X3_mine_26 : decode cX3_mine 26 = .ok (.aload_n 0, 1) ∧ 26 + 1 = 27 := by decide +kernel
theorem e_X3_mine_27 : decode cX3_mine 27 = .ok (.getfield 88, 3) ∧ 27 + 3 = 30 := by decide +kernel
theorem e_X3_mine_30 : decode cX3_mine 30 = .ok (.putfield 51, 3) ∧ 30 + 3 = 33 := by decide +kernel
theorem e_X3_mine_33 : decode cX3_mine 33 = .ok (.iconst 0, 1) ∧ 33 + 1 = 34 := by decide +kernel
theorem e_X3_mine_34 : decode cX3_mine 34 = .ok (.istore_n 1, 1) ∧ 34 + 1 = 35 := by decide +kernel
theorem e_X3_mine_35 : decode cX3_mine 35 = .ok (.iload_n 1, 1) ∧ 35 + 1 = 36 := by decide +kernel
theorem e_X3_mine_36 : decode cX3_mine 36 = .ok (.bipush 58, 2) ∧ 36 + 2 = 38 := by decide +kernel
theorem e_X3_mine_38 : decode cX3_mine 38 = .ok (.if_icmp .ge 21, 3) ∧ 38 + 3 = 41 ∧ ((38 : Nat) : Int) + (21) = ((59 : Nat) : Int) := by decide +kernel
theorem e_X3_mine_41 : decode cX3_mine 41 = .ok (.aload_n 0, 1) ∧ 41 + 1 = 42 := by decide +kernel
theorem e_X3_mine_42 : decode cX3_mine 42 = .ok (.getfield 20, 3) ∧ 42 + 3 = 45 := by decide +kernel
theorem e_X3_mine_45 : decode cX3_mine 45 = .ok (.iload_n 1, 1) ∧ 45 + 1 = 46 := by decide +kernel
theorem e_X3_mine_46 : decode cX3_mine 46 = .ok (.aload_n 0, 1) ∧ 46 + 1 = 47 := by decide +kernel
theorem e_X3_mine_47 : decode cX3_mine 47 = .ok (.getfield 23, 3) ∧ 47 + 3 = 50 := by decide +kernel
theorem e_X3_mine_50 : decode cX3_mine 50 = .ok (.iload_n 1, 1) ∧ 50 + 1 = 51 := by decide +kernel
theorem e_X3_mine_51 : decode cX3_mine 51 = .ok (.iaload, 1) ∧ 51 + 1 = 52 := by decide +kernel
theorem e_X3_mine_52 : decode cX3_mine 52 = .ok (.iastore, 1) ∧ 52 + 1 = 53 := by decide +kernel
theorem e_X3_mine_53 : decode cX3_mine 53 = .ok (.iinc 1 1, 3) ∧ 53 + 3 = 56 := by decide +kernel
theorem e_X3_mine_56 : decode cX3_mine 56 = .ok (.goto (-21), 3) ∧ 56 + 3 = 59 ∧ ((56 : Nat) : Int) + (-21) = ((35 : Nat) : Int) := by decide +kernel
theorem e_X3_mine_59 : decode cX3_mine 59 = .ok (.iconst 0, 1) ∧ 59 + 1 = 60 := by decide +kernel
theorem e_X3_mine_60 : decode cX3_mine 60 = .ok (.istore_n 1, 1) ∧ 60 + 1 = 61 := by decide +kernel
theorem e_X3_mine_61 : decode cX3_mine 61 = .ok (.iload_n 1, 1) ∧ 61 + 1 = 62 := by decide +kernel
theorem e_X3_mine_62 : decode cX3_mine 62 = .ok (.aload_n 0, 1) ∧ 62 + 1 = 63 := by decide +kernel
theorem e_X3_mine_63 : decode cX3_mine 63 = .ok (.getfield 51, 3) ∧ 63 + 3 = 66 := by decide +kernel
theorem e_X3_mine_66 : decode cX3_mine 66 = .ok (.if_icmp .ge 21, 3) ∧ 66 + 3 = 69 ∧ ((66 : Nat) : Int) + (21) = ((87 : Nat) : Int) := by decide +kernel
theorem e_X3_mine_69 : decode cX3_mine 69 = .ok (.aload_n 0, 1) ∧ 69 + 1 = 70 := by decide +kernel
theorem e_X3_mine_70 : decode cX3_mine 70 = .ok (.getfield 17, 3) ∧ 70 + 3 = 73 := by decide +kernel
theorem e_X3_mine_73 : decode cX3_mine 73 = .ok (.iload_n 1, 1) ∧ 73 + 1 = 74 := by decide +kernel
theorem e_X3_mine_74 : decode cX3_mine 74 = .ok (.aload_n 0, 1) ∧ 74 + 1 = 75 := by decide +kernel
theorem e_X3_mine_75 : decode cX3_mine 75 = .ok (.getfield 26, 3) ∧ 75 + 3 = 78 := by decide +kernel
theorem e_X3_mine_78 : decode cX3_mine 78 = .ok (.iload_n 1, 1) ∧ 78 + 1 = 79 := by decide +kernel
theorem e_X3_mine_79 : decode cX3_mine 79 = .ok (.iaload, 1) ∧ 79 + 1 = 80 := by decide +kernel
theorem e_X3_mine_80 : decode cX3_mine 80 = .ok (.iastore, 1) ∧ 80 + 1 = 81 := by decide +kernel
theorem e_X3_mine_81 : decode cX3_mine 81 = .ok (.iinc 1 1, 3) ∧ 81 + 3 = 84 := by decide +kernel
theorem e_X3_mine_84 : decode cX3_mine 84 = .ok (.goto (-23), 3) ∧ 84 + 3 = 87 ∧ ((84 : Nat) : Int) + (-23) = ((61 : Nat) : Int) := by decide +kernel
theorem e_X3_mine_87 : decode cX3_mine 87 = .ok (.aload_n 0, 1) ∧ 87 + 1 = 88 := by decide +kernel
theorem e_X3_mine_88 : decode cX3_mine 88 = .ok (.iconst 0, 1) ∧ 88 + 1 = 89 := by decide +kernel
theorem e_X3_mine_89 : decode cX3_mine 89 = .ok (.putfield 108, 3) ∧ 89 + 3 = 92 := by decide +kernel
theorem e_X3_mine_92 : decode cX3_mine 92 = .ok (.aload_n 0, 1) ∧ 92 + 1 = 93 := by decide +kernel
theorem e_X3_mine_93 : decode cX3_mine 93 = .ok (.getfield 35, 3) ∧ 93 + 3 = 96 := by decide +kernel
theorem e_X3_mine_96 : decode cX3_mine 96 = .ok (.iconst 0, 1) ∧ 96 + 1 = 97 := by decide +kernel
theorem e_X3_mine_97 : decode cX3_mine 97 = .ok (.iconst 0, 1) ∧ 97 + 1 = 98 := by decide +kernel
theorem e_X3_mine_98 : decode cX3_mine 98 = .ok (.bastore, 1) ∧ 98 + 1 = 99 := by decide +kernel
theorem e_X3_mine_99 : decode cX3_mine 99 = .ok (.aload_n 0, 1) ∧ 99 + 1 = 100 := by decide +kernel
theorem e_X3_mine_100 : decode cX3_mine 100 = .ok (.getfield 35, 3) ∧ 100 + 3 = 103 := by decide +kernel
theorem e_X3_mine_103 : decode cX3_mine 103 = .ok (.iconst 1, 1) ∧ 103 + 1 = 104 := by decide +kernel
theorem e_X3_mine_104 : decode cX3_mine 104 = .ok (.iconst 0, 1) ∧ 104 + 1 = 105 := by decide +kernel
theorem e_X3_mine_105 : decode cX3_mine 105 = .ok (.bastore, 1) ∧ 105 + 1 = 106 := by decide +kernel
theorem e_X3_mine_106 : decode cX3_mine 106 = .ok (.aload_n 0, 1) ∧ 106 + 1 = 107 := by decide +kernel
theorem e_X3_mine_107 : decode cX3_mine 107 = .ok (.getfield 51, 3) ∧ 107 + 3 = 110 := by decide +kernel
theorem e_X3_mine_110 : decode cX3_mine 110 = .ok (.ireturn, 1) := by decide +kernel
theorem e_X3_areNext_0 : decode cX3_areNext 0 = .ok (.iload_n 0, 1) ∧ 0 + 1 = 1 := by decide +kernel
theorem e_X3_areNext_1 : decode cX3_areNext 1 = .ok (.iconst 4, 1) ∧ 1 + 1 = 2 := by decide +kernel
theorem e_X3_areNext_2 : decode cX3_areNext 2 = .ok (.irem, 1) ∧ 2 + 1 = 3 := by decide +kernel
theorem e_X3_areNext_3 : decode cX3_areNext 3 = .ok (.iload_n 1, 1) ∧ 3 + 1 = 4 := by decide +kernel
theorem e_X3_areNext_4 : decode cX3_areNext 4 = .ok (.iconst 4, 1) ∧ 4 + 1 = 5 := by decide +kernel
theorem e_X3_areNext_5 : decode cX3_areNext 5 = .ok (.irem, 1) ∧ 5 + 1 = 6 := by decide +kernel
theorem e_X3_areNext_6 : decode cX3_areNext 6 = .ok (.isub, 1) ∧ 6 + 1 = 7 := by decide +kernel
theorem e_X3_areNext_7 : decode cX3_areNext 7 = .ok (.istore_n 2, 1) ∧ 7 + 1 = 8 := by decide +kernel
theorem e_X3_areNext_8 : decode cX3_areNext 8 = .ok (.iload_n 0, 1) ∧ 8 + 1 = 9 := by decide +kernel
theorem e_X3_areNext_9 : decode cX3_areNext 9 = .ok (.iconst 4, 1) ∧ 9 + 1 = 10 := by decide +kernel
theorem e_X3_areNext_10 : decode cX3_areNext 10 = .ok (.idiv, 1) ∧ 10 + 1 = 11 := by decide +kernel
theorem e_X3_areNext_11 : decode cX3_areNext 11 = .ok (.iload_n 1, 1) ∧ 11 + 1 = 12 := by decide +kernel
theorem e_X3_areNext_12 : decode cX3_areNext 12 = .ok (.iconst 4, 1) ∧ 12 + 1 = 13 := by decide +kernel
theorem e_X3_areNext_13 : decode cX3_areNext 13 = .ok (.idiv, 1) ∧ 13 + 1 = 14 := by decide +kernel
theorem e_X3_areNext_14 : decode cX3_areNext 14 = .ok (.isub, 1) ∧ 14 + 1 = 15 := by decide +kernel
theorem e_X3_areNext_15 : decode cX3_areNext 15 = .ok (.istore_n 3, 1) ∧ 15 + 1 = 16 := by decide +kernel
theorem e_X3_areNext_16 : decode cX3_areNext 16 = .ok (.iload_n 2, 1) ∧ 16 + 1 = 17 := by decide +kernel
theorem e_X3_areNext_17 : decode cX3_areNext 17 = .ok (.iload_n 2, 1) ∧ 17 + 1 = 18 := by decide +kernel
theorem e_X3_areNext_18 : decode cX3_areNext 18 = .ok (.imul, 1) ∧ 18 + 1 = 19 := by decide +kernel
theorem e_X3_areNext_19 : decode cX3_areNext 19 = .ok (.iload_n 3, 1) ∧ 19 + 1 = 20 := by decide +kernel
theorem e_X3_areNext_20 : decode cX3_areNext 20 = .ok (.iload_n 3, 1) ∧ 20 + 1 = 21 := by decide +kernel
theorem e_X3_areNext_21 : decode cX3_areNext 21 = .ok (.imul, 1) ∧ 21 + 1 = 22 := by decide +kernel
theorem e_X3_areNext_22 : decode cX3_areNext 22 = .ok (.iadd, 1) ∧ 22 + 1 = 23 := by decide +kernel
theorem e_X3_areNext_23 : decode cX3_areNext 23 = .ok (.iconst 1, 1) ∧ 23 + 1 = 24 := by decide +kernel
theorem e_X3_areNext_24 : decode cX3_areNext 24 = .ok (.if_icmp .ne 7, 3) ∧ 24 + 3 = 27 ∧ ((24 : Nat) : Int) + (7) = ((31 : Nat) : Int) := by decide +kernel
theorem e_X3_areNext_27 : decode cX3_areNext 27 = .ok (.iconst 1, 1) ∧ 27 + 1 = 28 := by decide +kernel
theorem e_X3_areNext_28 : decode cX3_areNext 28 = .ok (.goto 4, 3) ∧ 28 + 3 = 31 ∧ ((28 : Nat) : Int) + (4) = ((32 : Nat) : Int) := by decide +kernel
theorem e_X3_areNext_31 : decode cX3_areNext 31 = .ok (.iconst 0, 1) ∧ 31 + 1 = 32 := by decide +kernel
theorem e_X3_areNext_32 : decode cX3_areNext 32 = .ok (.ireturn, 1) := by decide +kernel
theorem e_X3_thereOf_0 : decode cX3_thereOf 0 = .ok (.iconst 0, 1) ∧ 0 + 1 = 1 := by decide +kernel
theorem e_X3_thereOf_1 : decode cX3_thereOf 1 = .ok (.istore_n 2, 1) ∧ 1 + 1 = 2 := by decide +kernel
theorem e_X3_thereOf_2 : decode cX3_thereOf 2 = .ok (.iconst 0, 1) ∧ 2 + 1 = 3 := by decide +kernel
theorem e_X3_thereOf_3 : decode cX3_thereOf 3 = .ok (.istore_n 3, 1) ∧ 3 + 1 = 4 := by decide +kernel
theorem e_X3_thereOf_4 : decode cX3_thereOf 4 = .ok (.iload_n 3, 1) ∧ 4 + 1 = 5 := by decide +kernel
theorem e_X3_thereOf_5 : decode cX3_thereOf 5 = .ok (.aload_n 0, 1) ∧ 5 + 1 = 6 := by decide +kernel
theorem e_X3_thereOf_6 : decode cX3_thereOf 6 = .ok (.getfield 51, 3) ∧ 6 + 3 = 9 := by decide +kernel
theorem e_X3_thereOf_9 : decode cX3_thereOf 9 = .ok (.if_icmp .ge 32, 3) ∧ 9 + 3 = 12 ∧ ((9 : Nat) : Int) + (32) = ((41 : Nat) : Int) := by decide +kernel
theorem e_X3_thereOf_12 : decode cX3_thereOf 12 = .ok (.iload_n 2, 1) ∧ 12 + 1 = 13 := by decide +kernel
theorem e_X3_thereOf_13 : decode cX3_thereOf 13 = .ok (.aload_n 0, 1) ∧ 13 + 1 = 14 := by decide +kernel
theorem e_X3_thereOf_14 : decode cX3_thereOf 14 = .ok (.getfield 20, 3) ∧ 14 + 3 = 17 := by decide +kernel
theorem e_X3_thereOf_17 : decode cX3_thereOf 17 = .ok (.bipush 49, 2) ∧ 17 + 2 = 19 := by decide +kernel
theorem e_X3_thereOf_19 : decode cX3_thereOf 19 = .ok (.iload_n 3, 1) ∧ 19 + 1 = 20 := by decide +kernel
theorem e_X3_thereOf_20 : decode cX3_thereOf 20 = .ok (.iadd, 1) ∧ 20 + 1 = 21 := by decide +kernel
theorem e_X3_thereOf_21 : decode cX3_thereOf 21 = .ok (.iaload, 1) ∧ 21 + 1 = 22 := by decide +kernel
theorem e_X3_thereOf_22 : decode cX3_thereOf 22 = .ok (.iload_n 1, 1) ∧ 22 + 1 = 23 := by decide +kernel
theorem e_X3_thereOf_23 : decode cX3_thereOf 23 = .ok (.if_icmp .ne 9, 3) ∧ 23 + 3 = 26 ∧ ((23 : Nat) : Int) + (9) = ((32 : Nat) : Int) := by decide +kernel
theorem e_X3_thereOf_26 : decode cX3_thereOf 26 = .ok (.iconst 1, 1) ∧ 26 + 1 = 27 := by decide +kernel
theorem e_X3_thereOf_27 : decode cX3_thereOf 27 = .ok (.iload_n 3, 1) ∧ 27 + 1 = 28 := by decide +kernel
theorem e_X3_thereOf_28 : decode cX3_thereOf 28 = .ok (.ishl, 1) ∧ 28 + 1 = 29 := by decide +kernel
theorem e_X3_thereOf_29 : decode cX3_thereOf 29 = .ok (.goto 4, 3) ∧ 29 + 3 = 32 ∧ ((29 : Nat) : Int) + (4) = ((33 : Nat) : Int) := by decide +kernel
theorem e_X3_thereOf_32 : decode cX3_thereOf 32 = .ok (.iconst 0, 1) ∧ 32 + 1 = 33 := by decide +kernel
theorem e_X3_thereOf_33 : decode cX3_thereOf 33 = .ok (.ior, 1) ∧ 33 + 1 = 34 := by decide +kernel
theorem e_X3_thereOf_34 : decode cX3_thereOf 34 = .ok (.istore_n 2, 1) ∧ 34 + 1 = 35 := by decide +kernel
theorem e_X3_thereOf_35 : decode cX3_thereOf 35 = .ok (.iinc 3 1, 3) ∧ 35 + 3 = 38 := by decide +kernel
theorem e_X3_thereOf_38 : decode cX3_thereOf 38 = .ok (.goto (-34), 3) ∧ 38 + 3 = 41 ∧ ((38 : Nat) : Int) + (-34) = ((4 : Nat) : Int) := by decide +kernel
theorem e_X3_thereOf_41 : decode cX3_thereOf 41 = .ok (.iload_n 2, 1) ∧ 41 + 1 = 42 := by decide +kernel
theorem e_X3_thereOf_42 : decode cX3_thereOf 42 = .ok (.ireturn, 1) := by decide +kernel
theorem e_X3_about_0 : decode cX3_about 0 = .ok (.aload_n 0, 1) ∧ 0 + 1 = 1 := by decide +kernel
theorem e_X3_about_1 : decode cX3_about 1 = .ok (.iconst 0, 1) ∧ 1 + 1 = 2 := by decide +kernel
theorem e_X3_about_2 : decode cX3_about 2 = .ok (.putfield 48, 3) ∧ 2 + 3 = 5 := by decide +kernel
theorem e_X3_about_5 : decode cX3_about 5 = .ok (.iconst 0, 1) ∧ 5 + 1 = 6 := by decide +kernel
theorem e_X3_about_6 : decode cX3_about 6 = .ok (.istore_n 2, 1) ∧ 6 + 1 = 7 := by decide +kernel
theorem e_X3_about_7 : decode cX3_about 7 = .ok (.iconst 0, 1) ∧ 7 + 1 = 8 := by decide +kernel
theorem e_X3_about_8 : decode cX3_about 8 = .ok (.istore_n 3, 1) ∧ 8 + 1 = 9 := by decide +kernel
theorem e_X3_about_9 : decode cX3_about 9 = .ok (.iload_n 3, 1) ∧ 9 + 1 = 10 := by decide +kernel
theorem e_X3_about_10 : decode cX3_about 10 = .ok (.bipush 12, 2) ∧ 10 + 2 = 12 := by decide +kernel
theorem e_X3_about_12 : decode cX3_about 12 = .ok (.if_icmp .ge 18, 3) ∧ 12 + 3 = 15 ∧ ((12 : Nat) : Int) + (18) = ((30 : Nat) : Int) := by decide +kernel
theorem e_X3_about_15 : decode cX3_about 15 = .ok (.iload_n 2, 1) ∧ 15 + 1 = 16 := by decide +kernel
theorem e_X3_about_16 : decode cX3_about 16 = .ok (.aload_n 0, 1) ∧ 16 + 1 = 17 := by decide +kernel
theorem e_X3_about_17 : decode cX3_about 17 = .ok (.getfield 20, 3) ∧ 17 + 3 = 20 := by decide +kernel
theorem e_X3_about_20 : decode cX3_about 20 = .ok (.iload_n 3, 1) ∧ 20 + 1 = 21 := by decide +kernel
theorem e_X3_about_21 : decode cX3_about 21 = .ok (.iaload, 1) ∧ 21 + 1 = 22 := by decide +kernel
theorem e_X3_about_22 : decode cX3_about 22 = .ok (.iadd, 1) ∧ 22 + 1 = 23 := by decide +kernel
theorem e_X3_about_23 : decode cX3_about 23 = .ok (.istore_n 2, 1) ∧ 23 + 1 = 24 := by decide +kernel
theorem e_X3_about_24 : decode cX3_about 24 = .ok (.iinc 3 1, 3) ∧ 24 + 3 = 27 := by decide +kernel
theorem e_X3_about_27 : decode cX3_about 27 = .ok (.goto (-18), 3) ∧ 27 + 3 = 30 ∧ ((27 : Nat) : Int) + (-18) = ((9 : Nat) : Int) := by decide +kernel
theorem e_X3_about_30 : decode cX3_about 30 = .ok (.iload_n 1, 1) ∧ 30 + 1 = 31 := by decide +kernel
theorem e_X3_about_31 : decode cX3_about 31 = .ok (.tableswitch 112 0 9 #[53, 58, 63, 71, 79, 87, 95, 97, 102, 107], 53) := by decide +kernel
theorem e_X3_about_84 : decode cX3_about 84 = .ok (.aload_n 0, 1) ∧ 84 + 1 = 85 := by decide +kernel
theorem e_X3_about_85 : decode cX3_about 85 = .ok (.getfield 13, 3) ∧ 85 + 3 = 88 := by decide +kernel
theorem e_X3_about_88 : decode cX3_about 88 = .ok (.ireturn, 1) := by decide +kernel
theorem e_X3_about_89 : decode cX3_about 89 = .ok (.aload_n 0, 1) ∧ 89 + 1 = 90 := by decide +kernel
theorem e_X3_about_90 : decode cX3_about 90 = .ok (.getfield 51, 3) ∧ 90 + 3 = 93 := by decide +kernel
theorem e_X3_about_93 : decode cX3_about 93 = .ok (.ireturn, 1) := by decide +kernel
theorem e_X3_about_94 : decode cX3_about 94 = .ok (.aload_n 0, 1) ∧ 94 + 1 = 95 := by decide +kernel
theorem e_X3_about_95 : decode cX3_about 95 = .ok (.getfield 20, 3) ∧ 95 + 3 = 98 := by decide +kernel
theorem e_X3_about_98 : decode cX3_about 98 = .ok (.bipush 55, 2) ∧ 98 + 2 = 100 := by decide +kernel
theorem e_X3_about_100 : decode cX3_about 100 = .ok (.iaload, 1) ∧ 100 + 1 = 101 := by decide +kernel
theorem e_X3_about_101 : decode cX3_about 101 = .ok (.ireturn, 1) := by decide +kernel
theorem e_X3_about_102 : decode cX3_about 102 = .ok (.aload_n 0, 1) ∧ 102 + 1 = 103 := by decide +kernel
theorem e_X3_about_103 : decode cX3_about 103 = .ok (.getfield 20, 3) ∧ 103 + 3 = 106 := by decide +kernel
theorem e_X3_about_106 : decode cX3_about 106 = .ok (.bipush 54, 2) ∧ 106 + 2 = 108 := by decide +kernel
theorem e_X3_about_108 : decode cX3_about 108 = .ok (.iaload, 1) ∧ 108 + 1 = 109 := by decide +kernel
theorem e_X3_about_109 : decode cX3_about 109 = .ok (.ireturn, 1) := by decide +kernel
theorem e_X3_about_110 : decode cX3_about 110 = .ok (.aload_n 0, 1) ∧ 110 + 1 = 111 := by decide +kernel
theorem e_X3_about_111 : decode cX3_about 111 = .ok (.getfield 20, 3) ∧ 111 + 3 = 114 := by decide +kernel
theorem e_X3_about_114 : decode cX3_about 114 = .ok (.bipush 48, 2) ∧ 114 + 2 = 116 := by decide +kernel
theorem e_X3_about_116 : decode cX3_about 116 = .ok (.iaload, 1) ∧ 116 + 1 = 117 := by decide +kernel
theorem e_X3_about_117 : decode cX3_about 117 = .ok (.ireturn, 1) := by decide +kernel
theorem e_X3_about_118 : decode cX3_about 118 = .ok (.aload_n 0, 1) ∧ 118 + 1 = 119 := by decide +kernel
theorem e_X3_about_119 : decode cX3_about 119 = .ok (.getfield 20, 3) ∧ 119 + 3 = 122 := by decide +kernel
theorem e_X3_about_122 : decode cX3_about 122 = .ok (.bipush 53, 2) ∧ 122 + 2 = 124 := by decide +kernel
theorem e_X3_about_124 : decode cX3_about 124 = .ok (.iaload, 1) ∧ 124 + 1 = 125 := by decide +kernel
theorem e_X3_about_125 : decode cX3_about 125 = .ok (.ireturn, 1) := by decide +kernel
theorem e_X3_about_126 : decode cX3_about 126 = .ok (.iload_n 2, 1) ∧ 126 + 1 = 127 := by decide +kernel
theorem e_X3_about_127 : decode cX3_about 127 = .ok (.ireturn, 1) := by decide +kernel
theorem e_X3_about_128 : decode cX3_about 128 = .ok (.aload_n 0, 1) ∧ 128 + 1 = 129 := by decide +kernel
theorem e_X3_about_129 : decode cX3_about 129 = .ok (.getfield 108, 3) ∧ 129 + 3 = 132 := by decide +kernel
theorem e_X3_about_132 : decode cX3_about 132 = .ok (.ireturn, 1) := by decide +kernel
theorem e_X3_about_133 : decode cX3_about 133 = .ok (.aload_n 0, 1) ∧ 133 + 1 = 134 := by decide +kernel
theorem e_X3_about_134 : decode cX3_about 134 = .ok (.getfield 111, 3) ∧ 134 + 3 = 137 := by decide +kernel
theorem e_X3_about_137 : decode cX3_about 137 = .ok (.ireturn, 1) := by decide +kernel
theorem e_X3_about_138 : decode cX3_about 138 = .ok (.aload_n 0, 1) ∧ 138 + 1 = 139 := by decide +kernel
theorem e_X3_about_139 : decode cX3_about 139 = .ok (.getfield 62, 3) ∧ 139 + 3 = 142 := by decide +kernel
theorem e_X3_about_142 : decode cX3_about 142 = .ok (.ireturn, 1) := by decide +kernel
theorem e_X3_about_143 : decode cX3_about 143 = .ok (.bipush (-2), 2) ∧ 143 + 2 = 145 := by decide +kernel
theorem e_X3_about_145 : decode cX3_about 145 = .ok (.ireturn, 1) := by decide +kernel
theorem e_X3_cell_0 : decode cX3_cell 0 = .ok (.aload_n 0, 1) ∧ 0 + 1 = 1 := by decide +kernel
theorem e_X3_cell_1 : decode cX3_cell 1 = .ok (.iconst 0, 1) ∧ 1 + 1 = 2 := by decide +kernel
theorem e_X3_cell_2 : decode cX3_cell 2 = .ok (.putfield 48, 3) ∧ 2 + 3 = 5 := by decide +kernel
theorem e_X3_cell_5 : decode cX3_cell 5 = .ok (.iload_n 1, 1) ∧ 5 + 1 = 6 := by decide +kernel
theorem e_X3_cell_6 : decode cX3_cell 6 = .ok (.invokestatic 114, 3) ∧ 6 + 3 = 9 := by decide +kernel
theorem e_X3_cell_9 : decode cX3_cell 9 = .ok (.ifCond .eq 5, 3) ∧ 9 + 3 = 12 ∧ ((9 : Nat) : Int) + (5) = ((14 : Nat) : Int) := by decide +kernel
theorem e_X3_cell_12 : decode cX3_cell 12 = .ok (.iconst (-1), 1) ∧ 12 + 1 = 13 := by decide +kernel
theorem e_X3_cell_13 : decode cX3_cell 13 = .ok (.ireturn, 1) := by decide +kernel
theorem e_X3_cell_14 : decode cX3_cell 14 = .ok (.iload_n 2, 1) ∧ 14 + 1 = 15 := by decide +kernel
theorem e_X3_cell_15 : decode cX3_cell 15 = .ok (.tableswitch 100 0 5 #[37, 44, 54, 64, 74, 94], 37) := by decide +kernel
theorem e_X3_cell_52 : decode cX3_cell 52 = .ok (.aload_n 0, 1) ∧ 52 + 1 = 53 := by decide +kernel
theorem e_X3_cell_53 : decode cX3_cell 53 = .ok (.getfield 20, 3) ∧ 53 + 3 = 56 := by decide +kernel
theorem e_X3_cell_56 : decode cX3_cell 56 = .ok (.iload_n 1, 1) ∧ 56 + 1 = 57 := by decide +kernel
theorem e_X3_cell_57 : decode cX3_cell 57 = .ok (.iaload, 1) ∧ 57 + 1 = 58 := by decide +kernel
theorem e_X3_cell_58 : decode cX3_cell 58 = .ok (.ireturn, 1) := by decide +kernel
theorem e_X3_cell_59 : decode cX3_cell 59 = .ok (.aload_n 0, 1) ∧ 59 + 1 = 60 := by decide +kernel
theorem e_X3_cell_60 : decode cX3_cell 60 = .ok (.getfield 20, 3) ∧ 60 + 3 = 63 := by decide +kernel
theorem e_X3_cell_63 : decode cX3_cell 63 = .ok (.bipush 12, 2) ∧ 63 + 2 = 65 := by decide +kernel
theorem e_X3_cell_65 : decode cX3_cell 65 = .ok (.iload_n 1, 1) ∧ 65 + 1 = 66 := by decide +kernel
theorem e_X3_cell_66 : decode cX3_cell 66 = .ok (.iadd, 1) ∧ 66 + 1 = 67 := by decide +kernel
theorem e_X3_cell_67 : decode cX3_cell 67 = .ok (.iaload, 1) ∧ 67 + 1 = 68 := by decide +kernel
theorem e_X3_cell_68 : decode cX3_cell 68 = .ok (.ireturn, 1) := by decide +kernel
theorem e_X3_cell_69 : decode cX3_cell 69 = .ok (.aload_n 0, 1) ∧ 69 + 1 = 70 := by decide +kernel
theorem e_X3_cell_70 : decode cX3_cell 70 = .ok (.getfield 20, 3) ∧ 70 + 3 = 73 := by decide +kernel
theorem e_X3_cell_73 : decode cX3_cell 73 = .ok (.bipush 24, 2) ∧ 73 + 2 = 75 := by decide +kernel
theorem e_X3_cell_75 : decode cX3_cell 75 = .ok (.iload_n 1, 1) ∧ 75 + 1 = 76 := by decide +kernel
theorem e_X3_cell_76 : decode cX3_cell 76 = .ok (.iadd, 1) ∧ 76 + 1 = 77 := by decide +kernel
theorem e_X3_cell_77 : decode cX3_cell 77 = .ok (.iaload, 1) ∧ 77 + 1 = 78 := by decide +kernel
theorem e_X3_cell_78 : decode cX3_cell 78 = .ok (.ireturn, 1) := by decide +kernel
theorem e_X3_cell_79 : decode cX3_cell 79 = .ok (.aload_n 0, 1) ∧ 79 + 1 = 80 := by decide +kernel
theorem e_X3_cell_80 : decode cX3_cell 80 = .ok (.getfield 20, 3) ∧ 80 + 3 = 83 := by decide +kernel
theorem e_X3_cell_83 : decode cX3_cell 83 = .ok (.bipush 36, 2) ∧ 83 + 2 = 85 := by decide +kernel
theorem e_X3_cell_85 : decode cX3_cell 85 = .ok (.iload_n 1, 1) ∧ 85 + 1 = 86 := by decide +kernel
theorem e_X3_cell_86 : decode cX3_cell 86 = .ok (.iadd, 1) ∧ 86 + 1 = 87 := by decide +kernel
theorem e_X3_cell_87 : decode cX3_cell 87 = .ok (.iaload, 1) ∧ 87 + 1 = 88 := by decide +kernel
theorem e_X3_cell_88 : decode cX3_cell 88 = .ok (.ireturn, 1) := by decide +kernel
theorem e_X3_cell_89 : decode cX3_cell 89 = .ok (.aload_n 0, 1) ∧ 89 + 1 = 90 := by decide +kernel
theorem e_X3_cell_90 : decode cX3_cell 90 = .ok (.getfield 20, 3) ∧ 90 + 3 = 93 := by decide +kernel
theorem e_X3_cell_93 : decode cX3_cell 93 = .ok (.bipush 48, 2) ∧ 93 + 2 = 95 := by decide +kernel
theorem e_X3_cell_95 : decode cX3_cell 95 = .ok (.iaload, 1) ∧ 95 + 1 = 96 := by decide +kernel
theorem e_X3_cell_96 : decode cX3_cell 96 = .ok (.iload_n 1, 1) ∧ 96 + 1 = 97 := by decide +kernel
theorem e_X3_cell_97 : decode cX3_cell 97 = .ok (.invokestatic 70, 3) ∧ 97 + 3 = 100 := by decide +kernel
theorem e_X3_cell_100 : decode cX3_cell 100 = .ok (.ifCond .eq 7, 3) ∧ 100 + 3 = 103 ∧ ((100 : Nat) : Int) + (7) = ((107 : Nat) : Int) := by decide +kernel
theorem e_X3_cell_103 : decode cX3_cell 103 = .ok (.iconst 1, 1) ∧ 103 + 1 = 104 := by decide +kernel
theorem e_X3_cell_104 : decode cX3_cell 104 = .ok (.goto 4, 3) ∧ 104 + 3 = 107 ∧ ((104 : Nat) : Int) + (4) = ((108 : Nat) : Int) := by decide +kernel
theorem e_X3_cell_107 : decode cX3_cell 107 = .ok (.iconst 0, 1) ∧ 107 + 1 = 108 := by decide +kernel
theorem e_X3_cell_108 : decode cX3_cell 108 = .ok (.ireturn, 1) := by decide +kernel
theorem e_X3_cell_109 : decode cX3_cell 109 = .ok (.aload_n 0, 1) ∧ 109 + 1 = 110 := by decide +kernel
theorem e_X3_cell_110 : decode cX3_cell 110 = .ok (.iload_n 1, 1) ∧ 110 + 1 = 111 := by decide +kernel
theorem e_X3_cell_111 : decode cX3_cell 111 = .ok (.invokevirtual 118, 3) ∧ 111 + 3 = 114 := by decide +kernel
theorem e_X3_cell_114 : decode cX3_cell 114 = .ok (.ireturn, 1) := by decide +kernel
theorem e_X3_cell_115 : decode cX3_cell 115 = .ok (.bipush (-2), 2) ∧ 115 + 2 = 117 := by decide +kernel
theorem e_X3_cell_117 : decode cX3_cell 117 = .ok (.ireturn, 1) := by decide +kernel
theorem e_X3_timesOf_0 : decode cX3_timesOf 0 = .ok (.iconst 1, 1) ∧ 0 + 1 = 1 := by decide +kernel
theorem e_X3_timesOf_1 : decode cX3_timesOf 1 = .ok (.istore_n 3, 1) ∧ 1 + 1 = 2 := by decide +kernel
theorem e_X3_timesOf_2 : decode cX3_timesOf 2 = .ok (.iconst 0, 1) ∧ 2 + 1 = 3 := by decide +kernel
theorem e_X3_timesOf_3 : decode cX3_timesOf 3 = .ok (.istore 4, 2) ∧ 3 + 2 = 5 := by decide +kernel
theorem e_X3_timesOf_5 : decode cX3_timesOf 5 = .ok (.iload 4, 2) ∧ 5 + 2 = 7 := by decide +kernel
theorem e_X3_timesOf_7 : decode cX3_timesOf 7 = .ok (.aload_n 0, 1) ∧ 7 + 1 = 8 := by decide +kernel
theorem e_X3_timesOf_8 : decode cX3_timesOf 8 = .ok (.getfield 51, 3) ∧ 8 + 3 = 11 := by decide +kernel
theorem e_X3_timesOf_11 : decode cX3_timesOf 11 = .ok (.if_icmp .ge 90, 3) ∧ 11 + 3 = 14 ∧ ((11 : Nat) : Int) + (90) = ((101 : Nat) : Int) := by decide +kernel
theorem e_X3_timesOf_14 : decode cX3_timesOf 14 = .ok (.aload_n 1, 1) ∧ 14 + 1 = 15 := by decide +kernel
theorem e_X3_timesOf_15 : decode cX3_timesOf 15 = .ok (.bipush 49, 2) ∧ 15 + 2 = 17 := by decide +kernel
theorem e_X3_timesOf_17 : decode cX3_timesOf 17 = .ok (.iload 4, 2) ∧ 17 + 2 = 19 := by decide +kernel
theorem e_X3_timesOf_19 : decode cX3_timesOf 19 = .ok (.iadd, 1) ∧ 19 + 1 = 20 := by decide +kernel
theorem e_X3_timesOf_20 : decode cX3_timesOf 20 = .ok (.iaload, 1) ∧ 20 + 1 = 21 := by decide +kernel
theorem e_X3_timesOf_21 : decode cX3_timesOf 21 = .ok (.aload_n 1, 1) ∧ 21 + 1 = 22 := by decide +kernel
theorem e_X3_timesOf_22 : decode cX3_timesOf 22 = .ok (.bipush 49, 2) ∧ 22 + 2 = 24 := by decide +kernel
theorem e_X3_timesOf_24 : decode cX3_timesOf 24 = .ok (.iload_n 2, 1) ∧ 24 + 1 = 25 := by decide +kernel
theorem e_X3_timesOf_25 : decode cX3_timesOf 25 = .ok (.iadd, 1) ∧ 25 + 1 = 26 := by decide +kernel
theorem e_X3_timesOf_26 : decode cX3_timesOf 26 = .ok (.iaload, 1) ∧ 26 + 1 = 27 := by decide +kernel
theorem e_X3_timesOf_27 : decode cX3_timesOf 27 = .ok (.if_icmp .eq 22, 3) ∧ 27 + 3 = 30 ∧ ((27 : Nat) : Int) + (22) = ((49 : Nat) : Int) := by decide +kernel
theorem e_X3_timesOf_30 : decode cX3_timesOf 30 = .ok (.aload_n 1, 1) ∧ 30 + 1 = 31 := by decide +kernel
theorem e_X3_timesOf_31 : decode cX3_timesOf 31 = .ok (.bipush 49, 2) ∧ 31 + 2 = 33 := by decide +kernel
theorem e_X3_timesOf_33 : decode cX3_timesOf 33 = .ok (.iload 4, 2) ∧ 33 + 2 = 35 := by decide +kernel
theorem e_X3_timesOf_35 : decode cX3_timesOf 35 = .ok (.iadd, 1) ∧ 35 + 1 = 36 := by decide +kernel
theorem e_X3_timesOf_36 : decode cX3_timesOf 36 = .ok (.iaload, 1) ∧ 36 + 1 = 37 := by decide +kernel
theorem e_X3_timesOf_37 : decode cX3_timesOf 37 = .ok (.aload_n 1, 1) ∧ 37 + 1 = 38 := by decide +kernel
theorem e_X3_timesOf_38 : decode cX3_timesOf 38 = .ok (.bipush 49, 2) ∧ 38 + 2 = 40 := by decide +kernel
theorem e_X3_timesOf_40 : decode cX3_timesOf 40 = .ok (.iload_n 2, 1) ∧ 40 + 1 = 41 := by decide +kernel
theorem e_X3_timesOf_41 : decode cX3_timesOf 41 = .ok (.iadd, 1) ∧ 41 + 1 = 42 := by decide +kernel
theorem e_X3_timesOf_42 : decode cX3_timesOf 42 = .ok (.iaload, 1) ∧ 42 + 1 = 43 := by decide +kernel
theorem e_X3_timesOf_43 : decode cX3_timesOf 43 = .ok (.invokestatic 121, 3) ∧ 43 + 3 = 46 := by decide +kernel
theorem e_X3_timesOf_46 : decode cX3_timesOf 46 = .ok (.ifCond .eq 7, 3) ∧ 46 + 3 = 49 ∧ ((46 : Nat) : Int) + (7) = ((53 : Nat) : Int) := by decide +kernel
theorem e_X3_timesOf_49 : decode cX3_timesOf 49 = .ok (.iconst 1, 1) ∧ 49 + 1 = 50 := by decide +kernel
theorem e_X3_timesOf_50 : decode cX3_timesOf 50 = .ok (.goto 4, 3) ∧ 50 + 3 = 53 ∧ ((50 : Nat) : Int) + (4) = ((54 : Nat) : Int) := by decide +kernel
theorem e_X3_timesOf_53 : decode cX3_timesOf 53 = .ok (.iconst 0, 1) ∧ 53 + 1 = 54 := by decide +kernel
theorem e_X3_timesOf_54 : decode cX3_timesOf 54 = .ok (.istore 5, 2) ∧ 54 + 2 = 56 := by decide +kernel
theorem e_X3_timesOf_56 : decode cX3_timesOf 56 = .ok (.aload_n 1, 1) ∧ 56 + 1 = 57 := by decide +kernel
theorem e_X3_timesOf_57 : decode cX3_timesOf 57 = .ok (.bipush 53, 2) ∧ 57 + 2 = 59 := by decide +kernel
theorem e_X3_timesOf_59 : decode cX3_timesOf 59 = .ok (.iaload, 1) ∧ 59 + 1 = 60 := by decide +kernel
theorem e_X3_timesOf_60 : decode cX3_timesOf 60 = .ok (.iload 4, 2) ∧ 60 + 2 = 62 := by decide +kernel
theorem e_X3_timesOf_62 : decode cX3_timesOf 62 = .ok (.invokestatic 70, 3) ∧ 62 + 3 = 65 := by decide +kernel
theorem e_X3_timesOf_65 : decode cX3_timesOf 65 = .ok (.ifCond .ne 28, 3) ∧ 65 + 3 = 68 ∧ ((65 : Nat) : Int) + (28) = ((93 : Nat) : Int) := by decide +kernel
theorem e_X3_timesOf_68 : decode cX3_timesOf 68 = .ok (.aload_n 0, 1) ∧ 68 + 1 = 69 := by decide +kernel
theorem e_X3_timesOf_69 : decode cX3_timesOf 69 = .ok (.getfield 17, 3) ∧ 69 + 3 = 72 := by decide +kernel
theorem e_X3_timesOf_72 : decode cX3_timesOf 72 = .ok (.iload 4, 2) ∧ 72 + 2 = 74 := by decide +kernel
theorem e_X3_timesOf_74 : decode cX3_timesOf 74 = .ok (.iaload, 1) ∧ 74 + 1 = 75 := by decide +kernel
theorem e_X3_timesOf_75 : decode cX3_timesOf 75 = .ok (.aload_n 0, 1) ∧ 75 + 1 = 76 := by decide +kernel
theorem e_X3_timesOf_76 : decode cX3_timesOf 76 = .ok (.getfield 17, 3) ∧ 76 + 3 = 79 := by decide +kernel
theorem e_X3_timesOf_79 : decode cX3_timesOf 79 = .ok (.iload_n 2, 1) ∧ 79 + 1 = 80 := by decide +kernel
theorem e_X3_timesOf_80 : decode cX3_timesOf 80 = .ok (.iaload, 1) ∧ 80 + 1 = 81 := by decide +kernel
theorem e_X3_timesOf_81 : decode cX3_timesOf 81 = .ok (.if_icmp .eq 12, 3) ∧ 81 + 3 = 84 ∧ ((81 : Nat) : Int) + (12) = ((93 : Nat) : Int) := by decide +kernel
theorem e_X3_timesOf_84 : decode cX3_timesOf 84 = .ok (.iload 5, 2) ∧ 84 + 2 = 86 := by decide +kernel
theorem e_X3_timesOf_86 : decode cX3_timesOf 86 = .ok (.ifCond .eq 7, 3) ∧ 86 + 3 = 89 ∧ ((86 : Nat) : Int) + (7) = ((93 : Nat) : Int) := by decide +kernel
theorem e_X3_timesOf_89 : decode cX3_timesOf 89 = .ok (.iconst 2, 1) ∧ 89 + 1 = 90 := by decide +kernel
theorem e_X3_timesOf_90 : decode cX3_timesOf 90 = .ok (.goto 4, 3) ∧ 90 + 3 = 93 ∧ ((90 : Nat) : Int) + (4) = ((94 : Nat) : Int) := by decide +kernel
theorem e_X3_timesOf_93 : decode cX3_timesOf 93 = .ok (.iload_n 3, 1) ∧ 93 + 1 = 94 := by decide +kernel
theorem e_X3_timesOf_94 : decode cX3_timesOf 94 = .ok (.istore_n 3, 1) ∧ 94 + 1 = 95 := by decide +kernel
theorem e_X3_timesOf_95 : decode cX3_timesOf 95 = .ok (.iinc 4 1, 3) ∧ 95 + 3 = 98 := by decide +kernel
theorem e_X3_timesOf_98 : decode cX3_timesOf 98 = .ok (.goto (-93), 3) ∧ 98 + 3 = 101 ∧ ((98 : Nat) : Int) + (-93) = ((5 : Nat) : Int) := by decide +kernel
theorem e_X3_timesOf_101 : decode cX3_timesOf 101 = .ok (.iload_n 3, 1) ∧ 101 + 1 = 102 := by decide +kernel
theorem e_X3_timesOf_102 : decode cX3_timesOf 102 = .ok (.ireturn, 1) := by decide +kernel
theorem e_X3_monk_0 : decode cX3_monk 0 = .ok (.aload_n 0, 1) ∧ 0 + 1 = 1 := by decide +kernel
theorem e_X3_monk_1 : decode cX3_monk 1 = .ok (.iconst 0, 1) ∧ 1 + 1 = 2 := by decide +kernel
theorem e_X3_monk_2 : decode cX3_monk 2 = .ok (.putfield 48, 3) ∧ 2 + 3 = 5 := by decide +kernel
theorem e_X3_monk_5 : decode cX3_monk 5 = .ok (.aload_n 0, 1) ∧ 5 + 1 = 6 := by decide +kernel
theorem e_X3_monk_6 : decode cX3_monk 6 = .ok (.iload_n 1, 1) ∧ 6 + 1 = 7 := by decide +kernel
theorem e_X3_monk_7 : decode cX3_monk 7 = .ok (.invokevirtual 124, 3) ∧ 7 + 3 = 10 := by decide +kernel
theorem e_X3_monk_10 : decode cX3_monk 10 = .ok (.ifCond .eq 5, 3) ∧ 10 + 3 = 13 ∧ ((10 : Nat) : Int) + (5) = ((15 : Nat) : Int) := by decide +kernel
theorem e_X3_monk_13 : decode cX3_monk 13 = .ok (.iconst (-1), 1) ∧ 13 + 1 = 14 := by decide +kernel
theorem e_X3_monk_14 : decode cX3_monk 14 = .ok (.ireturn, 1) := by decide +kernel
theorem e_X3_monk_15 : decode cX3_monk 15 = .ok (.aload_n 0, 1) ∧ 15 + 1 = 16 := by decide +kernel
theorem e_X3_monk_16 : decode cX3_monk 16 = .ok (.getfield 20, 3) ∧ 16 + 3 = 19 := by decide +kernel
theorem e_X3_monk_19 : decode cX3_monk 19 = .ok (.bipush 53, 2) ∧ 19 + 2 = 21 := by decide +kernel
theorem e_X3_monk_21 : decode cX3_monk 21 = .ok (.iaload, 1) ∧ 21 + 1 = 22 := by decide +kernel
theorem e_X3_monk_22 : decode cX3_monk 22 = .ok (.iload_n 1, 1) ∧ 22 + 1 = 23 := by decide +kernel
theorem e_X3_monk_23 : decode cX3_monk 23 = .ok (.invokestatic 70, 3) ∧ 23 + 3 = 26 := by decide +kernel
theorem e_X3_monk_26 : decode cX3_monk 26 = .ok (.istore_n 3, 1) ∧ 26 + 1 = 27 := by decide +kernel
theorem e_X3_monk_27 : decode cX3_monk 27 = .ok (.iload_n 2, 1) ∧ 27 + 1 = 28 := by decide +kernel
theorem e_X3_monk_28 : decode cX3_monk 28 = .ok (.tableswitch 77 0 3 #[32, 42, 49, 59], 32) := by decide +kernel
theorem e_X3_monk_60 : decode cX3_monk 60 = .ok (.aload_n 0, 1) ∧ 60 + 1 = 61 := by decide +kernel
theorem e_X3_monk_61 : decode cX3_monk 61 = .ok (.getfield 20, 3) ∧ 61 + 3 = 64 := by decide +kernel
theorem e_X3_monk_64 : decode cX3_monk 64 = .ok (.bipush 49, 2) ∧ 64 + 2 = 66 := by decide +kernel
theorem e_X3_monk_66 : decode cX3_monk 66 = .ok (.iload_n 1, 1) ∧ 66 + 1 = 67 := by decide +kernel
theorem e_X3_monk_67 : decode cX3_monk 67 = .ok (.iadd, 1) ∧ 67 + 1 = 68 := by decide +kernel
theorem e_X3_monk_68 : decode cX3_monk 68 = .ok (.iaload, 1) ∧ 68 + 1 = 69 := by decide +kernel
theorem e_X3_monk_69 : decode cX3_monk 69 = .ok (.ireturn, 1) := by decide +kernel
theorem e_X3_monk_70 : decode cX3_monk 70 = .ok (.aload_n 0, 1) ∧ 70 + 1 = 71 := by decide +kernel
theorem e_X3_monk_71 : decode cX3_monk 71 = .ok (.getfield 17, 3) ∧ 71 + 3 = 74 := by decide +kernel
theorem e_X3_monk_74 : decode cX3_monk 74 = .ok (.iload_n 1, 1) ∧ 74 + 1 = 75 := by decide +kernel
theorem e_X3_monk_75 : decode cX3_monk 75 = .ok (.iaload, 1) ∧ 75 + 1 = 76 := by decide +kernel
theorem e_X3_monk_76 : decode cX3_monk 76 = .ok (.ireturn, 1) := by decide +kernel
theorem e_X3_monk_77 : decode cX3_monk 77 = .ok (.iload_n 3, 1) ∧ 77 + 1 = 78 := by decide +kernel
theorem e_X3_monk_78 : decode cX3_monk 78 = .ok (.ifCond .eq 7, 3) ∧ 78 + 3 = 81 ∧ ((78 : Nat) : Int) + (7) = ((85 : Nat) : Int) := by decide +kernel
theorem e_X3_monk_81 : decode cX3_monk 81 = .ok (.iconst 1, 1) ∧ 81 + 1 = 82 := by decide +kernel
theorem e_X3_monk_82 : decode cX3_monk 82 = .ok (.goto 4, 3) ∧ 82 + 3 = 85 ∧ ((82 : Nat) : Int) + (4) = ((86 : Nat) : Int) := by decide +kernel
theorem e_X3_monk_85 : decode cX3_monk 85 = .ok (.iconst 0, 1) ∧ 85 + 1 = 86 := by decide +kernel
theorem e_X3_monk_86 : decode cX3_monk 86 = .ok (.ireturn, 1) := by decide +kernel
theorem e_X3_monk_87 : decode cX3_monk 87 = .ok (.iload_n 3, 1) ∧ 87 + 1 = 88 := by decide +kernel
theorem e_X3_monk_88 : decode cX3_monk 88 = .ok (.ifCond .eq 7, 3) ∧ 88 + 3 = 91 ∧ ((88 : Nat) : Int) + (7) = ((95 : Nat) : Int) := by decide +kernel
theorem e_X3_monk_91 : decode cX3_monk 91 = .ok (.iconst 0, 1) ∧ 91 + 1 = 92 := by decide +kernel
theorem e_X3_monk_92 : decode cX3_monk 92 = .ok (.goto 12, 3) ∧ 92 + 3 = 95 ∧ ((92 : Nat) : Int) + (12) = ((104 : Nat) : Int) := by decide +kernel
theorem e_X3_monk_95 : decode cX3_monk 95 = .ok (.aload_n 0, 1) ∧ 95 + 1 = 96 := by decide +kernel
theorem e_X3_monk_96 : decode cX3_monk 96 = .ok (.aload_n 0, 1) ∧ 96 + 1 = 97 := by decide +kernel
theorem e_X3_monk_97 : decode cX3_monk 97 = .ok (.getfield 20, 3) ∧ 97 + 3 = 100 := by decide +kernel
theorem e_X3_monk_100 : decode cX3_monk 100 = .ok (.iload_n 1, 1) ∧ 100 + 1 = 101 := by decide +kernel
theorem e_X3_monk_101 : decode cX3_monk 101 = .ok (.invokevirtual 127, 3) ∧ 101 + 3 = 104 := by decide +kernel
theorem e_X3_monk_104 : decode cX3_monk 104 = .ok (.ireturn, 1) := by decide +kernel
theorem e_X3_monk_105 : decode cX3_monk 105 = .ok (.bipush (-2), 2) ∧ 105 + 2 = 107 := by decide +kernel
theorem e_X3_monk_107 : decode cX3_monk 107 = .ok (.ireturn, 1) := by decide +kernel
theorem e_X3_note_0 : decode cX3_note 0 = .ok (.aload_n 0, 1) ∧ 0 + 1 = 1 := by decide +kernel
theorem e_X3_note_1 : decode cX3_note 1 = .ok (.getfield 108, 3) ∧ 1 + 3 = 4 := by decide +kernel
theorem e_X3_note_4 : decode cX3_note 4 = .ok (.bipush 14, 2) ∧ 4 + 2 = 6 := by decide +kernel
theorem e_X3_note_6 : decode cX3_note 6 = .ok (.if_icmp .ne 43, 3) ∧ 6 + 3 = 9 ∧ ((6 : Nat) : Int) + (43) = ((49 : Nat) : Int) := by decide +kernel
theorem e_X3_note_9 : decode cX3_note 9 = .ok (.iconst 0, 1) ∧ 9 + 1 = 10 := by decide +kernel
theorem e_X3_note_10 : decode cX3_note 10 = .ok (.istore_n 1, 1) ∧ 10 + 1 = 11 := by decide +kernel
theorem e_X3_note_11 : decode cX3_note 11 = .ok (.iload_n 1, 1) ∧ 11 + 1 = 12 := by decide +kernel
theorem e_X3_note_12 : decode cX3_note 12 = .ok (.sipush 754, 3) ∧ 12 + 3 = 15 := by decide +kernel
theorem e_X3_note_15 : decode cX3_note 15 = .ok (.if_icmp .ge 24, 3) ∧ 15 + 3 = 18 ∧ ((15 : Nat) : Int) + (24) = ((39 : Nat) : Int) := by decide +kernel
theorem e_X3_note_18 : decode cX3_note 18 = .ok (.aload_n 0, 1) ∧ 18 + 1 = 19 := by decide +kernel
theorem e_X3_note_19 : decode cX3_note 19 = .ok (.getfield 29, 3) ∧ 19 + 3 = 22 := by decide +kernel
theorem e_X3_note_22 : decode cX3_note 22 = .ok (.iload_n 1, 1) ∧ 22 + 1 = 23 := by decide +kernel
theorem e_X3_note_23 : decode cX3_note 23 = .ok (.aload_n 0, 1) ∧ 23 + 1 = 24 := by decide +kernel
theorem e_X3_note_24 : decode cX3_note 24 = .ok (.getfield 29, 3) ∧ 24 + 3 = 27 := by decide +kernel
theorem e_X3_note_27 : decode cX3_note 27 = .ok (.iload_n 1, 1) ∧ 27 + 1 = 28 := by decide +kernel
theorem e_X3_note_28 : decode cX3_note 28 = .ok (.bipush 58, 2) ∧ 28 + 2 = 30 := by decide +kernel
theorem e_X3_note_30 : decode cX3_note 30 = .ok (.iadd, 1) ∧ 30 + 1 = 31 := by decide +kernel
theorem e_X3_note_31 : decode cX3_note 31 = .ok (.iaload, 1) ∧ 31 + 1 = 32 := by decide +kernel
theorem e_X3_note_32 : decode cX3_note 32 = .ok (.iastore, 1) ∧ 32 + 1 = 33 := by decide +kernel
theorem e_X3_note_33 : decode cX3_note 33 = .ok (.iinc 1 1, 3) ∧ 33 + 3 = 36 := by decide +kernel
theorem e_X3_note_36 : decode cX3_note 36 = .ok (.goto (-25), 3) ∧ 36 + 3 = 39 ∧ ((36 : Nat) : Int) + (-25) = ((11 : Nat) : Int) := by decide +kernel
theorem e_X3_note_39 : decode cX3_note 39 = .ok (.aload_n 0, 1) ∧ 39 + 1 = 40 := by decide +kernel
theorem e_X3_note_40 : decode cX3_note 40 = .ok (.dup, 1) ∧ 40 + 1 = 41 := by decide +kernel
theorem e_X3_note_41 : decode cX3_note 41 = .ok (.getfield 108, 3) ∧ 41 + 3 = 44 := by decide +kernel
theorem e_X3_note_44 : decode cX3_note 44 = .ok (.iconst 1, 1) ∧ 44 + 1 = 45 := by decide +kernel
theorem e_X3_note_45 : decode cX3_note 45 = .ok (.isub, 1) ∧ 45 + 1 = 46 := by decide +kernel
theorem e_X3_note_46 : decode cX3_note 46 = .ok (.putfield 108, 3) ∧ 46 + 3 = 49 := by decide +kernel
theorem e_X3_note_49 : decode cX3_note 49 = .ok (.iconst 0, 1) ∧ 49 + 1 = 50 := by decide +kernel
theorem e_X3_note_50 : decode cX3_note 50 = .ok (.istore_n 1, 1) ∧ 50 + 1 = 51 := by decide +kernel
theorem e_X3_note_51 : decode cX3_note 51 = .ok (.iload_n 1, 1) ∧ 51 + 1 = 52 := by decide +kernel
theorem e_X3_note_52 : decode cX3_note 52 = .ok (.bipush 58, 2) ∧ 52 + 2 = 54 := by decide +kernel
theorem e_X3_note_54 : decode cX3_note 54 = .ok (.if_icmp .ge 29, 3) ∧ 54 + 3 = 57 ∧ ((54 : Nat) : Int) + (29) = ((83 : Nat) : Int) := by decide +kernel
theorem e_X3_note_57 : decode cX3_note 57 = .ok (.aload_n 0, 1) ∧ 57 + 1 = 58 := by decide +kernel
theorem e_X3_note_58 : decode cX3_note 58 = .ok (.getfield 29, 3) ∧ 58 + 3 = 61 := by decide +kernel
theorem e_X3_note_61 : decode cX3_note 61 = .ok (.bipush 58, 2) ∧ 61 + 2 = 63 := by decide +kernel
theorem e_X3_note_63 : decode cX3_note 63 = .ok (.aload_n 0, 1) ∧ 63 + 1 = 64 := by decide +kernel
theorem e_X3_note_64 : decode cX3_note 64 = .ok (.getfield 108, 3) ∧ 64 + 3 = 67 := by decide +kernel
theorem e_X3_note_67 : decode cX3_note 67 = .ok (.imul, 1) ∧ 67 + 1 = 68 := by decide +kernel
theorem e_X3_note_68 : decode cX3_note 68 = .ok (.iload_n 1, 1) ∧ 68 + 1 = 69 := by decide +kernel
theorem e_X3_note_69 : decode cX3_note 69 = .ok (.iadd, 1) ∧ 69 + 1 = 70 := by decide +kernel
theorem e_X3_note_70 : decode cX3_note 70 = .ok (.aload_n 0, 1) ∧ 70 + 1 = 71 := by decide +kernel
theorem e_X3_note_71 : decode cX3_note 71 = .ok (.getfield 20, 3) ∧ 71 + 3 = 74 := by decide +kernel
theorem e_X3_note_74 : decode cX3_note 74 = .ok (.iload_n 1, 1) ∧ 74 + 1 = 75 := by decide +kernel
theorem e_X3_note_75 : decode cX3_note 75 = .ok (.iaload, 1) ∧ 75 + 1 = 76 := by decide +kernel
theorem e_X3_note_76 : decode cX3_note 76 = .ok (.iastore, 1) ∧ 76 + 1 = 77 := by decide +kernel
theorem e_X3_note_77 : decode cX3_note 77 = .ok (.iinc 1 1, 3) ∧ 77 + 3 = 80 := by decide +kernel
theorem e_X3_note_80 : decode cX3_note 80 = .ok (.goto (-29), 3) ∧ 80 + 3 = 83 ∧ ((80 : Nat) : Int) + (-29) = ((51 : Nat) : Int) := by decide +kernel
theorem e_X3_note_83 : decode cX3_note 83 = .ok (.aload_n 0, 1) ∧ 83 + 1 = 84 := by decide +kernel
theorem e_X3_note_84 : decode cX3_note 84 = .ok (.dup, 1) ∧ 84 + 1 = 85 := by decide +kernel
theorem e_X3_note_85 : decode cX3_note 85 = .ok (.getfield 108, 3) ∧ 85 + 3 = 88 := by decide +kernel
theorem e_X3_note_88 : decode cX3_note 88 = .ok (.iconst 1, 1) ∧ 88 + 1 = 89 := by decide +kernel
theorem e_X3_note_89 : decode cX3_note 89 = .ok (.iadd, 1) ∧ 89 + 1 = 90 := by decide +kernel
theorem e_X3_note_90 : decode cX3_note 90 = .ok (.putfield 108, 3) ∧ 90 + 3 = 93 := by decide +kernel
theorem e_X3_note_93 : decode cX3_note 93 = .ok (.return_, 1) := by decide +kernel
theorem e_X3_loosen_0 : decode cX3_loosen 0 = .ok (.aload_n 0, 1) ∧ 0 + 1 = 1 := by decide +kernel
theorem e_X3_loosen_1 : decode cX3_loosen 1 = .ok (.bipush 48, 2) ∧ 1 + 2 = 3 := by decide +kernel
theorem e_X3_loosen_3 : decode cX3_loosen 3 = .ok (.iaload, 1) ∧ 3 + 1 = 4 := by decide +kernel
theorem e_X3_loosen_4 : decode cX3_loosen 4 = .ok (.iload_n 1, 1) ∧ 4 + 1 = 5 := by decide +kernel
theorem e_X3_loosen_5 : decode cX3_loosen 5 = .ok (.invokestatic 70, 3) ∧ 5 + 3 = 8 := by decide +kernel
theorem e_X3_loosen_8 : decode cX3_loosen 8 = .ok (.ifCond .ne 35, 3) ∧ 8 + 3 = 11 ∧ ((8 : Nat) : Int) + (35) = ((43 : Nat) : Int) := by decide +kernel
theorem e_X3_loosen_11 : decode cX3_loosen 11 = .ok (.aload_n 0, 1) ∧ 11 + 1 = 12 := by decide +kernel
theorem e_X3_loosen_12 : decode cX3_loosen 12 = .ok (.bipush 12, 2) ∧ 12 + 2 = 14 := by decide +kernel
theorem e_X3_loosen_14 : decode cX3_loosen 14 = .ok (.iload_n 1, 1) ∧ 14 + 1 = 15 := by decide +kernel
theorem e_X3_loosen_15 : decode cX3_loosen 15 = .ok (.iadd, 1) ∧ 15 + 1 = 16 := by decide +kernel
theorem e_X3_loosen_16 : decode cX3_loosen 16 = .ok (.aload_n 0, 1) ∧ 16 + 1 = 17 := by decide +kernel
theorem e_X3_loosen_17 : decode cX3_loosen 17 = .ok (.bipush 12, 2) ∧ 17 + 2 = 19 := by decide +kernel
theorem e_X3_loosen_19 : decode cX3_loosen 19 = .ok (.iload_n 1, 1) ∧ 19 + 1 = 20 := by decide +kernel
theorem e_X3_loosen_20 : decode cX3_loosen 20 = .ok (.iadd, 1) ∧ 20 + 1 = 21 := by decide +kernel
theorem e_X3_loosen_21 : decode cX3_loosen 21 = .ok (.iaload, 1) ∧ 21 + 1 = 22 := by decide +kernel
theorem e_X3_loosen_22 : decode cX3_loosen 22 = .ok (.iload_n 2, 1) ∧ 22 + 1 = 23 := by decide +kernel
theorem e_X3_loosen_23 : decode cX3_loosen 23 = .ok (.iadd, 1) ∧ 23 + 1 = 24 := by decide +kernel
theorem e_X3_loosen_24 : decode cX3_loosen 24 = .ok (.bipush 99, 2) ∧ 24 + 2 = 26 := by decide +kernel
theorem e_X3_loosen_26 : decode cX3_loosen 26 = .ok (.if_icmp .le 8, 3) ∧ 26 + 3 = 29 ∧ ((26 : Nat) : Int) + (8) = ((34 : Nat) : Int) := by decide +kernel
theorem e_X3_loosen_29 : decode cX3_loosen 29 = .ok (.bipush 99, 2) ∧ 29 + 2 = 31 := by decide +kernel
theorem e_X3_loosen_31 : decode cX3_loosen 31 = .ok (.goto 11, 3) ∧ 31 + 3 = 34 ∧ ((31 : Nat) : Int) + (11) = ((42 : Nat) : Int) := by decide +kernel
theorem e_X3_loosen_34 : decode cX3_loosen 34 = .ok (.aload_n 0, 1) ∧ 34 + 1 = 35 := by decide +kernel
theorem e_X3_loosen_35 : decode cX3_loosen 35 = .ok (.bipush 12, 2) ∧ 35 + 2 = 37 := by decide +kernel
theorem e_X3_loosen_37 : decode cX3_loosen 37 = .ok (.iload_n 1, 1) ∧ 37 + 1 = 38 := by decide +kernel
theorem e_X3_loosen_38 : decode cX3_loosen 38 = .ok (.iadd, 1) ∧ 38 + 1 = 39 := by decide +kernel
theorem e_X3_loosen_39 : decode cX3_loosen 39 = .ok (.iaload, 1) ∧ 39 + 1 = 40 := by decide +kernel
theorem e_X3_loosen_40 : decode cX3_loosen 40 = .ok (.iload_n 2, 1) ∧ 40 + 1 = 41 := by decide +kernel
theorem e_X3_loosen_41 : decode cX3_loosen 41 = .ok (.iadd, 1) ∧ 41 + 1 = 42 := by decide +kernel
theorem e_X3_loosen_42 : decode cX3_loosen 42 = .ok (.iastore, 1) ∧ 42 + 1 = 43 := by decide +kernel
theorem e_X3_loosen_43 : decode cX3_loosen 43 = .ok (.return_, 1) := by decide +kernel
theorem e_X3_fall_0 : decode cX3_fall 0 = .ok (.iconst 0, 1) ∧ 0 + 1 = 1 := by decide +kernel
theorem e_X3_fall_1 : decode cX3_fall 1 = .ok (.istore_n 2, 1) ∧ 1 + 1 = 2 := by decide +kernel
theorem e_X3_fall_2 : decode cX3_fall 2 = .ok (.iconst 1, 1) ∧ 2 + 1 = 3 := by decide +kernel
theorem e_X3_fall_3 : decode cX3_fall 3 = .ok (.istore_n 3, 1) ∧ 3 + 1 = 4 := by decide +kernel
theorem e_X3_fall_4 : decode cX3_fall 4 = .ok (.iload_n 3, 1) ∧ 4 + 1 = 5 := by decide +kernel
theorem e_X3_fall_5 : decode cX3_fall 5 = .ok (.ifCond .eq 252, 3) ∧ 5 + 3 = 8 ∧ ((5 : Nat) : Int) + (252) = ((257 : Nat) : Int) := by decide +kernel
theorem e_X3_fall_8 : decode cX3_fall 8 = .ok (.iconst 0, 1) ∧ 8 + 1 = 9 := by decide +kernel
theorem e_X3_fall_9 : decode cX3_fall 9 = .ok (.istore_n 3, 1) ∧ 9 + 1 = 10 := by decide +kernel
theorem e_X3_fall_10 : decode cX3_fall 10 = .ok (.iconst 0, 1) ∧ 10 + 1 = 11 := by decide +kernel
theorem e_X3_fall_11 : decode cX3_fall 11 = .ok (.istore 4, 2) ∧ 11 + 2 = 13 := by decide +kernel
theorem e_X3_fall_13 : decode cX3_fall 13 = .ok (.iload 4, 2) ∧ 13 + 2 = 15 := by decide +kernel
theorem e_X3_fall_15 : decode cX3_fall 15 = .ok (.bipush 12, 2) ∧ 15 + 2 = 17 := by decide +kernel
theorem e_X3_fall_17 : decode cX3_fall 17 = .ok (.if_icmp .ge 54, 3) ∧ 17 + 3 = 20 ∧ ((17 : Nat) : Int) + (54) = ((71 : Nat) : Int) := by decide +kernel
theorem e_X3_fall_20 : decode cX3_fall 20 = .ok (.iload_n 3, 1) ∧ 20 + 1 = 21 := by decide +kernel
theorem e_X3_fall_21 : decode cX3_fall 21 = .ok (.aload_n 1, 1) ∧ 21 + 1 = 22 := by decide +kernel
theorem e_X3_fall_22 : decode cX3_fall 22 = .ok (.bipush 48, 2) ∧ 22 + 2 = 24 := by decide +kernel
theorem e_X3_fall_24 : decode cX3_fall 24 = .ok (.iaload, 1) ∧ 24 + 1 = 25 := by decide +kernel
theorem e_X3_fall_25 : decode cX3_fall 25 = .ok (.iload 4, 2) ∧ 25 + 2 = 27 := by decide +kernel
theorem e_X3_fall_27 : decode cX3_fall 27 = .ok (.invokestatic 70, 3) ∧ 27 + 3 = 30 := by decide +kernel
theorem e_X3_fall_30 : decode cX3_fall 30 = .ok (.ifCond .ne 32, 3) ∧ 30 + 3 = 33 ∧ ((30 : Nat) : Int) + (32) = ((62 : Nat) : Int) := by decide +kernel
theorem e_X3_fall_33 : decode cX3_fall 33 = .ok (.aload_n 1, 1) ∧ 33 + 1 = 34 := by decide +kernel
theorem e_X3_fall_34 : decode cX3_fall 34 = .ok (.bipush 12, 2) ∧ 34 + 2 = 36 := by decide +kernel
theorem e_X3_fall_36 : decode cX3_fall 36 = .ok (.iload 4, 2) ∧ 36 + 2 = 38 := by decide +kernel
theorem e_X3_fall_38 : decode cX3_fall 38 = .ok (.iadd, 1) ∧ 38 + 1 = 39 := by decide +kernel
theorem e_X3_fall_39 : decode cX3_fall 39 = .ok (.iaload, 1) ∧ 39 + 1 = 40 := by decide +kernel
theorem e_X3_fall_40 : decode cX3_fall 40 = .ok (.aload_n 0, 1) ∧ 40 + 1 = 41 := by decide +kernel
theorem e_X3_fall_41 : decode cX3_fall 41 = .ok (.getfield 13, 3) ∧ 41 + 3 = 44 := by decide +kernel
theorem e_X3_fall_44 : decode cX3_fall 44 = .ok (.aload_n 1, 1) ∧ 44 + 1 = 45 := by decide +kernel
theorem e_X3_fall_45 : decode cX3_fall 45 = .ok (.bipush 24, 2) ∧ 45 + 2 = 47 := by decide +kernel
theorem e_X3_fall_47 : decode cX3_fall 47 = .ok (.iload 4, 2) ∧ 47 + 2 = 49 := by decide +kernel
theorem e_X3_fall_49 : decode cX3_fall 49 = .ok (.iadd, 1) ∧ 49 + 1 = 50 := by decide +kernel
theorem e_X3_fall_50 : decode cX3_fall 50 = .ok (.iaload, 1) ∧ 50 + 1 = 51 := by decide +kernel
theorem e_X3_fall_51 : decode cX3_fall 51 = .ok (.iadd, 1) ∧ 51 + 1 = 52 := by decide +kernel
theorem e_X3_fall_52 : decode cX3_fall 52 = .ok (.if_icmp .le 10, 3) ∧ 52 + 3 = 55 ∧ ((52 : Nat) : Int) + (10) = ((62 : Nat) : Int) := by decide +kernel
theorem e_X3_fall_55 : decode cX3_fall 55 = .ok (.iconst 1, 1) ∧ 55 + 1 = 56 := by decide +kernel
theorem e_X3_fall_56 : decode cX3_fall 56 = .ok (.iload 4, 2) ∧ 56 + 2 = 58 := by decide +kernel
theorem e_X3_fall_58 : decode cX3_fall 58 = .ok (.ishl, 1) ∧ 58 + 1 = 59 := by decide +kernel
theorem e_X3_fall_59 : decode cX3_fall 59 = .ok (.goto 4, 3) ∧ 59 + 3 = 62 ∧ ((59 : Nat) : Int) + (4) = ((63 : Nat) : Int) := by decide +kernel
theorem e_X3_fall_62 : decode cX3_fall 62 = .ok (.iconst 0, 1) ∧ 62 + 1 = 63 := by decide +kernel
theorem e_X3_fall_63 : decode cX3_fall 63 = .ok (.ior, 1) ∧ 63 + 1 = 64 := by decide +kernel
theorem e_X3_fall_64 : decode cX3_fall 64 = .ok (.istore_n 3, 1) ∧ 64 + 1 = 65 := by decide +kernel
theorem e_X3_fall_65 : decode cX3_fall 65 = .ok (.iinc 4 1, 3) ∧ 65 + 3 = 68 := by decide +kernel
theorem e_X3_fall_68 : decode cX3_fall 68 = .ok (.goto (-55), 3) ∧ 68 + 3 = 71 ∧ ((68 : Nat) : Int) + (-55) = ((13 : Nat) : Int) := by decide +kernel
theorem e_X3_fall_71 : decode cX3_fall 71 = .ok (.iconst 0, 1) ∧ 71 + 1 = 72 := by decide +kernel
theorem e_X3_fall_72 : decode cX3_fall 72 = .ok (.istore 4, 2) ∧ 72 + 2 = 74 := by decide +kernel
theorem e_X3_fall_74 : decode cX3_fall 74 = .ok (.iload 4, 2) ∧ 74 + 2 = 76 := by decide +kernel
theorem e_X3_fall_76 : decode cX3_fall 76 = .ok (.bipush 12, 2) ∧ 76 + 2 = 78 := by decide +kernel
theorem e_X3_fall_78 : decode cX3_fall 78 = .ok (.if_icmp .ge 114, 3) ∧ 78 + 3 = 81 ∧ ((78 : Nat) : Int) + (114) = ((192 : Nat) : Int) := by decide +kernel
theorem e_X3_fall_81 : decode cX3_fall 81 = .ok (.iload_n 3, 1) ∧ 81 + 1 = 82 := by decide +kernel
theorem e_X3_fall_82 : decode cX3_fall 82 = .ok (.iload 4, 2) ∧ 82 + 2 = 84 := by decide +kernel
theorem e_X3_fall_84 : decode cX3_fall 84 = .ok (.invokestatic 70, 3) ∧ 84 + 3 = 87 := by decide +kernel
theorem e_X3_fall_87 : decode cX3_fall 87 = .ok (.ifCond .eq 99, 3) ∧ 87 + 3 = 90 ∧ ((87 : Nat) : Int) + (99) = ((186 : Nat) : Int) := by decide +kernel
theorem e_X3_fall_90 : decode cX3_fall 90 = .ok (.aload_n 1, 1) ∧ 90 + 1 = 91 := by decide +kernel
theorem e_X3_fall_91 : decode cX3_fall 91 = .ok (.bipush 54, 2) ∧ 91 + 2 = 93 := by decide +kernel
theorem e_X3_fall_93 : decode cX3_fall 93 = .ok (.dup2, 1) ∧ 93 + 1 = 94 := by decide +kernel
theorem e_X3_fall_94 : decode cX3_fall 94 = .ok (.iaload, 1) ∧ 94 + 1 = 95 := by decide +kernel
theorem e_X3_fall_95 : decode cX3_fall 95 = .ok (.aload_n 1, 1) ∧ 95 + 1 = 96 := by decide +kernel
theorem e_X3_fall_96 : decode cX3_fall 96 = .ok (.iload 4, 2) ∧ 96 + 2 = 98 := by decide +kernel
theorem e_X3_fall_98 : decode cX3_fall 98 = .ok (.iaload, 1) ∧ 98 + 1 = 99 := by decide +kernel
theorem e_X3_fall_99 : decode cX3_fall 99 = .ok (.iadd, 1) ∧ 99 + 1 = 100 := by decide +kernel
theorem e_X3_fall_100 : decode cX3_fall 100 = .ok (.iastore, 1) ∧ 100 + 1 = 101 := by decide +kernel
theorem e_X3_fall_101 : decode cX3_fall 101 = .ok (.aload_n 1, 1) ∧ 101 + 1 = 102 := by decide +kernel
theorem e_X3_fall_102 : decode cX3_fall 102 = .ok (.iload 4, 2) ∧ 102 + 2 = 104 := by decide +kernel
theorem e_X3_fall_104 : decode cX3_fall 104 = .ok (.iconst 0, 1) ∧ 104 + 1 = 105 := by decide +kernel
theorem e_X3_fall_105 : decode cX3_fall 105 = .ok (.iastore, 1) ∧ 105 + 1 = 106 := by decide +kernel
theorem e_X3_fall_106 : decode cX3_fall 106 = .ok (.aload_n 1, 1) ∧ 106 + 1 = 107 := by decide +kernel
theorem e_X3_fall_107 : decode cX3_fall 107 = .ok (.bipush 12, 2) ∧ 107 + 2 = 109 := by decide +kernel
theorem e_X3_fall_109 : decode cX3_fall 109 = .ok (.iload 4, 2) ∧ 109 + 2 = 111 := by decide +kernel
theorem e_X3_fall_111 : decode cX3_fall 111 = .ok (.iadd, 1) ∧ 111 + 1 = 112 := by decide +kernel
theorem e_X3_fall_112 : decode cX3_fall 112 = .ok (.iconst 0, 1) ∧ 112 + 1 = 113 := by decide +kernel
theorem e_X3_fall_113 : decode cX3_fall 113 = .ok (.iastore, 1) ∧ 113 + 1 = 114 := by decide +kernel
theorem e_X3_fall_114 : decode cX3_fall 114 = .ok (.aload_n 1, 1) ∧ 114 + 1 = 115 := by decide +kernel
theorem e_X3_fall_115 : decode cX3_fall 115 = .ok (.bipush 24, 2) ∧ 115 + 2 = 117 := by decide +kernel
theorem e_X3_fall_117 : decode cX3_fall 117 = .ok (.iload 4, 2) ∧ 117 + 2 = 119 := by decide +kernel
theorem e_X3_fall_119 : decode cX3_fall 119 = .ok (.iadd, 1) ∧ 119 + 1 = 120 := by decide +kernel
theorem e_X3_fall_120 : decode cX3_fall 120 = .ok (.iconst 0, 1) ∧ 120 + 1 = 121 := by decide +kernel
theorem e_X3_fall_121 : decode cX3_fall 121 = .ok (.iastore, 1) ∧ 121 + 1 = 122 := by decide +kernel
theorem e_X3_fall_122 : decode cX3_fall 122 = .ok (.aload_n 1, 1) ∧ 122 + 1 = 123 := by decide +kernel
theorem e_X3_fall_123 : decode cX3_fall 123 = .ok (.bipush 36, 2) ∧ 123 + 2 = 125 := by decide +kernel
theorem e_X3_fall_125 : decode cX3_fall 125 = .ok (.iload 4, 2) ∧ 125 + 2 = 127 := by decide +kernel
theorem e_X3_fall_127 : decode cX3_fall 127 = .ok (.iadd, 1) ∧ 127 + 1 = 128 := by decide +kernel
theorem e_X3_fall_128 : decode cX3_fall 128 = .ok (.iconst 0, 1) ∧ 128 + 1 = 129 := by decide +kernel
theorem e_X3_fall_129 : decode cX3_fall 129 = .ok (.iastore, 1) ∧ 129 + 1 = 130 := by decide +kernel
theorem e_X3_fall_130 : decode cX3_fall 130 = .ok (.aload_n 1, 1) ∧ 130 + 1 = 131 := by decide +kernel
theorem e_X3_fall_131 : decode cX3_fall 131 = .ok (.bipush 48, 2) ∧ 131 + 2 = 133 := by decide +kernel
theorem e_X3_fall_133 : decode cX3_fall 133 = .ok (.dup2, 1) ∧ 133 + 1 = 134 := by decide +kernel
theorem e_X3_fall_134 : decode cX3_fall 134 = .ok (.iaload, 1) ∧ 134 + 1 = 135 := by decide +kernel
theorem e_X3_fall_135 : decode cX3_fall 135 = .ok (.iconst 1, 1) ∧ 135 + 1 = 136 := by decide +kernel
theorem e_X3_fall_136 : decode cX3_fall 136 = .ok (.iload 4, 2) ∧ 136 + 2 = 138 := by decide +kernel
theorem e_X3_fall_138 : decode cX3_fall 138 = .ok (.ishl, 1) ∧ 138 + 1 = 139 := by decide +kernel
theorem e_X3_fall_139 : decode cX3_fall 139 = .ok (.ior, 1) ∧ 139 + 1 = 140 := by decide +kernel
theorem e_X3_fall_140 : decode cX3_fall 140 = .ok (.iastore, 1) ∧ 140 + 1 = 141 := by decide +kernel
theorem e_X3_fall_141 : decode cX3_fall 141 = .ok (.iconst 0, 1) ∧ 141 + 1 = 142 := by decide +kernel
theorem e_X3_fall_142 : decode cX3_fall 142 = .ok (.istore 5, 2) ∧ 142 + 2 = 144 := by decide +kernel
theorem e_X3_fall_144 : decode cX3_fall 144 = .ok (.iload 5, 2) ∧ 144 + 2 = 146 := by decide +kernel
theorem e_X3_fall_146 : decode cX3_fall 146 = .ok (.aload_n 0, 1) ∧ 146 + 1 = 147 := by decide +kernel
theorem e_X3_fall_147 : decode cX3_fall 147 = .ok (.getfield 51, 3) ∧ 147 + 3 = 150 := by decide +kernel
theorem e_X3_fall_150 : decode cX3_fall 150 = .ok (.if_icmp .ge 36, 3) ∧ 150 + 3 = 153 ∧ ((150 : Nat) : Int) + (36) = ((186 : Nat) : Int) := by decide +kernel
theorem e_X3_fall_153 : decode cX3_fall 153 = .ok (.aload_n 1, 1) ∧ 153 + 1 = 154 := by decide +kernel
theorem e_X3_fall_154 : decode cX3_fall 154 = .ok (.bipush 53, 2) ∧ 154 + 2 = 156 := by decide +kernel
theorem e_X3_fall_156 : decode cX3_fall 156 = .ok (.dup2, 1) ∧ 156 + 1 = 157 := by decide +kernel
theorem e_X3_fall_157 : decode cX3_fall 157 = .ok (.iaload, 1) ∧ 157 + 1 = 158 := by decide +kernel
theorem e_X3_fall_158 : decode cX3_fall 158 = .ok (.aload_n 1, 1) ∧ 158 + 1 = 159 := by decide +kernel
theorem e_X3_fall_159 : decode cX3_fall 159 = .ok (.bipush 49, 2) ∧ 159 + 2 = 161 := by decide +kernel
theorem e_X3_fall_161 : decode cX3_fall 161 = .ok (.iload 5, 2) ∧ 161 + 2 = 163 := by decide +kernel
theorem e_X3_fall_163 : decode cX3_fall 163 = .ok (.iadd, 1) ∧ 163 + 1 = 164 := by decide +kernel
theorem e_X3_fall_164 : decode cX3_fall 164 = .ok (.iaload, 1) ∧ 164 + 1 = 165 := by decide +kernel
theorem e_X3_fall_165 : decode cX3_fall 165 = .ok (.iload 4, 2) ∧ 165 + 2 = 167 := by decide +kernel
theorem e_X3_fall_167 : decode cX3_fall 167 = .ok (.if_icmp .ne 10, 3) ∧ 167 + 3 = 170 ∧ ((167 : Nat) : Int) + (10) = ((177 : Nat) : Int) := by decide +kernel
theorem e_X3_fall_170 : decode cX3_fall 170 = .ok (.iconst 1, 1) ∧ 170 + 1 = 171 := by decide +kernel
theorem e_X3_fall_171 : decode cX3_fall 171 = .ok (.iload 5, 2) ∧ 171 + 2 = 173 := by decide +kernel
theorem e_X3_fall_173 : decode cX3_fall 173 = .ok (.ishl, 1) ∧ 173 + 1 = 174 := by decide +kernel
theorem e_X3_fall_174 : decode cX3_fall 174 = .ok (.goto 4, 3) ∧ 174 + 3 = 177 ∧ ((174 : Nat) : Int) + (4) = ((178 : Nat) : Int) := by decide +kernel
theorem e_X3_fall_177 : decode cX3_fall 177 = .ok (.iconst 0, 1) ∧ 177 + 1 = 178 := by decide +kernel
theorem e_X3_fall_178 : decode cX3_fall 178 = .ok (.ior, 1) ∧ 178 + 1 = 179 := by decide +kernel
theorem e_X3_fall_179 : decode cX3_fall 179 = .ok (.iastore, 1) ∧ 179 + 1 = 180 := by decide +kernel
theorem e_X3_fall_180 : decode cX3_fall 180 = .ok (.iinc 5 1, 3) ∧ 180 + 3 = 183 := by decide +kernel
theorem e_X3_fall_183 : decode cX3_fall 183 = .ok (.goto (-39), 3) ∧ 183 + 3 = 186 ∧ ((183 : Nat) : Int) + (-39) = ((144 : Nat) : Int) := by decide +kernel
theorem e_X3_fall_186 : decode cX3_fall 186 = .ok (.iinc 4 1, 3) ∧ 186 + 3 = 189 := by decide +kernel
theorem e_X3_fall_189 : decode cX3_fall 189 = .ok (.goto (-115), 3) ∧ 189 + 3 = 192 ∧ ((189 : Nat) : Int) + (-115) = ((74 : Nat) : Int) := by decide +kernel
theorem e_X3_fall_192 : decode cX3_fall 192 = .ok (.iconst 0, 1) ∧ 192 + 1 = 193 := by decide +kernel
theorem e_X3_fall_193 : decode cX3_fall 193 = .ok (.istore 4, 2) ∧ 193 + 2 = 195 := by decide +kernel
theorem e_X3_fall_195 : decode cX3_fall 195 = .ok (.iload 4, 2) ∧ 195 + 2 = 197 := by decide +kernel
theorem e_X3_fall_197 : decode cX3_fall 197 = .ok (.bipush 12, 2) ∧ 197 + 2 = 199 := by decide +kernel
theorem e_X3_fall_199 : decode cX3_fall 199 = .ok (.if_icmp .ge 51, 3) ∧ 199 + 3 = 202 ∧ ((199 : Nat) : Int) + (51) = ((250 : Nat) : Int) := by decide +kernel
theorem e_X3_fall_202 : decode cX3_fall 202 = .ok (.iconst 0, 1) ∧ 202 + 1 = 203 := by decide +kernel
theorem e_X3_fall_203 : decode cX3_fall 203 = .ok (.istore 5, 2) ∧ 203 + 2 = 205 := by decide +kernel
theorem e_X3_fall_205 : decode cX3_fall 205 = .ok (.iload 5, 2) ∧ 205 + 2 = 207 := by decide +kernel
theorem e_X3_fall_207 : decode cX3_fall 207 = .ok (.bipush 12, 2) ∧ 207 + 2 = 209 := by decide +kernel
theorem e_X3_fall_209 : decode cX3_fall 209 = .ok (.if_icmp .ge 35, 3) ∧ 209 + 3 = 212 ∧ ((209 : Nat) : Int) + (35) = ((244 : Nat) : Int) := by decide +kernel
theorem e_X3_fall_212 : decode cX3_fall 212 = .ok (.iload_n 3, 1) ∧ 212 + 1 = 213 := by decide +kernel
theorem e_X3_fall_213 : decode cX3_fall 213 = .ok (.iload 4, 2) ∧ 213 + 2 = 215 := by decide +kernel
theorem e_X3_fall_215 : decode cX3_fall 215 = .ok (.invokestatic 70, 3) ∧ 215 + 3 = 218 := by decide +kernel
theorem e_X3_fall_218 : decode cX3_fall 218 = .ok (.ifCond .eq 20, 3) ∧ 218 + 3 = 221 ∧ ((218 : Nat) : Int) + (20) = ((238 : Nat) : Int) := by decide +kernel
theorem e_X3_fall_221 : decode cX3_fall 221 = .ok (.iload 4, 2) ∧ 221 + 2 = 223 := by decide +kernel
theorem e_X3_fall_223 : decode cX3_fall 223 = .ok (.iload 5, 2) ∧ 223 + 2 = 225 := by decide +kernel
theorem e_X3_fall_225 : decode cX3_fall 225 = .ok (.invokestatic 121, 3) ∧ 225 + 3 = 228 := by decide +kernel
theorem e_X3_fall_228 : decode cX3_fall 228 = .ok (.ifCond .eq 10, 3) ∧ 228 + 3 = 231 ∧ ((228 : Nat) : Int) + (10) = ((238 : Nat) : Int) := by decide +kernel
theorem e_X3_fall_231 : decode cX3_fall 231 = .ok (.aload_n 1, 1) ∧ 231 + 1 = 232 := by decide +kernel
theorem e_X3_fall_232 : decode cX3_fall 232 = .ok (.iload 5, 2) ∧ 232 + 2 = 234 := by decide +kernel
theorem e_X3_fall_234 : decode cX3_fall 234 = .ok (.iconst 1, 1) ∧ 234 + 1 = 235 := by decide +kernel
theorem e_X3_fall_235 : decode cX3_fall 235 = .ok (.invokestatic 131, 3) ∧ 235 + 3 = 238 := by decide +kernel
theorem e_X3_fall_238 : decode cX3_fall 238 = .ok (.iinc 5 1, 3) ∧ 238 + 3 = 241 := by decide +kernel
theorem e_X3_fall_241 : decode cX3_fall 241 = .ok (.goto (-36), 3) ∧ 241 + 3 = 244 ∧ ((241 : Nat) : Int) + (-36) = ((205 : Nat) : Int) := by decide +kernel
theorem e_X3_fall_244 : decode cX3_fall 244 = .ok (.iinc 4 1, 3) ∧ 244 + 3 = 247 := by decide +kernel
theorem e_X3_fall_247 : decode cX3_fall 247 = .ok (.goto (-52), 3) ∧ 247 + 3 = 250 ∧ ((247 : Nat) : Int) + (-52) = ((195 : Nat) : Int) := by decide +kernel
theorem e_X3_fall_250 : decode cX3_fall 250 = .ok (.iload_n 2, 1) ∧ 250 + 1 = 251 := by decide +kernel
theorem e_X3_fall_251 : decode cX3_fall 251 = .ok (.iload_n 3, 1) ∧ 251 + 1 = 252 := by decide +kernel
theorem e_X3_fall_252 : decode cX3_fall 252 = .ok (.ior, 1) ∧ 252 + 1 = 253 := by decide +kernel
theorem e_X3_fall_253 : decode cX3_fall 253 = .ok (.istore_n 2, 1) ∧ 253 + 1 = 254 := by decide +kernel
theorem e_X3_fall_254 : decode cX3_fall 254 = .ok (.goto (-250), 3) ∧ 254 + 3 = 257 ∧ ((254 : Nat) : Int) + (-250) = ((4 : Nat) : Int) := by decide +kernel
theorem e_X3_fall_257 : decode cX3_fall 257 = .ok (.iload_n 2, 1) ∧ 257 + 1 = 258 := by decide +kernel
theorem e_X3_fall_258 : decode cX3_fall 258 = .ok (.ireturn, 1) := by decide +kernel
theorem e_X3_goPray_0 : decode cX3_goPray 0 = .ok (.aload_n 0, 1) ∧ 0 + 1 = 1 := by decide +kernel
theorem e_X3_goPray_1 : decode cX3_goPray 1 = .ok (.aload_n 1, 1) ∧ 1 + 1 = 2 := by decide +kernel
theorem e_X3_goPray_2 : decode cX3_goPray 2 = .ok (.iload_n 2, 1) ∧ 2 + 1 = 3 := by decide +kernel
theorem e_X3_goPray_3 : decode cX3_goPray 3 = .ok (.invokevirtual 127, 3) ∧ 3 + 3 = 6 := by decide +kernel
theorem e_X3_goPray_6 : decode cX3_goPray 6 = .ok (.istore_n 3, 1) ∧ 6 + 1 = 7 := by decide +kernel
theorem e_X3_goPray_7 : decode cX3_goPray 7 = .ok (.aload_n 1, 1) ∧ 7 + 1 = 8 := by decide +kernel
theorem e_X3_goPray_8 : decode cX3_goPray 8 = .ok (.bipush 49, 2) ∧ 8 + 2 = 10 := by decide +kernel
theorem e_X3_goPray_10 : decode cX3_goPray 10 = .ok (.iload_n 2, 1) ∧ 10 + 1 = 11 := by decide +kernel
theorem e_X3_goPray_11 : decode cX3_goPray 11 = .ok (.iadd, 1) ∧ 11 + 1 = 12 := by decide +kernel
theorem e_X3_goPray_12 : decode cX3_goPray 12 = .ok (.iaload, 1) ∧ 12 + 1 = 13 := by decide +kernel
theorem e_X3_goPray_13 : decode cX3_goPray 13 = .ok (.istore 4, 2) ∧ 13 + 2 = 15 := by decide +kernel
theorem e_X3_goPray_15 : decode cX3_goPray 15 = .ok (.aload_n 1, 1) ∧ 15 + 1 = 16 := by decide +kernel
theorem e_X3_goPray_16 : decode cX3_goPray 16 = .ok (.iload 4, 2) ∧ 16 + 2 = 18 := by decide +kernel
theorem e_X3_goPray_18 : decode cX3_goPray 18 = .ok (.iconst 2, 1) ∧ 18 + 1 = 19 := by decide +kernel
theorem e_X3_goPray_19 : decode cX3_goPray 19 = .ok (.iload_n 3, 1) ∧ 19 + 1 = 20 := by decide +kernel
theorem e_X3_goPray_20 : decode cX3_goPray 20 = .ok (.imul, 1) ∧ 20 + 1 = 21 := by decide +kernel
theorem e_X3_goPray_21 : decode cX3_goPray 21 = .ok (.invokestatic 131, 3) ∧ 21 + 3 = 24 := by decide +kernel
theorem e_X3_goPray_24 : decode cX3_goPray 24 = .ok (.iconst 0, 1) ∧ 24 + 1 = 25 := by decide +kernel
theorem e_X3_goPray_25 : decode cX3_goPray 25 = .ok (.istore 5, 2) ∧ 25 + 2 = 27 := by decide +kernel
theorem e_X3_goPray_27 : decode cX3_goPray 27 = .ok (.iload 5, 2) ∧ 27 + 2 = 29 := by decide +kernel
theorem e_X3_goPray_29 : decode cX3_goPray 29 = .ok (.bipush 12, 2) ∧ 29 + 2 = 31 := by decide +kernel
theorem e_X3_goPray_31 : decode cX3_goPray 31 = .ok (.if_icmp .ge 26, 3) ∧ 31 + 3 = 34 ∧ ((31 : Nat) : Int) + (26) = ((57 : Nat) : Int) := by decide +kernel
theorem e_X3_goPray_34 : decode cX3_goPray 34 = .ok (.iload 4, 2) ∧ 34 + 2 = 36 := by decide +kernel
theorem e_X3_goPray_36 : decode cX3_goPray 36 = .ok (.iload 5, 2) ∧ 36 + 2 = 38 := by decide +kernel
theorem e_X3_goPray_38 : decode cX3_goPray 38 = .ok (.invokestatic 121, 3) ∧ 38 + 3 = 41 := by decide +kernel
theorem e_X3_goPray_41 : decode cX3_goPray 41 = .ok (.ifCond .eq 10, 3) ∧ 41 + 3 = 44 ∧ ((41 : Nat) : Int) + (10) = ((51 : Nat) : Int) := by decide +kernel
theorem e_X3_goPray_44 : decode cX3_goPray 44 = .ok (.aload_n 1, 1) ∧ 44 + 1 = 45 := by decide +kernel
theorem e_X3_goPray_45 : decode cX3_goPray 45 = .ok (.iload 5, 2) ∧ 45 + 2 = 47 := by decide +kernel
theorem e_X3_goPray_47 : decode cX3_goPray 47 = .ok (.iload_n 3, 1) ∧ 47 + 1 = 48 := by decide +kernel
theorem e_X3_goPray_48 : decode cX3_goPray 48 = .ok (.invokestatic 131, 3) ∧ 48 + 3 = 51 := by decide +kernel
theorem e_X3_goPray_51 : decode cX3_goPray 51 = .ok (.iinc 5 1, 3) ∧ 51 + 3 = 54 := by decide +kernel
theorem e_X3_goPray_54 : decode cX3_goPray 54 = .ok (.goto (-27), 3) ∧ 54 + 3 = 57 ∧ ((54 : Nat) : Int) + (-27) = ((27 : Nat) : Int) := by decide +kernel
theorem e_X3_goPray_57 : decode cX3_goPray 57 = .ok (.aload_n 1, 1) ∧ 57 + 1 = 58 := by decide +kernel
theorem e_X3_goPray_58 : decode cX3_goPray 58 = .ok (.bipush 36, 2) ∧ 58 + 2 = 60 := by decide +kernel
theorem e_X3_goPray_60 : decode cX3_goPray 60 = .ok (.iload 4, 2) ∧ 60 + 2 = 62 := by decide +kernel
theorem e_X3_goPray_62 : decode cX3_goPray 62 = .ok (.iadd, 1) ∧ 62 + 1 = 63 := by decide +kernel
theorem e_X3_goPray_63 : decode cX3_goPray 63 = .ok (.dup2, 1) ∧ 63 + 1 = 64 := by decide +kernel
theorem e_X3_goPray_64 : decode cX3_goPray 64 = .ok (.iaload, 1) ∧ 64 + 1 = 65 := by decide +kernel
theorem e_X3_goPray_65 : decode cX3_goPray 65 = .ok (.aload_n 1, 1) ∧ 65 + 1 = 66 := by decide +kernel
theorem e_X3_goPray_66 : decode cX3_goPray 66 = .ok (.bipush 48, 2) ∧ 66 + 2 = 68 := by decide +kernel
theorem e_X3_goPray_68 : decode cX3_goPray 68 = .ok (.iaload, 1) ∧ 68 + 1 = 69 := by decide +kernel
theorem e_X3_goPray_69 : decode cX3_goPray 69 = .ok (.iload 4, 2) ∧ 69 + 2 = 71 := by decide +kernel
theorem e_X3_goPray_71 : decode cX3_goPray 71 = .ok (.invokestatic 70, 3) ∧ 71 + 3 = 74 := by decide +kernel
theorem e_X3_goPray_74 : decode cX3_goPray 74 = .ok (.ifCond .eq 7, 3) ∧ 74 + 3 = 77 ∧ ((74 : Nat) : Int) + (7) = ((81 : Nat) : Int) := by decide +kernel
theorem e_X3_goPray_77 : decode cX3_goPray 77 = .ok (.iconst 0, 1) ∧ 77 + 1 = 78 := by decide +kernel
theorem e_X3_goPray_78 : decode cX3_goPray 78 = .ok (.goto 4, 3) ∧ 78 + 3 = 81 ∧ ((78 : Nat) : Int) + (4) = ((82 : Nat) : Int) := by decide +kernel
theorem e_X3_goPray_81 : decode cX3_goPray 81 = .ok (.iconst 1, 1) ∧ 81 + 1 = 82 := by decide +kernel
theorem e_X3_goPray_82 : decode cX3_goPray 82 = .ok (.iadd, 1) ∧ 82 + 1 = 83 := by decide +kernel
theorem e_X3_goPray_83 : decode cX3_goPray 83 = .ok (.iastore, 1) ∧ 83 + 1 = 84 := by decide +kernel
theorem e_X3_goPray_84 : decode cX3_goPray 84 = .ok (.aload_n 0, 1) ∧ 84 + 1 = 85 := by decide +kernel
theorem e_X3_goPray_85 : decode cX3_goPray 85 = .ok (.aload_n 1, 1) ∧ 85 + 1 = 86 := by decide +kernel
theorem e_X3_goPray_86 : decode cX3_goPray 86 = .ok (.invokevirtual 135, 3) ∧ 86 + 3 = 89 := by decide +kernel
theorem e_X3_goPray_89 : decode cX3_goPray 89 = .ok (.ireturn, 1) := by decide +kernel
theorem e_X3_goDay_0 : decode cX3_goDay 0 = .ok (.aload_n 1, 1) ∧ 0 + 1 = 1 := by decide +kernel
theorem e_X3_goDay_1 : decode cX3_goDay 1 = .ok (.bipush 55, 2) ∧ 1 + 2 = 3 := by decide +kernel
theorem e_X3_goDay_3 : decode cX3_goDay 3 = .ok (.dup2, 1) ∧ 3 + 1 = 4 := by decide +kernel
theorem e_X3_goDay_4 : decode cX3_goDay 4 = .ok (.iaload, 1) ∧ 4 + 1 = 5 := by decide +kernel
theorem e_X3_goDay_5 : decode cX3_goDay 5 = .ok (.iconst 1, 1) ∧ 5 + 1 = 6 := by decide +kernel
theorem e_X3_goDay_6 : decode cX3_goDay 6 = .ok (.iadd, 1) ∧ 6 + 1 = 7 := by decide +kernel
theorem e_X3_goDay_7 : decode cX3_goDay 7 = .ok (.iastore, 1) ∧ 7 + 1 = 8 := by decide +kernel
theorem e_X3_goDay_8 : decode cX3_goDay 8 = .ok (.iconst 0, 1) ∧ 8 + 1 = 9 := by decide +kernel
theorem e_X3_goDay_9 : decode cX3_goDay 9 = .ok (.istore_n 2, 1) ∧ 9 + 1 = 10 := by decide +kernel
theorem e_X3_goDay_10 : decode cX3_goDay 10 = .ok (.iload_n 2, 1) ∧ 10 + 1 = 11 := by decide +kernel
theorem e_X3_goDay_11 : decode cX3_goDay 11 = .ok (.bipush 12, 2) ∧ 11 + 2 = 13 := by decide +kernel
theorem e_X3_goDay_13 : decode cX3_goDay 13 = .ok (.if_icmp .ge 27, 3) ∧ 13 + 3 = 16 ∧ ((13 : Nat) : Int) + (27) = ((40 : Nat) : Int) := by decide +kernel
theorem e_X3_goDay_16 : decode cX3_goDay 16 = .ok (.aload_n 1, 1) ∧ 16 + 1 = 17 := by decide +kernel
theorem e_X3_goDay_17 : decode cX3_goDay 17 = .ok (.iload_n 2, 1) ∧ 17 + 1 = 18 := by decide +kernel
theorem e_X3_goDay_18 : decode cX3_goDay 18 = .ok (.aload_n 1, 1) ∧ 18 + 1 = 19 := by decide +kernel
theorem e_X3_goDay_19 : decode cX3_goDay 19 = .ok (.bipush 36, 2) ∧ 19 + 2 = 21 := by decide +kernel
theorem e_X3_goDay_21 : decode cX3_goDay 21 = .ok (.iload_n 2, 1) ∧ 21 + 1 = 22 := by decide +kernel
theorem e_X3_goDay_22 : decode cX3_goDay 22 = .ok (.iadd, 1) ∧ 22 + 1 = 23 := by decide +kernel
theorem e_X3_goDay_23 : decode cX3_goDay 23 = .ok (.iaload, 1) ∧ 23 + 1 = 24 := by decide +kernel
theorem e_X3_goDay_24 : decode cX3_goDay 24 = .ok (.invokestatic 131, 3) ∧ 24 + 3 = 27 := by decide +kernel
theorem e_X3_goDay_27 : decode cX3_goDay 27 = .ok (.aload_n 1, 1) ∧ 27 + 1 = 28 := by decide +kernel
theorem e_X3_goDay_28 : decode cX3_goDay 28 = .ok (.bipush 36, 2) ∧ 28 + 2 = 30 := by decide +kernel
theorem e_X3_goDay_30 : decode cX3_goDay 30 = .ok (.iload_n 2, 1) ∧ 30 + 1 = 31 := by decide +kernel
theorem e_X3_goDay_31 : decode cX3_goDay 31 = .ok (.iadd, 1) ∧ 31 + 1 = 32 := by decide +kernel
theorem e_X3_goDay_32 : decode cX3_goDay 32 = .ok (.iconst 0, 1) ∧ 32 + 1 = 33 := by decide +kernel
theorem e_X3_goDay_33 : decode cX3_goDay 33 = .ok (.iastore, 1) ∧ 33 + 1 = 34 := by decide +kernel
theorem e_X3_goDay_34 : decode cX3_goDay 34 = .ok (.iinc 2 1, 3) ∧ 34 + 3 = 37 := by decide +kernel
theorem e_X3_goDay_37 : decode cX3_goDay 37 = .ok (.goto (-27), 3) ∧ 37 + 3 = 40 ∧ ((37 : Nat) : Int) + (-27) = ((10 : Nat) : Int) := by decide +kernel
theorem e_X3_goDay_40 : decode cX3_goDay 40 = .ok (.aload_n 0, 1) ∧ 40 + 1 = 41 := by decide +kernel
theorem e_X3_goDay_41 : decode cX3_goDay 41 = .ok (.aload_n 1, 1) ∧ 41 + 1 = 42 := by decide +kernel
theorem e_X3_goDay_42 : decode cX3_goDay 42 = .ok (.invokevirtual 135, 3) ∧ 42 + 3 = 45 := by decide +kernel
theorem e_X3_goDay_45 : decode cX3_goDay 45 = .ok (.ireturn, 1) := by decide +kernel
theorem e_X3_noOne_0 : decode cX3_noOne 0 = .ok (.aload_n 0, 1) ∧ 0 + 1 = 1 := by decide +kernel
theorem e_X3_noOne_1 : decode cX3_noOne 1 = .ok (.iload_n 1, 1) ∧ 1 + 1 = 2 := by decide +kernel
theorem e_X3_noOne_2 : decode cX3_noOne 2 = .ok (.invokevirtual 124, 3) ∧ 2 + 3 = 5 := by decide +kernel
theorem e_X3_noOne_5 : decode cX3_noOne 5 = .ok (.ifCond .eq 7, 3) ∧ 5 + 3 = 8 ∧ ((5 : Nat) : Int) + (7) = ((12 : Nat) : Int) := by decide +kernel
theorem e_X3_noOne_8 : decode cX3_noOne 8 = .ok (.iconst (-1), 1) ∧ 8 + 1 = 9 := by decide +kernel
theorem e_X3_noOne_9 : decode cX3_noOne 9 = .ok (.goto 23, 3) ∧ 9 + 3 = 12 ∧ ((9 : Nat) : Int) + (23) = ((32 : Nat) : Int) := by decide +kernel
theorem e_X3_noOne_12 : decode cX3_noOne 12 = .ok (.aload_n 0, 1) ∧ 12 + 1 = 13 := by decide +kernel
theorem e_X3_noOne_13 : decode cX3_noOne 13 = .ok (.getfield 20, 3) ∧ 13 + 3 = 16 := by decide +kernel
theorem e_X3_noOne_16 : decode cX3_noOne 16 = .ok (.bipush 53, 2) ∧ 16 + 2 = 18 := by decide +kernel
theorem e_X3_noOne_18 : decode cX3_noOne 18 = .ok (.iaload, 1) ∧ 18 + 1 = 19 := by decide +kernel
theorem e_X3_noOne_19 : decode cX3_noOne 19 = .ok (.iload_n 1, 1) ∧ 19 + 1 = 20 := by decide +kernel
theorem e_X3_noOne_20 : decode cX3_noOne 20 = .ok (.invokestatic 70, 3) ∧ 20 + 3 = 23 := by decide +kernel
theorem e_X3_noOne_23 : decode cX3_noOne 23 = .ok (.ifCond .eq 8, 3) ∧ 23 + 3 = 26 ∧ ((23 : Nat) : Int) + (8) = ((31 : Nat) : Int) := by decide +kernel
theorem e_X3_noOne_26 : decode cX3_noOne 26 = .ok (.bipush (-3), 2) ∧ 26 + 2 = 28 := by decide +kernel
theorem e_X3_noOne_28 : decode cX3_noOne 28 = .ok (.goto 4, 3) ∧ 28 + 3 = 31 ∧ ((28 : Nat) : Int) + (4) = ((32 : Nat) : Int) := by decide +kernel
theorem e_X3_noOne_31 : decode cX3_noOne 31 = .ok (.iconst 0, 1) ∧ 31 + 1 = 32 := by decide +kernel
theorem e_X3_noOne_32 : decode cX3_noOne 32 = .ok (.ireturn, 1) := by decide +kernel
theorem e_X3_pray_0 : decode cX3_pray 0 = .ok (.aload_n 0, 1) ∧ 0 + 1 = 1 := by decide +kernel
theorem e_X3_pray_1 : decode cX3_pray 1 = .ok (.iconst 0, 1) ∧ 1 + 1 = 2 := by decide +kernel
theorem e_X3_pray_2 : decode cX3_pray 2 = .ok (.putfield 48, 3) ∧ 2 + 3 = 5 := by decide +kernel
theorem e_X3_pray_5 : decode cX3_pray 5 = .ok (.aload_n 0, 1) ∧ 5 + 1 = 6 := by decide +kernel
theorem e_X3_pray_6 : decode cX3_pray 6 = .ok (.iload_n 1, 1) ∧ 6 + 1 = 7 := by decide +kernel
theorem e_X3_pray_7 : decode cX3_pray 7 = .ok (.invokevirtual 139, 3) ∧ 7 + 3 = 10 := by decide +kernel
theorem e_X3_pray_10 : decode cX3_pray 10 = .ok (.istore_n 2, 1) ∧ 10 + 1 = 11 := by decide +kernel
theorem e_X3_pray_11 : decode cX3_pray 11 = .ok (.iload_n 2, 1) ∧ 11 + 1 = 12 := by decide +kernel
theorem e_X3_pray_12 : decode cX3_pray 12 = .ok (.ifCond .eq 5, 3) ∧ 12 + 3 = 15 ∧ ((12 : Nat) : Int) + (5) = ((17 : Nat) : Int) := by decide +kernel
theorem e_X3_pray_15 : decode cX3_pray 15 = .ok (.iload_n 2, 1) ∧ 15 + 1 = 16 := by decide +kernel
theorem e_X3_pray_16 : decode cX3_pray 16 = .ok (.ireturn, 1) := by decide +kernel
theorem e_X3_pray_17 : decode cX3_pray 17 = .ok (.aload_n 0, 1) ∧ 17 + 1 = 18 := by decide +kernel
theorem e_X3_pray_18 : decode cX3_pray 18 = .ok (.invokevirtual 142, 3) ∧ 18 + 3 = 21 := by decide +kernel
theorem e_X3_pray_21 : decode cX3_pray 21 = .ok (.aload_n 0, 1) ∧ 21 + 1 = 22 := by decide +kernel
theorem e_X3_pray_22 : decode cX3_pray 22 = .ok (.aload_n 0, 1) ∧ 22 + 1 = 23 := by decide +kernel
theorem e_X3_pray_23 : decode cX3_pray 23 = .ok (.getfield 20, 3) ∧ 23 + 3 = 26 := by decide +kernel
theorem e_X3_pray_26 : decode cX3_pray 26 = .ok (.iload_n 1, 1) ∧ 26 + 1 = 27 := by decide +kernel
theorem e_X3_pray_27 : decode cX3_pray 27 = .ok (.invokevirtual 145, 3) ∧ 27 + 3 = 30 := by decide +kernel
theorem e_X3_pray_30 : decode cX3_pray 30 = .ok (.ireturn, 1) := by decide +kernel
theorem e_X3_oath_0 : decode cX3_oath 0 = .ok (.aload_n 0, 1) ∧ 0 + 1 = 1 := by decide +kernel
theorem e_X3_oath_1 : decode cX3_oath 1 = .ok (.iconst 0, 1) ∧ 1 + 1 = 2 := by decide +kernel
theorem e_X3_oath_2 : decode cX3_oath 2 = .ok (.putfield 48, 3) ∧ 2 + 3 = 5 := by decide +kernel
theorem e_X3_oath_5 : decode cX3_oath 5 = .ok (.aload_n 0, 1) ∧ 5 + 1 = 6 := by decide +kernel
theorem e_X3_oath_6 : decode cX3_oath 6 = .ok (.iload_n 1, 1) ∧ 6 + 1 = 7 := by decide +kernel
theorem e_X3_oath_7 : decode cX3_oath 7 = .ok (.invokevirtual 139, 3) ∧ 7 + 3 = 10 := by decide +kernel
theorem e_X3_oath_10 : decode cX3_oath 10 = .ok (.istore_n 2, 1) ∧ 10 + 1 = 11 := by decide +kernel
theorem e_X3_oath_11 : decode cX3_oath 11 = .ok (.iload_n 2, 1) ∧ 11 + 1 = 12 := by decide +kernel
theorem e_X3_oath_12 : decode cX3_oath 12 = .ok (.ifCond .eq 5, 3) ∧ 12 + 3 = 15 ∧ ((12 : Nat) : Int) + (5) = ((17 : Nat) : Int) := by decide +kernel
theorem e_X3_oath_15 : decode cX3_oath 15 = .ok (.iload_n 2, 1) ∧ 15 + 1 = 16 := by decide +kernel
theorem e_X3_oath_16 : decode cX3_oath 16 = .ok (.ireturn, 1) := by decide +kernel
theorem e_X3_oath_17 : decode cX3_oath 17 = .ok (.aload_n 0, 1) ∧ 17 + 1 = 18 := by decide +kernel
theorem e_X3_oath_18 : decode cX3_oath 18 = .ok (.getfield 20, 3) ∧ 18 + 3 = 21 := by decide +kernel
theorem e_X3_oath_21 : decode cX3_oath 21 = .ok (.bipush 49, 2) ∧ 21 + 2 = 23 := by decide +kernel
theorem e_X3_oath_23 : decode cX3_oath 23 = .ok (.iload_n 1, 1) ∧ 23 + 1 = 24 := by decide +kernel
theorem e_X3_oath_24 : decode cX3_oath 24 = .ok (.iadd, 1) ∧ 24 + 1 = 25 := by decide +kernel
theorem e_X3_oath_25 : decode cX3_oath 25 = .ok (.iaload, 1) ∧ 25 + 1 = 26 := by decide +kernel
theorem e_X3_oath_26 : decode cX3_oath 26 = .ok (.istore_n 3, 1) ∧ 26 + 1 = 27 := by decide +kernel
theorem e_X3_oath_27 : decode cX3_oath 27 = .ok (.aload_n 0, 1) ∧ 27 + 1 = 28 := by decide +kernel
theorem e_X3_oath_28 : decode cX3_oath 28 = .ok (.getfield 20, 3) ∧ 28 + 3 = 31 := by decide +kernel
theorem e_X3_oath_31 : decode cX3_oath 31 = .ok (.bipush 48, 2) ∧ 31 + 2 = 33 := by decide +kernel
theorem e_X3_oath_33 : decode cX3_oath 33 = .ok (.iaload, 1) ∧ 33 + 1 = 34 := by decide +kernel
theorem e_X3_oath_34 : decode cX3_oath 34 = .ok (.iload_n 3, 1) ∧ 34 + 1 = 35 := by decide +kernel
theorem e_X3_oath_35 : decode cX3_oath 35 = .ok (.invokestatic 70, 3) ∧ 35 + 3 = 38 := by decide +kernel
theorem e_X3_oath_38 : decode cX3_oath 38 = .ok (.ifCond .eq 6, 3) ∧ 38 + 3 = 41 ∧ ((38 : Nat) : Int) + (6) = ((44 : Nat) : Int) := by decide +kernel
theorem e_X3_oath_41 : decode cX3_oath 41 = .ok (.bipush (-3), 2) ∧ 41 + 2 = 43 := by decide +kernel
theorem e_X3_oath_43 : decode cX3_oath 43 = .ok (.ireturn, 1) := by decide +kernel
theorem e_X3_oath_44 : decode cX3_oath 44 = .ok (.aload_n 0, 1) ∧ 44 + 1 = 45 := by decide +kernel
theorem e_X3_oath_45 : decode cX3_oath 45 = .ok (.getfield 20, 3) ∧ 45 + 3 = 48 := by decide +kernel
theorem e_X3_oath_48 : decode cX3_oath 48 = .ok (.bipush 24, 2) ∧ 48 + 2 = 50 := by decide +kernel
theorem e_X3_oath_50 : decode cX3_oath 50 = .ok (.iload_n 3, 1) ∧ 50 + 1 = 51 := by decide +kernel
theorem e_X3_oath_51 : decode cX3_oath 51 = .ok (.iadd, 1) ∧ 51 + 1 = 52 := by decide +kernel
theorem e_X3_oath_52 : decode cX3_oath 52 = .ok (.iaload, 1) ∧ 52 + 1 = 53 := by decide +kernel
theorem e_X3_oath_53 : decode cX3_oath 53 = .ok (.bipush 9, 2) ∧ 53 + 2 = 55 := by decide +kernel
theorem e_X3_oath_55 : decode cX3_oath 55 = .ok (.if_icmp .ne 6, 3) ∧ 55 + 3 = 58 ∧ ((55 : Nat) : Int) + (6) = ((61 : Nat) : Int) := by decide +kernel
theorem e_X3_oath_58 : decode cX3_oath 58 = .ok (.bipush (-4), 2) ∧ 58 + 2 = 60 := by decide +kernel
theorem e_X3_oath_60 : decode cX3_oath 60 = .ok (.ireturn, 1) := by decide +kernel
theorem e_X3_oath_61 : decode cX3_oath 61 = .ok (.aload_n 0, 1) ∧ 61 + 1 = 62 := by decide +kernel
theorem e_X3_oath_62 : decode cX3_oath 62 = .ok (.invokevirtual 142, 3) ∧ 62 + 3 = 65 := by decide +kernel
theorem e_X3_oath_65 : decode cX3_oath 65 = .ok (.aload_n 0, 1) ∧ 65 + 1 = 66 := by decide +kernel
theorem e_X3_oath_66 : decode cX3_oath 66 = .ok (.getfield 20, 3) ∧ 66 + 3 = 69 := by decide +kernel
theorem e_X3_oath_69 : decode cX3_oath 69 = .ok (.bipush 24, 2) ∧ 69 + 2 = 71 := by decide +kernel
theorem e_X3_oath_71 : decode cX3_oath 71 = .ok (.iload_n 3, 1) ∧ 71 + 1 = 72 := by decide +kernel
theorem e_X3_oath_72 : decode cX3_oath 72 = .ok (.iadd, 1) ∧ 72 + 1 = 73 := by decide +kernel
theorem e_X3_oath_73 : decode cX3_oath 73 = .ok (.dup2, 1) ∧ 73 + 1 = 74 := by decide +kernel
theorem e_X3_oath_74 : decode cX3_oath 74 = .ok (.iaload, 1) ∧ 74 + 1 = 75 := by decide +kernel
theorem e_X3_oath_75 : decode cX3_oath 75 = .ok (.iconst 1, 1) ∧ 75 + 1 = 76 := by decide +kernel
theorem e_X3_oath_76 : decode cX3_oath 76 = .ok (.iadd, 1) ∧ 76 + 1 = 77 := by decide +kernel
theorem e_X3_oath_77 : decode cX3_oath 77 = .ok (.iastore, 1) ∧ 77 + 1 = 78 := by decide +kernel
theorem e_X3_oath_78 : decode cX3_oath 78 = .ok (.aload_n 0, 1) ∧ 78 + 1 = 79 := by decide +kernel
theorem e_X3_oath_79 : decode cX3_oath 79 = .ok (.getfield 20, 3) ∧ 79 + 3 = 82 := by decide +kernel
theorem e_X3_oath_82 : decode cX3_oath 82 = .ok (.bipush 24, 2) ∧ 82 + 2 = 84 := by decide +kernel
theorem e_X3_oath_84 : decode cX3_oath 84 = .ok (.iload_n 3, 1) ∧ 84 + 1 = 85 := by decide +kernel
theorem e_X3_oath_85 : decode cX3_oath 85 = .ok (.iadd, 1) ∧ 85 + 1 = 86 := by decide +kernel
theorem e_X3_oath_86 : decode cX3_oath 86 = .ok (.iaload, 1) ∧ 86 + 1 = 87 := by decide +kernel
theorem e_X3_oath_87 : decode cX3_oath 87 = .ok (.ireturn, 1) := by decide +kernel
theorem e_X3_doubt_0 : decode cX3_doubt 0 = .ok (.aload_n 0, 1) ∧ 0 + 1 = 1 := by decide +kernel
theorem e_X3_doubt_1 : decode cX3_doubt 1 = .ok (.iconst 0, 1) ∧ 1 + 1 = 2 := by decide +kernel
theorem e_X3_doubt_2 : decode cX3_doubt 2 = .ok (.putfield 48, 3) ∧ 2 + 3 = 5 := by decide +kernel
theorem e_X3_doubt_5 : decode cX3_doubt 5 = .ok (.aload_n 0, 1) ∧ 5 + 1 = 6 := by decide +kernel
theorem e_X3_doubt_6 : decode cX3_doubt 6 = .ok (.iload_n 1, 1) ∧ 6 + 1 = 7 := by decide +kernel
theorem e_X3_doubt_7 : decode cX3_doubt 7 = .ok (.invokevirtual 139, 3) ∧ 7 + 3 = 10 := by decide +kernel
theorem e_X3_doubt_10 : decode cX3_doubt 10 = .ok (.istore_n 2, 1) ∧ 10 + 1 = 11 := by decide +kernel
theorem e_X3_doubt_11 : decode cX3_doubt 11 = .ok (.iload_n 2, 1) ∧ 11 + 1 = 12 := by decide +kernel
theorem e_X3_doubt_12 : decode cX3_doubt 12 = .ok (.ifCond .eq 5, 3) ∧ 12 + 3 = 15 ∧ ((12 : Nat) : Int) + (5) = ((17 : Nat) : Int) := by decide +kernel
theorem e_X3_doubt_15 : decode cX3_doubt 15 = .ok (.iload_n 2, 1) ∧ 15 + 1 = 16 := by decide +kernel
theorem e_X3_doubt_16 : decode cX3_doubt 16 = .ok (.ireturn, 1) := by decide +kernel
theorem e_X3_doubt_17 : decode cX3_doubt 17 = .ok (.aload_n 0, 1) ∧ 17 + 1 = 18 := by decide +kernel
theorem e_X3_doubt_18 : decode cX3_doubt 18 = .ok (.invokevirtual 142, 3) ∧ 18 + 3 = 21 := by decide +kernel
theorem e_X3_doubt_21 : decode cX3_doubt 21 = .ok (.bipush 12, 2) ∧ 21 + 2 = 23 := by decide +kernel
theorem e_X3_doubt_23 : decode cX3_doubt 23 = .ok (.aload_n 0, 1) ∧ 23 + 1 = 24 := by decide +kernel
theorem e_X3_doubt_24 : decode cX3_doubt 24 = .ok (.getfield 20, 3) ∧ 24 + 3 = 27 := by decide +kernel
theorem e_X3_doubt_27 : decode cX3_doubt 27 = .ok (.bipush 49, 2) ∧ 27 + 2 = 29 := by decide +kernel
theorem e_X3_doubt_29 : decode cX3_doubt 29 = .ok (.iload_n 1, 1) ∧ 29 + 1 = 30 := by decide +kernel
theorem e_X3_doubt_30 : decode cX3_doubt 30 = .ok (.iadd, 1) ∧ 30 + 1 = 31 := by decide +kernel
theorem e_X3_doubt_31 : decode cX3_doubt 31 = .ok (.iaload, 1) ∧ 31 + 1 = 32 := by decide +kernel
theorem e_X3_doubt_32 : decode cX3_doubt 32 = .ok (.iadd, 1) ∧ 32 + 1 = 33 := by decide +kernel
theorem e_X3_doubt_33 : decode cX3_doubt 33 = .ok (.istore_n 3, 1) ∧ 33 + 1 = 34 := by decide +kernel
theorem e_X3_doubt_34 : decode cX3_doubt 34 = .ok (.aload_n 0, 1) ∧ 34 + 1 = 35 := by decide +kernel
theorem e_X3_doubt_35 : decode cX3_doubt 35 = .ok (.getfield 20, 3) ∧ 35 + 3 = 38 := by decide +kernel
theorem e_X3_doubt_38 : decode cX3_doubt 38 = .ok (.iload_n 3, 1) ∧ 38 + 1 = 39 := by decide +kernel
theorem e_X3_doubt_39 : decode cX3_doubt 39 = .ok (.dup2, 1) ∧ 39 + 1 = 40 := by decide +kernel
theorem e_X3_doubt_40 : decode cX3_doubt 40 = .ok (.iaload, 1) ∧ 40 + 1 = 41 := by decide +kernel
theorem e_X3_doubt_41 : decode cX3_doubt 41 = .ok (.aload_n 0, 1) ∧ 41 + 1 = 42 := by decide +kernel
theorem e_X3_doubt_42 : decode cX3_doubt 42 = .ok (.getfield 20, 3) ∧ 42 + 3 = 45 := by decide +kernel
theorem e_X3_doubt_45 : decode cX3_doubt 45 = .ok (.iload_n 3, 1) ∧ 45 + 1 = 46 := by decide +kernel
theorem e_X3_doubt_46 : decode cX3_doubt 46 = .ok (.iaload, 1) ∧ 46 + 1 = 47 := by decide +kernel
theorem e_X3_doubt_47 : decode cX3_doubt 47 = .ok (.ifCond .le 7, 3) ∧ 47 + 3 = 50 ∧ ((47 : Nat) : Int) + (7) = ((54 : Nat) : Int) := by decide +kernel
theorem e_X3_doubt_50 : decode cX3_doubt 50 = .ok (.iconst 1, 1) ∧ 50 + 1 = 51 := by decide +kernel
theorem e_X3_doubt_51 : decode cX3_doubt 51 = .ok (.goto 4, 3) ∧ 51 + 3 = 54 ∧ ((51 : Nat) : Int) + (4) = ((55 : Nat) : Int) := by decide +kernel
theorem e_X3_doubt_54 : decode cX3_doubt 54 = .ok (.iconst 0, 1) ∧ 54 + 1 = 55 := by decide +kernel
theorem e_X3_doubt_55 : decode cX3_doubt 55 = .ok (.isub, 1) ∧ 55 + 1 = 56 := by decide +kernel
theorem e_X3_doubt_56 : decode cX3_doubt 56 = .ok (.iastore, 1) ∧ 56 + 1 = 57 := by decide +kernel
theorem e_X3_doubt_57 : decode cX3_doubt 57 = .ok (.aload_n 0, 1) ∧ 57 + 1 = 58 := by decide +kernel
theorem e_X3_doubt_58 : decode cX3_doubt 58 = .ok (.getfield 20, 3) ∧ 58 + 3 = 61 := by decide +kernel
theorem e_X3_doubt_61 : decode cX3_doubt 61 = .ok (.iload_n 3, 1) ∧ 61 + 1 = 62 := by decide +kernel
theorem e_X3_doubt_62 : decode cX3_doubt 62 = .ok (.iaload, 1) ∧ 62 + 1 = 63 := by decide +kernel
theorem e_X3_doubt_63 : decode cX3_doubt 63 = .ok (.ireturn, 1) := by decide +kernel
theorem e_X3_walk_0 : decode cX3_walk 0 = .ok (.aload_n 0, 1) ∧ 0 + 1 = 1 := by decide +kernel
theorem e_X3_walk_1 : decode cX3_walk 1 = .ok (.iconst 0, 1) ∧ 1 + 1 = 2 := by decide +kernel
theorem e_X3_walk_2 : decode cX3_walk 2 = .ok (.putfield 48, 3) ∧ 2 + 3 = 5 := by decide +kernel
theorem e_X3_walk_5 : decode cX3_walk 5 = .ok (.aload_n 0, 1) ∧ 5 + 1 = 6 := by decide +kernel
theorem e_X3_walk_6 : decode cX3_walk 6 = .ok (.iload_n 1, 1) ∧ 6 + 1 = 7 := by decide +kernel
theorem e_X3_walk_7 : decode cX3_walk 7 = .ok (.invokevirtual 124, 3) ∧ 7 + 3 = 10 := by decide +kernel
theorem e_X3_walk_10 : decode cX3_walk 10 = .ok (.ifCond .ne 10, 3) ∧ 10 + 3 = 13 ∧ ((10 : Nat) : Int) + (10) = ((20 : Nat) : Int) := by decide +kernel
theorem e_X3_walk_13 : decode cX3_walk 13 = .ok (.iload_n 2, 1) ∧ 13 + 1 = 14 := by decide +kernel
theorem e_X3_walk_14 : decode cX3_walk 14 = .ok (.invokestatic 114, 3) ∧ 14 + 3 = 17 := by decide +kernel
theorem e_X3_walk_17 : decode cX3_walk 17 = .ok (.ifCond .eq 5, 3) ∧ 17 + 3 = 20 ∧ ((17 : Nat) : Int) + (5) = ((22 : Nat) : Int) := by decide +kernel
theorem e_X3_walk_20 : decode cX3_walk 20 = .ok (.iconst (-1), 1) ∧ 20 + 1 = 21 := by decide +kernel
theorem e_X3_walk_21 : decode cX3_walk 21 = .ok (.ireturn, 1) := by decide +kernel
theorem e_X3_walk_22 : decode cX3_walk 22 = .ok (.aload_n 0, 1) ∧ 22 + 1 = 23 := by decide +kernel
theorem e_X3_walk_23 : decode cX3_walk 23 = .ok (.getfield 20, 3) ∧ 23 + 3 = 26 := by decide +kernel
theorem e_X3_walk_26 : decode cX3_walk 26 = .ok (.bipush 53, 2) ∧ 26 + 2 = 28 := by decide +kernel
theorem e_X3_walk_28 : decode cX3_walk 28 = .ok (.iaload, 1) ∧ 28 + 1 = 29 := by decide +kernel
theorem e_X3_walk_29 : decode cX3_walk 29 = .ok (.iload_n 1, 1) ∧ 29 + 1 = 30 := by decide +kernel
theorem e_X3_walk_30 : decode cX3_walk 30 = .ok (.invokestatic 70, 3) ∧ 30 + 3 = 33 := by decide +kernel
theorem e_X3_walk_33 : decode cX3_walk 33 = .ok (.ifCond .ne 19, 3) ∧ 33 + 3 = 36 ∧ ((33 : Nat) : Int) + (19) = ((52 : Nat) : Int) := by decide +kernel
theorem e_X3_walk_36 : decode cX3_walk 36 = .ok (.aload_n 0, 1) ∧ 36 + 1 = 37 := by decide +kernel
theorem e_X3_walk_37 : decode cX3_walk 37 = .ok (.getfield 20, 3) ∧ 37 + 3 = 40 := by decide +kernel
theorem e_X3_walk_40 : decode cX3_walk 40 = .ok (.bipush 49, 2) ∧ 40 + 2 = 42 := by decide +kernel
theorem e_X3_walk_42 : decode cX3_walk 42 = .ok (.iload_n 1, 1) ∧ 42 + 1 = 43 := by decide +kernel
theorem e_X3_walk_43 : decode cX3_walk 43 = .ok (.iadd, 1) ∧ 43 + 1 = 44 := by decide +kernel
theorem e_X3_walk_44 : decode cX3_walk 44 = .ok (.iaload, 1) ∧ 44 + 1 = 45 := by decide +kernel
theorem e_X3_walk_45 : decode cX3_walk 45 = .ok (.iload_n 2, 1) ∧ 45 + 1 = 46 := by decide +kernel
theorem e_X3_walk_46 : decode cX3_walk 46 = .ok (.invokestatic 121, 3) ∧ 46 + 3 = 49 := by decide +kernel
theorem e_X3_walk_49 : decode cX3_walk 49 = .ok (.ifCond .ne 6, 3) ∧ 49 + 3 = 52 ∧ ((49 : Nat) : Int) + (6) = ((55 : Nat) : Int) := by decide +kernel
theorem e_X3_walk_52 : decode cX3_walk 52 = .ok (.bipush (-3), 2) ∧ 52 + 2 = 54 := by decide +kernel
theorem e_X3_walk_54 : decode cX3_walk 54 = .ok (.ireturn, 1) := by decide +kernel
theorem e_X3_walk_55 : decode cX3_walk 55 = .ok (.aload_n 0, 1) ∧ 55 + 1 = 56 := by decide +kernel
theorem e_X3_walk_56 : decode cX3_walk 56 = .ok (.invokevirtual 142, 3) ∧ 56 + 3 = 59 := by decide +kernel
theorem e_X3_walk_59 : decode cX3_walk 59 = .ok (.aload_n 0, 1) ∧ 59 + 1 = 60 := by decide +kernel
theorem e_X3_walk_60 : decode cX3_walk 60 = .ok (.getfield 20, 3) ∧ 60 + 3 = 63 := by decide +kernel
theorem e_X3_walk_63 : decode cX3_walk 63 = .ok (.bipush 49, 2) ∧ 63 + 2 = 65 := by decide +kernel
theorem e_X3_walk_65 : decode cX3_walk 65 = .ok (.iload_n 1, 1) ∧ 65 + 1 = 66 := by decide +kernel
theorem e_X3_walk_66 : decode cX3_walk 66 = .ok (.iadd, 1) ∧ 66 + 1 = 67 := by decide +kernel
theorem e_X3_walk_67 : decode cX3_walk 67 = .ok (.iload_n 2, 1) ∧ 67 + 1 = 68 := by decide +kernel
theorem e_X3_walk_68 : decode cX3_walk 68 = .ok (.iastore, 1) ∧ 68 + 1 = 69 := by decide +kernel
theorem e_X3_walk_69 : decode cX3_walk 69 = .ok (.aload_n 0, 1) ∧ 69 + 1 = 70 := by decide +kernel
theorem e_X3_walk_70 : decode cX3_walk 70 = .ok (.iload_n 2, 1) ∧ 70 + 1 = 71 := by decide +kernel
theorem e_X3_walk_71 : decode cX3_walk 71 = .ok (.invokevirtual 118, 3) ∧ 71 + 3 = 74 := by decide +kernel
theorem e_X3_walk_74 : decode cX3_walk 74 = .ok (.iconst 1, 1) ∧ 74 + 1 = 75 := by decide +kernel
theorem e_X3_walk_75 : decode cX3_walk 75 = .ok (.iload_n 1, 1) ∧ 75 + 1 = 76 := by decide +kernel
theorem e_X3_walk_76 : decode cX3_walk 76 = .ok (.ishl, 1) ∧ 76 + 1 = 77 := by decide +kernel
theorem e_X3_walk_77 : decode cX3_walk 77 = .ok (.iconst (-1), 1) ∧ 77 + 1 = 78 := by decide +kernel
theorem e_X3_walk_78 : decode cX3_walk 78 = .ok (.ixor, 1) ∧ 78 + 1 = 79 := by decide +kernel
theorem e_X3_walk_79 : decode cX3_walk 79 = .ok (.iand, 1) ∧ 79 + 1 = 80 := by decide +kernel
theorem e_X3_walk_80 : decode cX3_walk 80 = .ok (.aload_n 0, 1) ∧ 80 + 1 = 81 := by decide +kernel
theorem e_X3_walk_81 : decode cX3_walk 81 = .ok (.getfield 20, 3) ∧ 81 + 3 = 84 := by decide +kernel
theorem e_X3_walk_84 : decode cX3_walk 84 = .ok (.bipush 53, 2) ∧ 84 + 2 = 86 := by decide +kernel
theorem e_X3_walk_86 : decode cX3_walk 86 = .ok (.iaload, 1) ∧ 86 + 1 = 87 := by decide +kernel
theorem e_X3_walk_87 : decode cX3_walk 87 = .ok (.iconst (-1), 1) ∧ 87 + 1 = 88 := by decide +kernel
theorem e_X3_walk_88 : decode cX3_walk 88 = .ok (.ixor, 1) ∧ 88 + 1 = 89 := by decide +kernel
theorem e_X3_walk_89 : decode cX3_walk 89 = .ok (.iand, 1) ∧ 89 + 1 = 90 := by decide +kernel
theorem e_X3_walk_90 : decode cX3_walk 90 = .ok (.ireturn, 1) := by decide +kernel
theorem e_X3_day_0 : decode cX3_day 0 = .ok (.aload_n 0, 1) ∧ 0 + 1 = 1 := by decide +kernel
theorem e_X3_day_1 : decode cX3_day 1 = .ok (.iconst 0, 1) ∧ 1 + 1 = 2 := by decide +kernel
theorem e_X3_day_2 : decode cX3_day 2 = .ok (.putfield 48, 3) ∧ 2 + 3 = 5 := by decide +kernel
theorem e_X3_day_5 : decode cX3_day 5 = .ok (.aload_n 0, 1) ∧ 5 + 1 = 6 := by decide +kernel
theorem e_X3_day_6 : decode cX3_day 6 = .ok (.invokevirtual 142, 3) ∧ 6 + 3 = 9 := by decide +kernel
theorem e_X3_day_9 : decode cX3_day 9 = .ok (.aload_n 0, 1) ∧ 9 + 1 = 10 := by decide +kernel
theorem e_X3_day_10 : decode cX3_day 10 = .ok (.aload_n 0, 1) ∧ 10 + 1 = 11 := by decide +kernel
theorem e_X3_day_11 : decode cX3_day 11 = .ok (.getfield 20, 3) ∧ 11 + 3 = 14 := by decide +kernel
theorem e_X3_day_14 : decode cX3_day 14 = .ok (.invokevirtual 148, 3) ∧ 14 + 3 = 17 := by decide +kernel
theorem e_X3_day_17 : decode cX3_day 17 = .ok (.ireturn, 1) := by decide +kernel
theorem e_X3_undo_0 : decode cX3_undo 0 = .ok (.aload_n 0, 1) ∧ 0 + 1 = 1 := by decide +kernel
theorem e_X3_undo_1 : decode cX3_undo 1 = .ok (.iconst 0, 1) ∧ 1 + 1 = 2 := by decide +kernel
theorem e_X3_undo_2 : decode cX3_undo 2 = .ok (.putfield 48, 3) ∧ 2 + 3 = 5 := by decide +kernel
theorem e_X3_undo_5 : decode cX3_undo 5 = .ok (.aload_n 0, 1) ∧ 5 + 1 = 6 := by decide +kernel
theorem e_X3_undo_6 : decode cX3_undo 6 = .ok (.getfield 108, 3) ∧ 6 + 3 = 9 := by decide +kernel
theorem e_X3_undo_9 : decode cX3_undo 9 = .ok (.ifCond .ne 6, 3) ∧ 9 + 3 = 12 ∧ ((9 : Nat) : Int) + (6) = ((15 : Nat) : Int) := by decide +kernel
theorem e_X3_undo_12 : decode cX3_undo 12 = .ok (.bipush (-3), 2) ∧ 12 + 2 = 14 := by decide +kernel
theorem e_X3_undo_14 : decode cX3_undo 14 = .ok (.ireturn, 1) := by decide +kernel
theorem e_X3_undo_15 : decode cX3_undo 15 = .ok (.aload_n 0, 1) ∧ 15 + 1 = 16 := by decide +kernel
theorem e_X3_undo_16 : decode cX3_undo 16 = .ok (.dup, 1) ∧ 16 + 1 = 17 := by decide +kernel
theorem e_X3_undo_17 : decode cX3_undo 17 = .ok (.getfield 108, 3) ∧ 17 + 3 = 20 := by decide +kernel
theorem e_X3_undo_20 : decode cX3_undo 20 = .ok (.iconst 1, 1) ∧ 20 + 1 = 21 := by decide +kernel
theorem e_X3_undo_21 : decode cX3_undo 21 = .ok (.isub, 1) ∧ 21 + 1 = 22 := by decide +kernel
theorem e_X3_undo_22 : decode cX3_undo 22 = .ok (.putfield 108, 3) ∧ 22 + 3 = 25 := by decide +kernel
theorem e_X3_undo_25 : decode cX3_undo 25 = .ok (.iconst 0, 1) ∧ 25 + 1 = 26 := by decide +kernel
theorem e_X3_undo_26 : decode cX3_undo 26 = .ok (.istore_n 1, 1) ∧ 26 + 1 = 27 := by decide +kernel
theorem e_X3_undo_27 : decode cX3_undo 27 = .ok (.iload_n 1, 1) ∧ 27 + 1 = 28 := by decide +kernel
theorem e_X3_undo_28 : decode cX3_undo 28 = .ok (.bipush 58, 2) ∧ 28 + 2 = 30 := by decide +kernel
theorem e_X3_undo_30 : decode cX3_undo 30 = .ok (.if_icmp .ge 29, 3) ∧ 30 + 3 = 33 ∧ ((30 : Nat) : Int) + (29) = ((59 : Nat) : Int) := by decide +kernel
theorem e_X3_undo_33 : decode cX3_undo 33 = .ok (.aload_n 0, 1) ∧ 33 + 1 = 34 := by decide +kernel
theorem e_X3_undo_34 : decode cX3_undo 34 = .ok (.getfield 20, 3) ∧ 34 + 3 = 37 := by decide +kernel
theorem e_X3_undo_37 : decode cX3_undo 37 = .ok (.iload_n 1, 1) ∧ 37 + 1 = 38 := by decide +kernel
theorem e_X3_undo_38 : decode cX3_undo 38 = .ok (.aload_n 0, 1) ∧ 38 + 1 = 39 := by decide +kernel
theorem e_X3_undo_39 : decode cX3_undo 39 = .ok (.getfield 29, 3) ∧ 39 + 3 = 42 := by decide +kernel
theorem e_X3_undo_42 : decode cX3_undo 42 = .ok (.bipush 58, 2) ∧ 42 + 2 = 44 := by decide +kernel
theorem e_X3_undo_44 : decode cX3_undo 44 = .ok (.aload_n 0, 1) ∧ 44 + 1 = 45 := by decide +kernel
theorem e_X3_undo_45 : decode cX3_undo 45 = .ok (.getfield 108, 3) ∧ 45 + 3 = 48 := by decide +kernel
theorem e_X3_undo_48 : decode cX3_undo 48 = .ok (.imul, 1) ∧ 48 + 1 = 49 := by decide +kernel
theorem e_X3_undo_49 : decode cX3_undo 49 = .ok (.iload_n 1, 1) ∧ 49 + 1 = 50 := by decide +kernel
theorem e_X3_undo_50 : decode cX3_undo 50 = .ok (.iadd, 1) ∧ 50 + 1 = 51 := by decide +kernel
theorem e_X3_undo_51 : decode cX3_undo 51 = .ok (.iaload, 1) ∧ 51 + 1 = 52 := by decide +kernel
theorem e_X3_undo_52 : decode cX3_undo 52 = .ok (.iastore, 1) ∧ 52 + 1 = 53 := by decide +kernel
theorem e_X3_undo_53 : decode cX3_undo 53 = .ok (.iinc 1 1, 3) ∧ 53 + 3 = 56 := by decide +kernel
theorem e_X3_undo_56 : decode cX3_undo 56 = .ok (.goto (-29), 3) ∧ 56 + 3 = 59 ∧ ((56 : Nat) : Int) + (-29) = ((27 : Nat) : Int) := by decide +kernel
theorem e_X3_undo_59 : decode cX3_undo 59 = .ok (.aload_n 0, 1) ∧ 59 + 1 = 60 := by decide +kernel
theorem e_X3_undo_60 : decode cX3_undo 60 = .ok (.getfield 108, 3) ∧ 60 + 3 = 63 := by decide +kernel
theorem e_X3_undo_63 : decode cX3_undo 63 = .ok (.ireturn, 1) := by decide +kernel
theorem e_X3_begin_0 : decode cX3_begin 0 = .ok (.iconst 0, 1) ∧ 0 + 1 = 1 := by decide +kernel
theorem e_X3_begin_1 : decode cX3_begin 1 = .ok (.istore_n 1, 1) ∧ 1 + 1 = 2 := by decide +kernel
theorem e_X3_begin_2 : decode cX3_begin 2 = .ok (.iload_n 1, 1) ∧ 2 + 1 = 3 := by decide +kernel
theorem e_X3_begin_3 : decode cX3_begin 3 = .ok (.bipush 58, 2) ∧ 3 + 2 = 5 := by decide +kernel
theorem e_X3_begin_5 : decode cX3_begin 5 = .ok (.if_icmp .ge 21, 3) ∧ 5 + 3 = 8 ∧ ((5 : Nat) : Int) + (21) = ((26 : Nat) : Int) := by decide +kernel
theorem e_X3_begin_8 : decode cX3_begin 8 = .ok (.aload_n 0, 1) ∧ 8 + 1 = 9 := by decide +kernel
theorem e_X3_begin_9 : decode cX3_begin 9 = .ok (.getfield 45, 3) ∧ 9 + 3 = 12 := by decide +kernel
theorem e_X3_begin_12 : decode cX3_begin 12 = .ok (.iload_n 1, 1) ∧ 12 + 1 = 13 := by decide +kernel
theorem e_X3_begin_13 : decode cX3_begin 13 = .ok (.aload_n 0, 1) ∧ 13 + 1 = 14 := by decide +kernel
theorem e_X3_begin_14 : decode cX3_begin 14 = .ok (.getfield 20, 3) ∧ 14 + 3 = 17 := by decide +kernel
theorem e_X3_begin_17 : decode cX3_begin 17 = .ok (.iload_n 1, 1) ∧ 17 + 1 = 18 := by decide +kernel
theorem e_X3_begin_18 : decode cX3_begin 18 = .ok (.iaload, 1) ∧ 18 + 1 = 19 := by decide +kernel
theorem e_X3_begin_19 : decode cX3_begin 19 = .ok (.iastore, 1) ∧ 19 + 1 = 20 := by decide +kernel
theorem e_X3_begin_20 : decode cX3_begin 20 = .ok (.iinc 1 1, 3) ∧ 20 + 3 = 23 := by decide +kernel
theorem e_X3_begin_23 : decode cX3_begin 23 = .ok (.goto (-21), 3) ∧ 23 + 3 = 26 ∧ ((23 : Nat) : Int) + (-21) = ((2 : Nat) : Int) := by decide +kernel
theorem e_X3_begin_26 : decode cX3_begin 26 = .ok (.return_, 1) := by decide +kernel
theorem e_X3_falls_0 : decode cX3_falls 0 = .ok (.aload_n 0, 1) ∧ 0 + 1 = 1 := by decide +kernel
theorem e_X3_falls_1 : decode cX3_falls 1 = .ok (.iconst 0, 1) ∧ 1 + 1 = 2 := by decide +kernel
theorem e_X3_falls_2 : decode cX3_falls 2 = .ok (.putfield 48, 3) ∧ 2 + 3 = 5 := by decide +kernel
theorem e_X3_falls_5 : decode cX3_falls 5 = .ok (.aload_n 0, 1) ∧ 5 + 1 = 6 := by decide +kernel
theorem e_X3_falls_6 : decode cX3_falls 6 = .ok (.iload_n 1, 1) ∧ 6 + 1 = 7 := by decide +kernel
theorem e_X3_falls_7 : decode cX3_falls 7 = .ok (.invokevirtual 139, 3) ∧ 7 + 3 = 10 := by decide +kernel
theorem e_X3_falls_10 : decode cX3_falls 10 = .ok (.istore_n 2, 1) ∧ 10 + 1 = 11 := by decide +kernel
theorem e_X3_falls_11 : decode cX3_falls 11 = .ok (.iload_n 2, 1) ∧ 11 + 1 = 12 := by decide +kernel
theorem e_X3_falls_12 : decode cX3_falls 12 = .ok (.ifCond .eq 5, 3) ∧ 12 + 3 = 15 ∧ ((12 : Nat) : Int) + (5) = ((17 : Nat) : Int) := by decide +kernel
theorem e_X3_falls_15 : decode cX3_falls 15 = .ok (.iload_n 2, 1) ∧ 15 + 1 = 16 := by decide +kernel
theorem e_X3_falls_16 : decode cX3_falls 16 = .ok (.ireturn, 1) := by decide +kernel
theorem e_X3_falls_17 : decode cX3_falls 17 = .ok (.aload_n 0, 1) ∧ 17 + 1 = 18 := by decide +kernel
theorem e_X3_falls_18 : decode cX3_falls 18 = .ok (.invokevirtual 151, 3) ∧ 18 + 3 = 21 := by decide +kernel
theorem e_X3_falls_21 : decode cX3_falls 21 = .ok (.aload_n 0, 1) ∧ 21 + 1 = 22 := by decide +kernel
theorem e_X3_falls_22 : decode cX3_falls 22 = .ok (.aload_n 0, 1) ∧ 22 + 1 = 23 := by decide +kernel
theorem e_X3_falls_23 : decode cX3_falls 23 = .ok (.getfield 45, 3) ∧ 23 + 3 = 26 := by decide +kernel
theorem e_X3_falls_26 : decode cX3_falls 26 = .ok (.iload_n 1, 1) ∧ 26 + 1 = 27 := by decide +kernel
theorem e_X3_falls_27 : decode cX3_falls 27 = .ok (.invokevirtual 145, 3) ∧ 27 + 3 = 30 := by decide +kernel
theorem e_X3_falls_30 : decode cX3_falls 30 = .ok (.ireturn, 1) := by decide +kernel
theorem e_X3_ten_0 : decode cX3_ten 0 = .ok (.iconst 1, 1) ∧ 0 + 1 = 1 := by decide +kernel
theorem e_X3_ten_1 : decode cX3_ten 1 = .ok (.istore_n 1, 1) ∧ 1 + 1 = 2 := by decide +kernel
theorem e_X3_ten_2 : decode cX3_ten 2 = .ok (.iconst 0, 1) ∧ 2 + 1 = 3 := by decide +kernel
theorem e_X3_ten_3 : decode cX3_ten 3 = .ok (.istore_n 2, 1) ∧ 3 + 1 = 4 := by decide +kernel
theorem e_X3_ten_4 : decode cX3_ten 4 = .ok (.iload_n 2, 1) ∧ 4 + 1 = 5 := by decide +kernel
theorem e_X3_ten_5 : decode cX3_ten 5 = .ok (.iload_n 0, 1) ∧ 5 + 1 = 6 := by decide +kernel
theorem e_X3_ten_6 : decode cX3_ten 6 = .ok (.if_icmp .ge 14, 3) ∧ 6 + 3 = 9 ∧ ((6 : Nat) : Int) + (14) = ((20 : Nat) : Int) := by decide +kernel
theorem e_X3_ten_9 : decode cX3_ten 9 = .ok (.iload_n 1, 1) ∧ 9 + 1 = 10 := by decide +kernel
theorem e_X3_ten_10 : decode cX3_ten 10 = .ok (.bipush 10, 2) ∧ 10 + 2 = 12 := by decide +kernel
theorem e_X3_ten_12 : decode cX3_ten 12 = .ok (.imul, 1) ∧ 12 + 1 = 13 := by decide +kernel
theorem e_X3_ten_13 : decode cX3_ten 13 = .ok (.istore_n 1, 1) ∧ 13 + 1 = 14 := by decide +kernel
theorem e_X3_ten_14 : decode cX3_ten 14 = .ok (.iinc 2 1, 3) ∧ 14 + 3 = 17 := by decide +kernel
theorem e_X3_ten_17 : decode cX3_ten 17 = .ok (.goto (-13), 3) ∧ 17 + 3 = 20 ∧ ((17 : Nat) : Int) + (-13) = ((4 : Nat) : Int) := by decide +kernel
theorem e_X3_ten_20 : decode cX3_ten 20 = .ok (.iload_n 1, 1) ∧ 20 + 1 = 21 := by decide +kernel
theorem e_X3_ten_21 : decode cX3_ten 21 = .ok (.ireturn, 1) := by decide +kernel
theorem e_X3_goPsalm_0 : decode cX3_goPsalm 0 = .ok (.aload_n 0, 1) ∧ 0 + 1 = 1 := by decide +kernel
theorem e_X3_goPsalm_1 : decode cX3_goPsalm 1 = .ok (.invokevirtual 151, 3) ∧ 1 + 3 = 4 := by decide +kernel
theorem e_X3_goPsalm_4 : decode cX3_goPsalm 4 = .ok (.iload_n 1, 1) ∧ 4 + 1 = 5 := by decide +kernel
theorem e_X3_goPsalm_5 : decode cX3_goPsalm 5 = .ok (.invokestatic 154, 3) ∧ 5 + 3 = 8 := by decide +kernel
theorem e_X3_goPsalm_8 : decode cX3_goPsalm 8 = .ok (.istore_n 3, 1) ∧ 8 + 1 = 9 := by decide +kernel
theorem e_X3_goPsalm_9 : decode cX3_goPsalm 9 = .ok (.iconst 0, 1) ∧ 9 + 1 = 10 := by decide +kernel
theorem e_X3_goPsalm_10 : decode cX3_goPsalm 10 = .ok (.istore 4, 2) ∧ 10 + 2 = 12 := by decide +kernel
theorem e_X3_goPsalm_12 : decode cX3_goPsalm 12 = .ok (.iload 4, 2) ∧ 12 + 2 = 14 := by decide +kernel
theorem e_X3_goPsalm_14 : decode cX3_goPsalm 14 = .ok (.iload_n 1, 1) ∧ 14 + 1 = 15 := by decide +kernel
theorem e_X3_goPsalm_15 : decode cX3_goPsalm 15 = .ok (.if_icmp .ge 84, 3) ∧ 15 + 3 = 18 ∧ ((15 : Nat) : Int) + (84) = ((99 : Nat) : Int) := by decide +kernel
theorem e_X3_goPsalm_18 : decode cX3_goPsalm 18 = .ok (.iload_n 3, 1) ∧ 18 + 1 = 19 := by decide +kernel
theorem e_X3_goPsalm_19 : decode cX3_goPsalm 19 = .ok (.bipush 10, 2) ∧ 19 + 2 = 21 := by decide +kernel
theorem e_X3_goPsalm_21 : decode cX3_goPsalm 21 = .ok (.idiv, 1) ∧ 21 + 1 = 22 := by decide +kernel
theorem e_X3_goPsalm_22 : decode cX3_goPsalm 22 = .ok (.istore_n 3, 1) ∧ 22 + 1 = 23 := by decide +kernel
theorem e_X3_goPsalm_23 : decode cX3_goPsalm 23 = .ok (.iload_n 2, 1) ∧ 23 + 1 = 24 := by decide +kernel
theorem e_X3_goPsalm_24 : decode cX3_goPsalm 24 = .ok (.iload_n 3, 1) ∧ 24 + 1 = 25 := by decide +kernel
theorem e_X3_goPsalm_25 : decode cX3_goPsalm 25 = .ok (.idiv, 1) ∧ 25 + 1 = 26 := by decide +kernel
theorem e_X3_goPsalm_26 : decode cX3_goPsalm 26 = .ok (.bipush 10, 2) ∧ 26 + 2 = 28 := by decide +kernel
theorem e_X3_goPsalm_28 : decode cX3_goPsalm 28 = .ok (.irem, 1) ∧ 28 + 1 = 29 := by decide +kernel
theorem e_X3_goPsalm_29 : decode cX3_goPsalm 29 = .ok (.istore 5, 2) ∧ 29 + 2 = 31 := by decide +kernel
theorem e_X3_goPsalm_31 : decode cX3_goPsalm 31 = .ok (.aload_n 0, 1) ∧ 31 + 1 = 32 := by decide +kernel
theorem e_X3_goPsalm_32 : decode cX3_goPsalm 32 = .ok (.iload 5, 2) ∧ 32 + 2 = 34 := by decide +kernel
theorem e_X3_goPsalm_34 : decode cX3_goPsalm 34 = .ok (.invokevirtual 124, 3) ∧ 34 + 3 = 37 := by decide +kernel
theorem e_X3_goPsalm_37 : decode cX3_goPsalm 37 = .ok (.ifCond .ne 18, 3) ∧ 37 + 3 = 40 ∧ ((37 : Nat) : Int) + (18) = ((55 : Nat) : Int) := by decide +kernel
theorem e_X3_goPsalm_40 : decode cX3_goPsalm 40 = .ok (.aload_n 0, 1) ∧ 40 + 1 = 41 := by decide +kernel
theorem e_X3_goPsalm_41 : decode cX3_goPsalm 41 = .ok (.getfield 45, 3) ∧ 41 + 3 = 44 := by decide +kernel
theorem e_X3_goPsalm_44 : decode cX3_goPsalm 44 = .ok (.bipush 53, 2) ∧ 44 + 2 = 46 := by decide +kernel
theorem e_X3_goPsalm_46 : decode cX3_goPsalm 46 = .ok (.iaload, 1) ∧ 46 + 1 = 47 := by decide +kernel
theorem e_X3_goPsalm_47 : decode cX3_goPsalm 47 = .ok (.iload 5, 2) ∧ 47 + 2 = 49 := by decide +kernel
theorem e_X3_goPsalm_49 : decode cX3_goPsalm 49 = .ok (.invokestatic 70, 3) ∧ 49 + 3 = 52 := by decide +kernel
theorem e_X3_goPsalm_52 : decode cX3_goPsalm 52 = .ok (.ifCond .eq 6, 3) ∧ 52 + 3 = 55 ∧ ((52 : Nat) : Int) + (6) = ((58 : Nat) : Int) := by decide +kernel
theorem e_X3_goPsalm_55 : decode cX3_goPsalm 55 = .ok (.iload 4, 2) ∧ 55 + 2 = 57 := by decide +kernel
theorem e_X3_goPsalm_57 : decode cX3_goPsalm 57 = .ok (.ireturn, 1) := by decide +kernel
theorem e_X3_goPsalm_58 : decode cX3_goPsalm 58 = .ok (.aload_n 0, 1) ∧ 58 + 1 = 59 := by decide +kernel
theorem e_X3_goPsalm_59 : decode cX3_goPsalm 59 = .ok (.getfield 45, 3) ∧ 59 + 3 = 62 := by decide +kernel
theorem e_X3_goPsalm_62 : decode cX3_goPsalm 62 = .ok (.bipush 53, 2) ∧ 62 + 2 = 64 := by decide +kernel
theorem e_X3_goPsalm_64 : decode cX3_goPsalm 64 = .ok (.iaload, 1) ∧ 64 + 1 = 65 := by decide +kernel
theorem e_X3_goPsalm_65 : decode cX3_goPsalm 65 = .ok (.istore 6, 2) ∧ 65 + 2 = 67 := by decide +kernel
theorem e_X3_goPsalm_67 : decode cX3_goPsalm 67 = .ok (.aload_n 0, 1) ∧ 67 + 1 = 68 := by decide +kernel
theorem e_X3_goPsalm_68 : decode cX3_goPsalm 68 = .ok (.aload_n 0, 1) ∧ 68 + 1 = 69 := by decide +kernel
theorem e_X3_goPsalm_69 : decode cX3_goPsalm 69 = .ok (.getfield 45, 3) ∧ 69 + 3 = 72 := by decide +kernel
theorem e_X3_goPsalm_72 : decode cX3_goPsalm 72 = .ok (.iload 5, 2) ∧ 72 + 2 = 74 := by decide +kernel
theorem e_X3_goPsalm_74 : decode cX3_goPsalm 74 = .ok (.invokevirtual 145, 3) ∧ 74 + 3 = 77 := by decide +kernel
theorem e_X3_goPsalm_77 : decode cX3_goPsalm 77 = .ok (.pop, 1) ∧ 77 + 1 = 78 := by decide +kernel
theorem e_X3_goPsalm_78 : decode cX3_goPsalm 78 = .ok (.aload_n 0, 1) ∧ 78 + 1 = 79 := by decide +kernel
theorem e_X3_goPsalm_79 : decode cX3_goPsalm 79 = .ok (.getfield 45, 3) ∧ 79 + 3 = 82 := by decide +kernel
theorem e_X3_goPsalm_82 : decode cX3_goPsalm 82 = .ok (.bipush 53, 2) ∧ 82 + 2 = 84 := by decide +kernel
theorem e_X3_goPsalm_84 : decode cX3_goPsalm 84 = .ok (.iaload, 1) ∧ 84 + 1 = 85 := by decide +kernel
theorem e_X3_goPsalm_85 : decode cX3_goPsalm 85 = .ok (.iload 6, 2) ∧ 85 + 2 = 87 := by decide +kernel
theorem e_X3_goPsalm_87 : decode cX3_goPsalm 87 = .ok (.if_icmp .eq 6, 3) ∧ 87 + 3 = 90 ∧ ((87 : Nat) : Int) + (6) = ((93 : Nat) : Int) := by decide +kernel
theorem e_X3_goPsalm_90 : decode cX3_goPsalm 90 = .ok (.iload 4, 2) ∧ 90 + 2 = 92 := by decide +kernel
theorem e_X3_goPsalm_92 : decode cX3_goPsalm 92 = .ok (.ireturn, 1) := by decide +kernel
theorem e_X3_goPsalm_93 : decode cX3_goPsalm 93 = .ok (.iinc 4 1, 3) ∧ 93 + 3 = 96 := by decide +kernel
theorem e_X3_goPsalm_96 : decode cX3_goPsalm 96 = .ok (.goto (-84), 3) ∧ 96 + 3 = 99 ∧ ((96 : Nat) : Int) + (-84) = ((12 : Nat) : Int) := by decide +kernel
theorem e_X3_goPsalm_99 : decode cX3_goPsalm 99 = .ok (.bipush (-9), 2) ∧ 99 + 2 = 101 := by decide +kernel
theorem e_X3_goPsalm_101 : decode cX3_goPsalm 101 = .ok (.ireturn, 1) := by decide +kernel
theorem e_X3_psalm_0 : decode cX3_psalm 0 = .ok (.aload_n 0, 1) ∧ 0 + 1 = 1 := by decide +kernel
theorem e_X3_psalm_1 : decode cX3_psalm 1 = .ok (.iconst 0, 1) ∧ 1 + 1 = 2 := by decide +kernel
theorem e_X3_psalm_2 : decode cX3_psalm 2 = .ok (.putfield 48, 3) ∧ 2 + 3 = 5 := by decide +kernel
theorem e_X3_psalm_5 : decode cX3_psalm 5 = .ok (.iload_n 1, 1) ∧ 5 + 1 = 6 := by decide +kernel
theorem e_X3_psalm_6 : decode cX3_psalm 6 = .ok (.i2l, 1) ∧ 6 + 1 = 7 := by decide +kernel
theorem e_X3_psalm_7 : decode cX3_psalm 7 = .ok (.lconst 1, 1) ∧ 7 + 1 = 8 := by decide +kernel
theorem e_X3_psalm_8 : decode cX3_psalm 8 = .ok (.ldc2_w 60, 3) ∧ 8 + 3 = 11 := by decide +kernel
theorem e_X3_psalm_11 : decode cX3_psalm 11 = .ok (.invokestatic 54, 3) ∧ 11 + 3 = 14 := by decide +kernel
theorem e_X3_psalm_14 : decode cX3_psalm 14 = .ok (.ifCond .eq 28, 3) ∧ 14 + 3 = 17 ∧ ((14 : Nat) : Int) + (28) = ((42 : Nat) : Int) := by decide +kernel
theorem e_X3_psalm_17 : decode cX3_psalm 17 = .ok (.iload_n 2, 1) ∧ 17 + 1 = 18 := by decide +kernel
theorem e_X3_psalm_18 : decode cX3_psalm 18 = .ok (.i2l, 1) ∧ 18 + 1 = 19 := by decide +kernel
theorem e_X3_psalm_19 : decode cX3_psalm 19 = .ok (.lconst 0, 1) ∧ 19 + 1 = 20 := by decide +kernel
theorem e_X3_psalm_20 : decode cX3_psalm 20 = .ok (.iload_n 1, 1) ∧ 20 + 1 = 21 := by decide +kernel
theorem e_X3_psalm_21 : decode cX3_psalm 21 = .ok (.invokestatic 154, 3) ∧ 21 + 3 = 24 := by decide +kernel
theorem e_X3_psalm_24 : decode cX3_psalm 24 = .ok (.iconst 1, 1) ∧ 24 + 1 = 25 := by decide +kernel
theorem e_X3_psalm_25 : decode cX3_psalm 25 = .ok (.isub, 1) ∧ 25 + 1 = 26 := by decide +kernel
theorem e_X3_psalm_26 : decode cX3_psalm 26 = .ok (.i2l, 1) ∧ 26 + 1 = 27 := by decide +kernel
theorem e_X3_psalm_27 : decode cX3_psalm 27 = .ok (.invokestatic 54, 3) ∧ 27 + 3 = 30 := by decide +kernel
theorem e_X3_psalm_30 : decode cX3_psalm 30 = .ok (.ifCond .eq 12, 3) ∧ 30 + 3 = 33 ∧ ((30 : Nat) : Int) + (12) = ((42 : Nat) : Int) := by decide +kernel
theorem e_X3_psalm_33 : decode cX3_psalm 33 = .ok (.aload_n 0, 1) ∧ 33 + 1 = 34 := by decide +kernel
theorem e_X3_psalm_34 : decode cX3_psalm 34 = .ok (.iload_n 1, 1) ∧ 34 + 1 = 35 := by decide +kernel
theorem e_X3_psalm_35 : decode cX3_psalm 35 = .ok (.iload_n 2, 1) ∧ 35 + 1 = 36 := by decide +kernel
theorem e_X3_psalm_36 : decode cX3_psalm 36 = .ok (.invokevirtual 157, 3) ∧ 36 + 3 = 39 := by decide +kernel
theorem e_X3_psalm_39 : decode cX3_psalm 39 = .ok (.goto 5, 3) ∧ 39 + 3 = 42 ∧ ((39 : Nat) : Int) + (5) = ((44 : Nat) : Int) := by decide +kernel
theorem e_X3_psalm_42 : decode cX3_psalm 42 = .ok (.bipush (-2), 2) ∧ 42 + 2 = 44 := by decide +kernel
theorem e_X3_psalm_44 : decode cX3_psalm 44 = .ok (.ireturn, 1) := by decide +kernel
theorem e_X3_findBest_0 : decode cX3_findBest 0 = .ok (.bipush (-9), 2) ∧ 0 + 2 = 2 := by decide +kernel
theorem e_X3_findBest_2 : decode cX3_findBest 2 = .ok (.istore_n 2, 1) ∧ 2 + 1 = 3 := by decide +kernel
theorem e_X3_findBest_3 : decode cX3_findBest 3 = .ok (.iconst 0, 1) ∧ 3 + 1 = 4 := by decide +kernel
theorem e_X3_findBest_4 : decode cX3_findBest 4 = .ok (.istore_n 3, 1) ∧ 4 + 1 = 5 := by decide +kernel
theorem e_X3_findBest_5 : decode cX3_findBest 5 = .ok (.iload_n 3, 1) ∧ 5 + 1 = 6 := by decide +kernel
theorem e_X3_findBest_6 : decode cX3_findBest 6 = .ok (.iload_n 1, 1) ∧ 6 + 1 = 7 := by decide +kernel
theorem e_X3_findBest_7 : decode cX3_findBest 7 = .ok (.invokestatic 154, 3) ∧ 7 + 3 = 10 := by decide +kernel
theorem e_X3_findBest_10 : decode cX3_findBest 10 = .ok (.if_icmp .ge 60, 3) ∧ 10 + 3 = 13 ∧ ((10 : Nat) : Int) + (60) = ((70 : Nat) : Int) := by decide +kernel
theorem e_X3_findBest_13 : decode cX3_findBest 13 = .ok (.aload_n 0, 1) ∧ 13 + 1 = 14 := by decide +kernel
theorem e_X3_findBest_14 : decode cX3_findBest 14 = .ok (.iload_n 1, 1) ∧ 14 + 1 = 15 := by decide +kernel
theorem e_X3_findBest_15 : decode cX3_findBest 15 = .ok (.iload_n 3, 1) ∧ 15 + 1 = 16 := by decide +kernel
theorem e_X3_findBest_16 : decode cX3_findBest 16 = .ok (.invokevirtual 157, 3) ∧ 16 + 3 = 19 := by decide +kernel
theorem e_X3_findBest_19 : decode cX3_findBest 19 = .ok (.bipush (-9), 2) ∧ 19 + 2 = 21 := by decide +kernel
theorem e_X3_findBest_21 : decode cX3_findBest 21 = .ok (.if_icmp .ne 43, 3) ∧ 21 + 3 = 24 ∧ ((21 : Nat) : Int) + (43) = ((64 : Nat) : Int) := by decide +kernel
theorem e_X3_findBest_24 : decode cX3_findBest 24 = .ok (.aload_n 0, 1) ∧ 24 + 1 = 25 := by decide +kernel
theorem e_X3_findBest_25 : decode cX3_findBest 25 = .ok (.getfield 45, 3) ∧ 25 + 3 = 28 := by decide +kernel
theorem e_X3_findBest_28 : decode cX3_findBest 28 = .ok (.bipush 54, 2) ∧ 28 + 2 = 30 := by decide +kernel
theorem e_X3_findBest_30 : decode cX3_findBest 30 = .ok (.iaload, 1) ∧ 30 + 1 = 31 := by decide +kernel
theorem e_X3_findBest_31 : decode cX3_findBest 31 = .ok (.aload_n 0, 1) ∧ 31 + 1 = 32 := by decide +kernel
theorem e_X3_findBest_32 : decode cX3_findBest 32 = .ok (.getfield 20, 3) ∧ 32 + 3 = 35 := by decide +kernel
theorem e_X3_findBest_35 : decode cX3_findBest 35 = .ok (.bipush 54, 2) ∧ 35 + 2 = 37 := by decide +kernel
theorem e_X3_findBest_37 : decode cX3_findBest 37 = .ok (.iaload, 1) ∧ 37 + 1 = 38 := by decide +kernel
theorem e_X3_findBest_38 : decode cX3_findBest 38 = .ok (.isub, 1) ∧ 38 + 1 = 39 := by decide +kernel
theorem e_X3_findBest_39 : decode cX3_findBest 39 = .ok (.iload_n 2, 1) ∧ 39 + 1 = 40 := by decide +kernel
theorem e_X3_findBest_40 : decode cX3_findBest 40 = .ok (.if_icmp .le 24, 3) ∧ 40 + 3 = 43 ∧ ((40 : Nat) : Int) + (24) = ((64 : Nat) : Int) := by decide +kernel
theorem e_X3_findBest_43 : decode cX3_findBest 43 = .ok (.aload_n 0, 1) ∧ 43 + 1 = 44 := by decide +kernel
theorem e_X3_findBest_44 : decode cX3_findBest 44 = .ok (.getfield 45, 3) ∧ 44 + 3 = 47 := by decide +kernel
theorem e_X3_findBest_47 : decode cX3_findBest 47 = .ok (.bipush 54, 2) ∧ 47 + 2 = 49 := by decide +kernel
theorem e_X3_findBest_49 : decode cX3_findBest 49 = .ok (.iaload, 1) ∧ 49 + 1 = 50 := by decide +kernel
theorem e_X3_findBest_50 : decode cX3_findBest 50 = .ok (.aload_n 0, 1) ∧ 50 + 1 = 51 := by decide +kernel
theorem e_X3_findBest_51 : decode cX3_findBest 51 = .ok (.getfield 20, 3) ∧ 51 + 3 = 54 := by decide +kernel
theorem e_X3_findBest_54 : decode cX3_findBest 54 = .ok (.bipush 54, 2) ∧ 54 + 2 = 56 := by decide +kernel
theorem e_X3_findBest_56 : decode cX3_findBest 56 = .ok (.iaload, 1) ∧ 56 + 1 = 57 := by decide +kernel
theorem e_X3_findBest_57 : decode cX3_findBest 57 = .ok (.isub, 1) ∧ 57 + 1 = 58 := by decide +kernel
theorem e_X3_findBest_58 : decode cX3_findBest 58 = .ok (.istore_n 2, 1) ∧ 58 + 1 = 59 := by decide +kernel
theorem e_X3_findBest_59 : decode cX3_findBest 59 = .ok (.aload_n 0, 1) ∧ 59 + 1 = 60 := by decide +kernel
theorem e_X3_findBest_60 : decode cX3_findBest 60 = .ok (.iload_n 3, 1) ∧ 60 + 1 = 61 := by decide +kernel
theorem e_X3_findBest_61 : decode cX3_findBest 61 = .ok (.putfield 160, 3) ∧ 61 + 3 = 64 := by decide +kernel
theorem e_X3_findBest_64 : decode cX3_findBest 64 = .ok (.iinc 3 1, 3) ∧ 64 + 3 = 67 := by decide +kernel
theorem e_X3_findBest_67 : decode cX3_findBest 67 = .ok (.goto (-62), 3) ∧ 67 + 3 = 70 ∧ ((67 : Nat) : Int) + (-62) = ((5 : Nat) : Int) := by decide +kernel
theorem e_X3_findBest_70 : decode cX3_findBest 70 = .ok (.iload_n 2, 1) ∧ 70 + 1 = 71 := by decide +kernel
theorem e_X3_findBest_71 : decode cX3_findBest 71 = .ok (.ireturn, 1) := by decide +kernel
theorem e_X3_best_0 : decode cX3_best 0 = .ok (.aload_n 0, 1) ∧ 0 + 1 = 1 := by decide +kernel
theorem e_X3_best_1 : decode cX3_best 1 = .ok (.iconst 0, 1) ∧ 1 + 1 = 2 := by decide +kernel
theorem e_X3_best_2 : decode cX3_best 2 = .ok (.putfield 48, 3) ∧ 2 + 3 = 5 := by decide +kernel
theorem e_X3_best_5 : decode cX3_best 5 = .ok (.iload_n 1, 1) ∧ 5 + 1 = 6 := by decide +kernel
theorem e_X3_best_6 : decode cX3_best 6 = .ok (.i2l, 1) ∧ 6 + 1 = 7 := by decide +kernel
theorem e_X3_best_7 : decode cX3_best 7 = .ok (.lconst 1, 1) ∧ 7 + 1 = 8 := by decide +kernel
theorem e_X3_best_8 : decode cX3_best 8 = .ok (.ldc2_w 163, 3) ∧ 8 + 3 = 11 := by decide +kernel
theorem e_X3_best_11 : decode cX3_best 11 = .ok (.invokestatic 54, 3) ∧ 11 + 3 = 14 := by decide +kernel
theorem e_X3_best_14 : decode cX3_best 14 = .ok (.ifCond .eq 11, 3) ∧ 14 + 3 = 17 ∧ ((14 : Nat) : Int) + (11) = ((25 : Nat) : Int) := by decide +kernel
theorem e_X3_best_17 : decode cX3_best 17 = .ok (.aload_n 0, 1) ∧ 17 + 1 = 18 := by decide +kernel
theorem e_X3_best_18 : decode cX3_best 18 = .ok (.iload_n 1, 1) ∧ 18 + 1 = 19 := by decide +kernel
theorem e_X3_best_19 : decode cX3_best 19 = .ok (.invokevirtual 165, 3) ∧ 19 + 3 = 22 := by decide +kernel
theorem e_X3_best_22 : decode cX3_best 22 = .ok (.goto 5, 3) ∧ 22 + 3 = 25 ∧ ((22 : Nat) : Int) + (5) = ((27 : Nat) : Int) := by decide +kernel
theorem e_X3_best_25 : decode cX3_best 25 = .ok (.bipush (-2), 2) ∧ 25 + 2 = 27 := by decide +kernel
theorem e_X3_best_27 : decode cX3_best 27 = .ok (.ireturn, 1) := by decide +kernel
theorem e_X3_bestAt_0 : decode cX3_bestAt 0 = .ok (.aload_n 0, 1) ∧ 0 + 1 = 1 := by decide +kernel
theorem e_X3_bestAt_1 : decode cX3_bestAt 1 = .ok (.iconst 0, 1) ∧ 1 + 1 = 2 := by decide +kernel
theorem e_X3_bestAt_2 : decode cX3_bestAt 2 = .ok (.putfield 48, 3) ∧ 2 + 3 = 5 := by decide +kernel
theorem e_X3_bestAt_5 : decode cX3_bestAt 5 = .ok (.iload_n 1, 1) ∧ 5 + 1 = 6 := by decide +kernel
theorem e_X3_bestAt_6 : decode cX3_bestAt 6 = .ok (.i2l, 1) ∧ 6 + 1 = 7 := by decide +kernel
theorem e_X3_bestAt_7 : decode cX3_bestAt 7 = .ok (.lconst 1, 1) ∧ 7 + 1 = 8 := by decide +kernel
theorem e_X3_bestAt_8 : decode cX3_bestAt 8 = .ok (.ldc2_w 163, 3) ∧ 8 + 3 = 11 := by decide +kernel
theorem e_X3_bestAt_11 : decode cX3_bestAt 11 = .ok (.invokestatic 54, 3) ∧ 11 + 3 = 14 := by decide +kernel
theorem e_X3_bestAt_14 : decode cX3_bestAt 14 = .ok (.ifCond .ne 6, 3) ∧ 14 + 3 = 17 ∧ ((14 : Nat) : Int) + (6) = ((20 : Nat) : Int) := by decide +kernel
theorem e_X3_bestAt_17 : decode cX3_bestAt 17 = .ok (.bipush (-2), 2) ∧ 17 + 2 = 19 := by decide +kernel
theorem e_X3_bestAt_19 : decode cX3_bestAt 19 = .ok (.ireturn, 1) := by decide +kernel
theorem e_X3_bestAt_20 : decode cX3_bestAt 20 = .ok (.aload_n 0, 1) ∧ 20 + 1 = 21 := by decide +kernel
theorem e_X3_bestAt_21 : decode cX3_bestAt 21 = .ok (.iload_n 1, 1) ∧ 21 + 1 = 22 := by decide +kernel
theorem e_X3_bestAt_22 : decode cX3_bestAt 22 = .ok (.invokevirtual 165, 3) ∧ 22 + 3 = 25 := by decide +kernel
theorem e_X3_bestAt_25 : decode cX3_bestAt 25 = .ok (.bipush (-9), 2) ∧ 25 + 2 = 27 := by decide +kernel
theorem e_X3_bestAt_27 : decode cX3_bestAt 27 = .ok (.if_icmp .eq 35, 3) ∧ 27 + 3 = 30 ∧ ((27 : Nat) : Int) + (35) = ((62 : Nat) : Int) := by decide +kernel
theorem e_X3_bestAt_30 : decode cX3_bestAt 30 = .ok (.iload_n 2, 1) ∧ 30 + 1 = 31 := by decide +kernel
theorem e_X3_bestAt_31 : decode cX3_bestAt 31 = .ok (.i2l, 1) ∧ 31 + 1 = 32 := by decide +kernel
theorem e_X3_bestAt_32 : decode cX3_bestAt 32 = .ok (.lconst 0, 1) ∧ 32 + 1 = 33 := by decide +kernel
theorem e_X3_bestAt_33 : decode cX3_bestAt 33 = .ok (.iload_n 1, 1) ∧ 33 + 1 = 34 := by decide +kernel
theorem e_X3_bestAt_34 : decode cX3_bestAt 34 = .ok (.iconst 1, 1) ∧ 34 + 1 = 35 := by decide +kernel
theorem e_X3_bestAt_35 : decode cX3_bestAt 35 = .ok (.isub, 1) ∧ 35 + 1 = 36 := by decide +kernel
theorem e_X3_bestAt_36 : decode cX3_bestAt 36 = .ok (.i2l, 1) ∧ 36 + 1 = 37 := by decide +kernel
theorem e_X3_bestAt_37 : decode cX3_bestAt 37 = .ok (.invokestatic 54, 3) ∧ 37 + 3 = 40 := by decide +kernel
theorem e_X3_bestAt_40 : decode cX3_bestAt 40 = .ok (.ifCond .eq 22, 3) ∧ 40 + 3 = 43 ∧ ((40 : Nat) : Int) + (22) = ((62 : Nat) : Int) := by decide +kernel
theorem e_X3_bestAt_43 : decode cX3_bestAt 43 = .ok (.aload_n 0, 1) ∧ 43 + 1 = 44 := by decide +kernel
theorem e_X3_bestAt_44 : decode cX3_bestAt 44 = .ok (.getfield 160, 3) ∧ 44 + 3 = 47 := by decide +kernel
theorem e_X3_bestAt_47 : decode cX3_bestAt 47 = .ok (.iload_n 1, 1) ∧ 47 + 1 = 48 := by decide +kernel
theorem e_X3_bestAt_48 : decode cX3_bestAt 48 = .ok (.iconst 1, 1) ∧ 48 + 1 = 49 := by decide +kernel
theorem e_X3_bestAt_49 : decode cX3_bestAt 49 = .ok (.isub, 1) ∧ 49 + 1 = 50 := by decide +kernel
theorem e_X3_bestAt_50 : decode cX3_bestAt 50 = .ok (.iload_n 2, 1) ∧ 50 + 1 = 51 := by decide +kernel
theorem e_X3_bestAt_51 : decode cX3_bestAt 51 = .ok (.isub, 1) ∧ 51 + 1 = 52 := by decide +kernel
theorem e_X3_bestAt_52 : decode cX3_bestAt 52 = .ok (.invokestatic 154, 3) ∧ 52 + 3 = 55 := by decide +kernel
theorem e_X3_bestAt_55 : decode cX3_bestAt 55 = .ok (.idiv, 1) ∧ 55 + 1 = 56 := by decide +kernel
theorem e_X3_bestAt_56 : decode cX3_bestAt 56 = .ok (.bipush 10, 2) ∧ 56 + 2 = 58 := by decide +kernel
theorem e_X3_bestAt_58 : decode cX3_bestAt 58 = .ok (.irem, 1) ∧ 58 + 1 = 59 := by decide +kernel
theorem e_X3_bestAt_59 : decode cX3_bestAt 59 = .ok (.goto 5, 3) ∧ 59 + 3 = 62 ∧ ((59 : Nat) : Int) + (5) = ((64 : Nat) : Int) := by decide +kernel
theorem e_X3_bestAt_62 : decode cX3_bestAt 62 = .ok (.bipush (-9), 2) ∧ 62 + 2 = 64 := by decide +kernel
theorem e_X3_bestAt_64 : decode cX3_bestAt 64 = .ok (.ireturn, 1) := by decide +kernel
theorem e_X3_oaths_0 : decode cX3_oaths 0 = .ok (.aload_n 0, 1) ∧ 0 + 1 = 1 := by decide +kernel
theorem e_X3_oaths_1 : decode cX3_oaths 1 = .ok (.iconst 0, 1) ∧ 1 + 1 = 2 := by decide +kernel
theorem e_X3_oaths_2 : decode cX3_oaths 2 = .ok (.putfield 48, 3) ∧ 2 + 3 = 5 := by decide +kernel
theorem e_X3_oaths_5 : decode cX3_oaths 5 = .ok (.aload_n 0, 1) ∧ 5 + 1 = 6 := by decide +kernel
theorem e_X3_oaths_6 : decode cX3_oaths 6 = .ok (.invokevirtual 151, 3) ∧ 6 + 3 = 9 := by decide +kernel
theorem e_X3_oaths_9 : decode cX3_oaths 9 = .ok (.iconst 0, 1) ∧ 9 + 1 = 10 := by decide +kernel
theorem e_X3_oaths_10 : decode cX3_oaths 10 = .ok (.istore_n 1, 1) ∧ 10 + 1 = 11 := by decide +kernel
theorem e_X3_oaths_11 : decode cX3_oaths 11 = .ok (.iload_n 1, 1) ∧ 11 + 1 = 12 := by decide +kernel
theorem e_X3_oaths_12 : decode cX3_oaths 12 = .ok (.aload_n 0, 1) ∧ 12 + 1 = 13 := by decide +kernel
theorem e_X3_oaths_13 : decode cX3_oaths 13 = .ok (.getfield 51, 3) ∧ 13 + 3 = 16 := by decide +kernel
theorem e_X3_oaths_16 : decode cX3_oaths 16 = .ok (.if_icmp .ge 91, 3) ∧ 16 + 3 = 19 ∧ ((16 : Nat) : Int) + (91) = ((107 : Nat) : Int) := by decide +kernel
theorem e_X3_oaths_19 : decode cX3_oaths 19 = .ok (.aload_n 0, 1) ∧ 19 + 1 = 20 := by decide +kernel
theorem e_X3_oaths_20 : decode cX3_oaths 20 = .ok (.getfield 45, 3) ∧ 20 + 3 = 23 := by decide +kernel
theorem e_X3_oaths_23 : decode cX3_oaths 23 = .ok (.bipush 53, 2) ∧ 23 + 2 = 25 := by decide +kernel
theorem e_X3_oaths_25 : decode cX3_oaths 25 = .ok (.iaload, 1) ∧ 25 + 1 = 26 := by decide +kernel
theorem e_X3_oaths_26 : decode cX3_oaths 26 = .ok (.iload_n 1, 1) ∧ 26 + 1 = 27 := by decide +kernel
theorem e_X3_oaths_27 : decode cX3_oaths 27 = .ok (.invokestatic 70, 3) ∧ 27 + 3 = 30 := by decide +kernel
theorem e_X3_oaths_30 : decode cX3_oaths 30 = .ok (.ifCond .ne 71, 3) ∧ 30 + 3 = 33 ∧ ((30 : Nat) : Int) + (71) = ((101 : Nat) : Int) := by decide +kernel
theorem e_X3_oaths_33 : decode cX3_oaths 33 = .ok (.aload_n 0, 1) ∧ 33 + 1 = 34 := by decide +kernel
theorem e_X3_oaths_34 : decode cX3_oaths 34 = .ok (.aload_n 0, 1) ∧ 34 + 1 = 35 := by decide +kernel
theorem e_X3_oaths_35 : decode cX3_oaths 35 = .ok (.getfield 45, 3) ∧ 35 + 3 = 38 := by decide +kernel
theorem e_X3_oaths_38 : decode cX3_oaths 38 = .ok (.iload_n 1, 1) ∧ 38 + 1 = 39 := by decide +kernel
theorem e_X3_oaths_39 : decode cX3_oaths 39 = .ok (.invokevirtual 127, 3) ∧ 39 + 3 = 42 := by decide +kernel
theorem e_X3_oaths_42 : decode cX3_oaths 42 = .ok (.istore_n 2, 1) ∧ 42 + 1 = 43 := by decide +kernel
theorem e_X3_oaths_43 : decode cX3_oaths 43 = .ok (.aload_n 0, 1) ∧ 43 + 1 = 44 := by decide +kernel
theorem e_X3_oaths_44 : decode cX3_oaths 44 = .ok (.getfield 45, 3) ∧ 44 + 3 = 47 := by decide +kernel
theorem e_X3_oaths_47 : decode cX3_oaths 47 = .ok (.aload_n 0, 1) ∧ 47 + 1 = 48 := by decide +kernel
theorem e_X3_oaths_48 : decode cX3_oaths 48 = .ok (.getfield 45, 3) ∧ 48 + 3 = 51 := by decide +kernel
theorem e_X3_oaths_51 : decode cX3_oaths 51 = .ok (.bipush 49, 2) ∧ 51 + 2 = 53 := by decide +kernel
theorem e_X3_oaths_53 : decode cX3_oaths 53 = .ok (.iload_n 1, 1) ∧ 53 + 1 = 54 := by decide +kernel
theorem e_X3_oaths_54 : decode cX3_oaths 54 = .ok (.iadd, 1) ∧ 54 + 1 = 55 := by decide +kernel
theorem e_X3_oaths_55 : decode cX3_oaths 55 = .ok (.iaload, 1) ∧ 55 + 1 = 56 := by decide +kernel
theorem e_X3_oaths_56 : decode cX3_oaths 56 = .ok (.iconst 2, 1) ∧ 56 + 1 = 57 := by decide +kernel
theorem e_X3_oaths_57 : decode cX3_oaths 57 = .ok (.iload_n 2, 1) ∧ 57 + 1 = 58 := by decide +kernel
theorem e_X3_oaths_58 : decode cX3_oaths 58 = .ok (.imul, 1) ∧ 58 + 1 = 59 := by decide +kernel
theorem e_X3_oaths_59 : decode cX3_oaths 59 = .ok (.invokestatic 131, 3) ∧ 59 + 3 = 62 := by decide +kernel
theorem e_X3_oaths_62 : decode cX3_oaths 62 = .ok (.iconst 0, 1) ∧ 62 + 1 = 63 := by decide +kernel
theorem e_X3_oaths_63 : decode cX3_oaths 63 = .ok (.istore_n 3, 1) ∧ 63 + 1 = 64 := by decide +kernel
theorem e_X3_oaths_64 : decode cX3_oaths 64 = .ok (.iload_n 3, 1) ∧ 64 + 1 = 65 := by decide +kernel
theorem e_X3_oaths_65 : decode cX3_oaths 65 = .ok (.bipush 12, 2) ∧ 65 + 2 = 67 := by decide +kernel
theorem e_X3_oaths_67 : decode cX3_oaths 67 = .ok (.if_icmp .ge 34, 3) ∧ 67 + 3 = 70 ∧ ((67 : Nat) : Int) + (34) = ((101 : Nat) : Int) := by decide +kernel
theorem e_X3_oaths_70 : decode cX3_oaths 70 = .ok (.aload_n 0, 1) ∧ 70 + 1 = 71 := by decide +kernel
theorem e_X3_oaths_71 : decode cX3_oaths 71 = .ok (.getfield 45, 3) ∧ 71 + 3 = 74 := by decide +kernel
theorem e_X3_oaths_74 : decode cX3_oaths 74 = .ok (.bipush 49, 2) ∧ 74 + 2 = 76 := by decide +kernel
theorem e_X3_oaths_76 : decode cX3_oaths 76 = .ok (.iload_n 1, 1) ∧ 76 + 1 = 77 := by decide +kernel
theorem e_X3_oaths_77 : decode cX3_oaths 77 = .ok (.iadd, 1) ∧ 77 + 1 = 78 := by decide +kernel
theorem e_X3_oaths_78 : decode cX3_oaths 78 = .ok (.iaload, 1) ∧ 78 + 1 = 79 := by decide +kernel
theorem e_X3_oaths_79 : decode cX3_oaths 79 = .ok (.iload_n 3, 1) ∧ 79 + 1 = 80 := by decide +kernel
theorem e_X3_oaths_80 : decode cX3_oaths 80 = .ok (.invokestatic 121, 3) ∧ 80 + 3 = 83 := by decide +kernel
theorem e_X3_oaths_83 : decode cX3_oaths 83 = .ok (.ifCond .eq 12, 3) ∧ 83 + 3 = 86 ∧ ((83 : Nat) : Int) + (12) = ((95 : Nat) : Int) := by decide +kernel
theorem e_X3_oaths_86 : decode cX3_oaths 86 = .ok (.aload_n 0, 1) ∧ 86 + 1 = 87 := by decide +kernel
theorem e_X3_oaths_87 : decode cX3_oaths 87 = .ok (.getfield 45, 3) ∧ 87 + 3 = 90 := by decide +kernel
theorem e_X3_oaths_90 : decode cX3_oaths 90 = .ok (.iload_n 3, 1) ∧ 90 + 1 = 91 := by decide +kernel
theorem e_X3_oaths_91 : decode cX3_oaths 91 = .ok (.iload_n 2, 1) ∧ 91 + 1 = 92 := by decide +kernel
theorem e_X3_oaths_92 : decode cX3_oaths 92 = .ok (.invokestatic 131, 3) ∧ 92 + 3 = 95 := by decide +kernel
theorem e_X3_oaths_95 : decode cX3_oaths 95 = .ok (.iinc 3 1, 3) ∧ 95 + 3 = 98 := by decide +kernel
theorem e_X3_oaths_98 : decode cX3_oaths 98 = .ok (.goto (-34), 3) ∧ 98 + 3 = 101 ∧ ((98 : Nat) : Int) + (-34) = ((64 : Nat) : Int) := by decide +kernel
theorem e_X3_oaths_101 : decode cX3_oaths 101 = .ok (.iinc 1 1, 3) ∧ 101 + 3 = 104 := by decide +kernel
theorem e_X3_oaths_104 : decode cX3_oaths 104 = .ok (.goto (-93), 3) ∧ 104 + 3 = 107 ∧ ((104 : Nat) : Int) + (-93) = ((11 : Nat) : Int) := by decide +kernel
theorem e_X3_oaths_107 : decode cX3_oaths 107 = .ok (.iconst 1, 1) ∧ 107 + 1 = 108 := by decide +kernel
theorem e_X3_oaths_108 : decode cX3_oaths 108 = .ok (.aload_n 0, 1) ∧ 108 + 1 = 109 := by decide +kernel
theorem e_X3_oaths_109 : decode cX3_oaths 109 = .ok (.getfield 51, 3) ∧ 109 + 3 = 112 := by decide +kernel
theorem e_X3_oaths_112 : decode cX3_oaths 112 = .ok (.ishl, 1) ∧ 112 + 1 = 113 := by decide +kernel
theorem e_X3_oaths_113 : decode cX3_oaths 113 = .ok (.iconst 1, 1) ∧ 113 + 1 = 114 := by decide +kernel
theorem e_X3_oaths_114 : decode cX3_oaths 114 = .ok (.isub, 1) ∧ 114 + 1 = 115 := by decide +kernel
theorem e_X3_oaths_115 : decode cX3_oaths 115 = .ok (.aload_n 0, 1) ∧ 115 + 1 = 116 := by decide +kernel
theorem e_X3_oaths_116 : decode cX3_oaths 116 = .ok (.getfield 45, 3) ∧ 116 + 3 = 119 := by decide +kernel
theorem e_X3_oaths_119 : decode cX3_oaths 119 = .ok (.bipush 53, 2) ∧ 119 + 2 = 121 := by decide +kernel
theorem e_X3_oaths_121 : decode cX3_oaths 121 = .ok (.iaload, 1) ∧ 121 + 1 = 122 := by decide +kernel
theorem e_X3_oaths_122 : decode cX3_oaths 122 = .ok (.iconst (-1), 1) ∧ 122 + 1 = 123 := by decide +kernel
theorem e_X3_oaths_123 : decode cX3_oaths 123 = .ok (.ixor, 1) ∧ 123 + 1 = 124 := by decide +kernel
theorem e_X3_oaths_124 : decode cX3_oaths 124 = .ok (.iand, 1) ∧ 124 + 1 = 125 := by decide +kernel
theorem e_X3_oaths_125 : decode cX3_oaths 125 = .ok (.istore_n 1, 1) ∧ 125 + 1 = 126 := by decide +kernel
theorem e_X3_oaths_126 : decode cX3_oaths 126 = .ok (.iconst 0, 1) ∧ 126 + 1 = 127 := by decide +kernel
theorem e_X3_oaths_127 : decode cX3_oaths 127 = .ok (.istore_n 2, 1) ∧ 127 + 1 = 128 := by decide +kernel
theorem e_X3_oaths_128 : decode cX3_oaths 128 = .ok (.iconst 0, 1) ∧ 128 + 1 = 129 := by decide +kernel
theorem e_X3_oaths_129 : decode cX3_oaths 129 = .ok (.istore_n 3, 1) ∧ 129 + 1 = 130 := by decide +kernel
theorem e_X3_oaths_130 : decode cX3_oaths 130 = .ok (.iload_n 3, 1) ∧ 130 + 1 = 131 := by decide +kernel
theorem e_X3_oaths_131 : decode cX3_oaths 131 = .ok (.bipush 12, 2) ∧ 131 + 2 = 133 := by decide +kernel
theorem e_X3_oaths_133 : decode cX3_oaths 133 = .ok (.if_icmp .ge 67, 3) ∧ 133 + 3 = 136 ∧ ((133 : Nat) : Int) + (67) = ((200 : Nat) : Int) := by decide +kernel
theorem e_X3_oaths_136 : decode cX3_oaths 136 = .ok (.aload_n 0, 1) ∧ 136 + 1 = 137 := by decide +kernel
theorem e_X3_oaths_137 : decode cX3_oaths 137 = .ok (.getfield 45, 3) ∧ 137 + 3 = 140 := by decide +kernel
theorem e_X3_oaths_140 : decode cX3_oaths 140 = .ok (.bipush 12, 2) ∧ 140 + 2 = 142 := by decide +kernel
theorem e_X3_oaths_142 : decode cX3_oaths 142 = .ok (.iload_n 3, 1) ∧ 142 + 1 = 143 := by decide +kernel
theorem e_X3_oaths_143 : decode cX3_oaths 143 = .ok (.iadd, 1) ∧ 143 + 1 = 144 := by decide +kernel
theorem e_X3_oaths_144 : decode cX3_oaths 144 = .ok (.iaload, 1) ∧ 144 + 1 = 145 := by decide +kernel
theorem e_X3_oaths_145 : decode cX3_oaths 145 = .ok (.aload_n 0, 1) ∧ 145 + 1 = 146 := by decide +kernel
theorem e_X3_oaths_146 : decode cX3_oaths 146 = .ok (.getfield 13, 3) ∧ 146 + 3 = 149 := by decide +kernel
theorem e_X3_oaths_149 : decode cX3_oaths 149 = .ok (.isub, 1) ∧ 149 + 1 = 150 := by decide +kernel
theorem e_X3_oaths_150 : decode cX3_oaths 150 = .ok (.aload_n 0, 1) ∧ 150 + 1 = 151 := by decide +kernel
theorem e_X3_oaths_151 : decode cX3_oaths 151 = .ok (.getfield 45, 3) ∧ 151 + 3 = 154 := by decide +kernel
theorem e_X3_oaths_154 : decode cX3_oaths 154 = .ok (.bipush 24, 2) ∧ 154 + 2 = 156 := by decide +kernel
theorem e_X3_oaths_156 : decode cX3_oaths 156 = .ok (.iload_n 3, 1) ∧ 156 + 1 = 157 := by decide +kernel
theorem e_X3_oaths_157 : decode cX3_oaths 157 = .ok (.iadd, 1) ∧ 157 + 1 = 158 := by decide +kernel
theorem e_X3_oaths_158 : decode cX3_oaths 158 = .ok (.iaload, 1) ∧ 158 + 1 = 159 := by decide +kernel
theorem e_X3_oaths_159 : decode cX3_oaths 159 = .ok (.isub, 1) ∧ 159 + 1 = 160 := by decide +kernel
theorem e_X3_oaths_160 : decode cX3_oaths 160 = .ok (.istore 4, 2) ∧ 160 + 2 = 162 := by decide +kernel
theorem e_X3_oaths_162 : decode cX3_oaths 162 = .ok (.iload_n 2, 1) ∧ 162 + 1 = 163 := by decide +kernel
theorem e_X3_oaths_163 : decode cX3_oaths 163 = .ok (.iload_n 1, 1) ∧ 163 + 1 = 164 := by decide +kernel
theorem e_X3_oaths_164 : decode cX3_oaths 164 = .ok (.ifCond .eq 27, 3) ∧ 164 + 3 = 167 ∧ ((164 : Nat) : Int) + (27) = ((191 : Nat) : Int) := by decide +kernel
theorem e_X3_oaths_167 : decode cX3_oaths 167 = .ok (.aload_n 0, 1) ∧ 167 + 1 = 168 := by decide +kernel
theorem e_X3_oaths_168 : decode cX3_oaths 168 = .ok (.getfield 45, 3) ∧ 168 + 3 = 171 := by decide +kernel
theorem e_X3_oaths_171 : decode cX3_oaths 171 = .ok (.bipush 48, 2) ∧ 171 + 2 = 173 := by decide +kernel
theorem e_X3_oaths_173 : decode cX3_oaths 173 = .ok (.iaload, 1) ∧ 173 + 1 = 174 := by decide +kernel
theorem e_X3_oaths_174 : decode cX3_oaths 174 = .ok (.iload_n 3, 1) ∧ 174 + 1 = 175 := by decide +kernel
theorem e_X3_oaths_175 : decode cX3_oaths 175 = .ok (.invokestatic 70, 3) ∧ 175 + 3 = 178 := by decide +kernel
theorem e_X3_oaths_178 : decode cX3_oaths 178 = .ok (.ifCond .ne 13, 3) ∧ 178 + 3 = 181 ∧ ((178 : Nat) : Int) + (13) = ((191 : Nat) : Int) := by decide +kernel
theorem e_X3_oaths_181 : decode cX3_oaths 181 = .ok (.iload 4, 2) ∧ 181 + 2 = 183 := by decide +kernel
theorem e_X3_oaths_183 : decode cX3_oaths 183 = .ok (.ifCond .le 8, 3) ∧ 183 + 3 = 186 ∧ ((183 : Nat) : Int) + (8) = ((191 : Nat) : Int) := by decide +kernel
theorem e_X3_oaths_186 : decode cX3_oaths 186 = .ok (.iload 4, 2) ∧ 186 + 2 = 188 := by decide +kernel
theorem e_X3_oaths_188 : decode cX3_oaths 188 = .ok (.goto 4, 3) ∧ 188 + 3 = 191 ∧ ((188 : Nat) : Int) + (4) = ((192 : Nat) : Int) := by decide +kernel
theorem e_X3_oaths_191 : decode cX3_oaths 191 = .ok (.iconst 0, 1) ∧ 191 + 1 = 192 := by decide +kernel
theorem e_X3_oaths_192 : decode cX3_oaths 192 = .ok (.iadd, 1) ∧ 192 + 1 = 193 := by decide +kernel
theorem e_X3_oaths_193 : decode cX3_oaths 193 = .ok (.istore_n 2, 1) ∧ 193 + 1 = 194 := by decide +kernel
theorem e_X3_oaths_194 : decode cX3_oaths 194 = .ok (.iinc 3 1, 3) ∧ 194 + 3 = 197 := by decide +kernel
theorem e_X3_oaths_197 : decode cX3_oaths 197 = .ok (.goto (-67), 3) ∧ 197 + 3 = 200 ∧ ((197 : Nat) : Int) + (-67) = ((130 : Nat) : Int) := by decide +kernel
theorem e_X3_oaths_200 : decode cX3_oaths 200 = .ok (.iload_n 2, 1) ∧ 200 + 1 = 201 := by decide +kernel
theorem e_X3_oaths_201 : decode cX3_oaths 201 = .ok (.ireturn, 1) := by decide +kernel
theorem e_X3_prayAll_0 : decode cX3_prayAll 0 = .ok (.iconst 0, 1) ∧ 0 + 1 = 1 := by decide +kernel
theorem e_X3_prayAll_1 : decode cX3_prayAll 1 = .ok (.istore_n 3, 1) ∧ 1 + 1 = 2 := by decide +kernel
theorem e_X3_prayAll_2 : decode cX3_prayAll 2 = .ok (.iload_n 3, 1) ∧ 2 + 1 = 3 := by decide +kernel
theorem e_X3_prayAll_3 : decode cX3_prayAll 3 = .ok (.aload_n 0, 1) ∧ 3 + 1 = 4 := by decide +kernel
theorem e_X3_prayAll_4 : decode cX3_prayAll 4 = .ok (.getfield 51, 3) ∧ 4 + 3 = 7 := by decide +kernel
theorem e_X3_prayAll_7 : decode cX3_prayAll 7 = .ok (.if_icmp .ge 35, 3) ∧ 7 + 3 = 10 ∧ ((7 : Nat) : Int) + (35) = ((42 : Nat) : Int) := by decide +kernel
theorem e_X3_prayAll_10 : decode cX3_prayAll 10 = .ok (.iload_n 2, 1) ∧ 10 + 1 = 11 := by decide +kernel
theorem e_X3_prayAll_11 : decode cX3_prayAll 11 = .ok (.iload_n 3, 1) ∧ 11 + 1 = 12 := by decide +kernel
theorem e_X3_prayAll_12 : decode cX3_prayAll 12 = .ok (.invokestatic 70, 3) ∧ 12 + 3 = 15 := by decide +kernel
theorem e_X3_prayAll_15 : decode cX3_prayAll 15 = .ok (.ifCond .eq 21, 3) ∧ 15 + 3 = 18 ∧ ((15 : Nat) : Int) + (21) = ((36 : Nat) : Int) := by decide +kernel
theorem e_X3_prayAll_18 : decode cX3_prayAll 18 = .ok (.aload_n 1, 1) ∧ 18 + 1 = 19 := by decide +kernel
theorem e_X3_prayAll_19 : decode cX3_prayAll 19 = .ok (.bipush 53, 2) ∧ 19 + 2 = 21 := by decide +kernel
theorem e_X3_prayAll_21 : decode cX3_prayAll 21 = .ok (.iaload, 1) ∧ 21 + 1 = 22 := by decide +kernel
theorem e_X3_prayAll_22 : decode cX3_prayAll 22 = .ok (.iload_n 3, 1) ∧ 22 + 1 = 23 := by decide +kernel
theorem e_X3_prayAll_23 : decode cX3_prayAll 23 = .ok (.invokestatic 70, 3) ∧ 23 + 3 = 26 := by decide +kernel
theorem e_X3_prayAll_26 : decode cX3_prayAll 26 = .ok (.ifCond .ne 10, 3) ∧ 26 + 3 = 29 ∧ ((26 : Nat) : Int) + (10) = ((36 : Nat) : Int) := by decide +kernel
theorem e_X3_prayAll_29 : decode cX3_prayAll 29 = .ok (.aload_n 0, 1) ∧ 29 + 1 = 30 := by decide +kernel
theorem e_X3_prayAll_30 : decode cX3_prayAll 30 = .ok (.aload_n 1, 1) ∧ 30 + 1 = 31 := by decide +kernel
theorem e_X3_prayAll_31 : decode cX3_prayAll 31 = .ok (.iload_n 3, 1) ∧ 31 + 1 = 32 := by decide +kernel
theorem e_X3_prayAll_32 : decode cX3_prayAll 32 = .ok (.invokevirtual 145, 3) ∧ 32 + 3 = 35 := by decide +kernel
theorem e_X3_prayAll_35 : decode cX3_prayAll 35 = .ok (.pop, 1) ∧ 35 + 1 = 36 := by decide +kernel
theorem e_X3_prayAll_36 : decode cX3_prayAll 36 = .ok (.iinc 3 1, 3) ∧ 36 + 3 = 39 := by decide +kernel
theorem e_X3_prayAll_39 : decode cX3_prayAll 39 = .ok (.goto (-37), 3) ∧ 39 + 3 = 42 ∧ ((39 : Nat) : Int) + (-37) = ((2 : Nat) : Int) := by decide +kernel
theorem e_X3_prayAll_42 : decode cX3_prayAll 42 = .ok (.return_, 1) := by decide +kernel
theorem e_X3_down_0 : decode cX3_down 0 = .ok (.aload_n 0, 1) ∧ 0 + 1 = 1 := by decide +kernel
theorem e_X3_down_1 : decode cX3_down 1 = .ok (.iconst 0, 1) ∧ 1 + 1 = 2 := by decide +kernel
theorem e_X3_down_2 : decode cX3_down 2 = .ok (.putfield 48, 3) ∧ 2 + 3 = 5 := by decide +kernel
theorem e_X3_down_5 : decode cX3_down 5 = .ok (.iload_n 1, 1) ∧ 5 + 1 = 6 := by decide +kernel
theorem e_X3_down_6 : decode cX3_down 6 = .ok (.invokestatic 114, 3) ∧ 6 + 3 = 9 := by decide +kernel
theorem e_X3_down_9 : decode cX3_down 9 = .ok (.ifCond .eq 5, 3) ∧ 9 + 3 = 12 ∧ ((9 : Nat) : Int) + (5) = ((14 : Nat) : Int) := by decide +kernel
theorem e_X3_down_12 : decode cX3_down 12 = .ok (.iconst (-1), 1) ∧ 12 + 1 = 13 := by decide +kernel
theorem e_X3_down_13 : decode cX3_down 13 = .ok (.ireturn, 1) := by decide +kernel
theorem e_X3_down_14 : decode cX3_down 14 = .ok (.aload_n 0, 1) ∧ 14 + 1 = 15 := by decide +kernel
theorem e_X3_down_15 : decode cX3_down 15 = .ok (.invokevirtual 151, 3) ∧ 15 + 3 = 18 := by decide +kernel
theorem e_X3_down_18 : decode cX3_down 18 = .ok (.iconst 0, 1) ∧ 18 + 1 = 19 := by decide +kernel
theorem e_X3_down_19 : decode cX3_down 19 = .ok (.istore_n 2, 1) ∧ 19 + 1 = 20 := by decide +kernel
theorem e_X3_down_20 : decode cX3_down 20 = .ok (.iload_n 2, 1) ∧ 20 + 1 = 21 := by decide +kernel
theorem e_X3_down_21 : decode cX3_down 21 = .ok (.bipush 30, 2) ∧ 21 + 2 = 23 := by decide +kernel
theorem e_X3_down_23 : decode cX3_down 23 = .ok (.if_icmp .gt 44, 3) ∧ 23 + 3 = 26 ∧ ((23 : Nat) : Int) + (44) = ((67 : Nat) : Int) := by decide +kernel
theorem e_X3_down_26 : decode cX3_down 26 = .ok (.aload_n 0, 1) ∧ 26 + 1 = 27 := by decide +kernel
theorem e_X3_down_27 : decode cX3_down 27 = .ok (.getfield 45, 3) ∧ 27 + 3 = 30 := by decide +kernel
theorem e_X3_down_30 : decode cX3_down 30 = .ok (.bipush 48, 2) ∧ 30 + 2 = 32 := by decide +kernel
theorem e_X3_down_32 : decode cX3_down 32 = .ok (.iaload, 1) ∧ 32 + 1 = 33 := by decide +kernel
theorem e_X3_down_33 : decode cX3_down 33 = .ok (.iload_n 1, 1) ∧ 33 + 1 = 34 := by decide +kernel
theorem e_X3_down_34 : decode cX3_down 34 = .ok (.invokestatic 70, 3) ∧ 34 + 3 = 37 := by decide +kernel
theorem e_X3_down_37 : decode cX3_down 37 = .ok (.ifCond .eq 5, 3) ∧ 37 + 3 = 40 ∧ ((37 : Nat) : Int) + (5) = ((42 : Nat) : Int) := by decide +kernel
theorem e_X3_down_40 : decode cX3_down 40 = .ok (.iload_n 2, 1) ∧ 40 + 1 = 41 := by decide +kernel
theorem e_X3_down_41 : decode cX3_down 41 = .ok (.ireturn, 1) := by decide +kernel
theorem e_X3_down_42 : decode cX3_down 42 = .ok (.aload_n 0, 1) ∧ 42 + 1 = 43 := by decide +kernel
theorem e_X3_down_43 : decode cX3_down 43 = .ok (.aload_n 0, 1) ∧ 43 + 1 = 44 := by decide +kernel
theorem e_X3_down_44 : decode cX3_down 44 = .ok (.getfield 45, 3) ∧ 44 + 3 = 47 := by decide +kernel
theorem e_X3_down_47 : decode cX3_down 47 = .ok (.bipush 15, 2) ∧ 47 + 2 = 49 := by decide +kernel
theorem e_X3_down_49 : decode cX3_down 49 = .ok (.invokevirtual 168, 3) ∧ 49 + 3 = 52 := by decide +kernel
theorem e_X3_down_52 : decode cX3_down 52 = .ok (.aload_n 0, 1) ∧ 52 + 1 = 53 := by decide +kernel
theorem e_X3_down_53 : decode cX3_down 53 = .ok (.aload_n 0, 1) ∧ 53 + 1 = 54 := by decide +kernel
theorem e_X3_down_54 : decode cX3_down 54 = .ok (.getfield 45, 3) ∧ 54 + 3 = 57 := by decide +kernel
theorem e_X3_down_57 : decode cX3_down 57 = .ok (.invokevirtual 148, 3) ∧ 57 + 3 = 60 := by decide +kernel
theorem e_X3_down_60 : decode cX3_down 60 = .ok (.pop, 1) ∧ 60 + 1 = 61 := by decide +kernel
theorem e_X3_down_61 : decode cX3_down 61 = .ok (.iinc 2 1, 3) ∧ 61 + 3 = 64 := by decide +kernel
theorem e_X3_down_64 : decode cX3_down 64 = .ok (.goto (-44), 3) ∧ 64 + 3 = 67 ∧ ((64 : Nat) : Int) + (-44) = ((20 : Nat) : Int) := by decide +kernel
theorem e_X3_down_67 : decode cX3_down 67 = .ok (.bipush (-9), 2) ∧ 67 + 2 = 69 := by decide +kernel
theorem e_X3_down_69 : decode cX3_down 69 = .ok (.ireturn, 1) := by decide +kernel
theorem e_X3_see_0 : decode cX3_see 0 = .ok (.aload_n 0, 1) ∧ 0 + 1 = 1 := by decide +kernel
theorem e_X3_see_1 : decode cX3_see 1 = .ok (.iconst 0, 1) ∧ 1 + 1 = 2 := by decide +kernel
theorem e_X3_see_2 : decode cX3_see 2 = .ok (.putfield 48, 3) ∧ 2 + 3 = 5 := by decide +kernel
theorem e_X3_see_5 : decode cX3_see 5 = .ok (.iload_n 1, 1) ∧ 5 + 1 = 6 := by decide +kernel
theorem e_X3_see_6 : decode cX3_see 6 = .ok (.invokestatic 114, 3) ∧ 6 + 3 = 9 := by decide +kernel
theorem e_X3_see_9 : decode cX3_see 9 = .ok (.ifCond .eq 5, 3) ∧ 9 + 3 = 12 ∧ ((9 : Nat) : Int) + (5) = ((14 : Nat) : Int) := by decide +kernel
theorem e_X3_see_12 : decode cX3_see 12 = .ok (.iconst (-1), 1) ∧ 12 + 1 = 13 := by decide +kernel
theorem e_X3_see_13 : decode cX3_see 13 = .ok (.ireturn, 1) := by decide +kernel
theorem e_X3_see_14 : decode cX3_see 14 = .ok (.iload_n 2, 1) ∧ 14 + 1 = 15 := by decide +kernel
theorem e_X3_see_15 : decode cX3_see 15 = .ok (.i2l, 1) ∧ 15 + 1 = 16 := by decide +kernel
theorem e_X3_see_16 : decode cX3_see 16 = .ok (.lconst 0, 1) ∧ 16 + 1 = 17 := by decide +kernel
theorem e_X3_see_17 : decode cX3_see 17 = .ok (.ldc2_w 172, 3) ∧ 17 + 3 = 20 := by decide +kernel
theorem e_X3_see_20 : decode cX3_see 20 = .ok (.invokestatic 54, 3) ∧ 20 + 3 = 23 := by decide +kernel
theorem e_X3_see_23 : decode cX3_see 23 = .ok (.ifCond .ne 6, 3) ∧ 23 + 3 = 26 ∧ ((23 : Nat) : Int) + (6) = ((29 : Nat) : Int) := by decide +kernel
theorem e_X3_see_26 : decode cX3_see 26 = .ok (.bipush (-2), 2) ∧ 26 + 2 = 28 := by decide +kernel
theorem e_X3_see_28 : decode cX3_see 28 = .ok (.ireturn, 1) := by decide +kernel
theorem e_X3_see_29 : decode cX3_see 29 = .ok (.aload_n 0, 1) ∧ 29 + 1 = 30 := by decide +kernel
theorem e_X3_see_30 : decode cX3_see 30 = .ok (.getfield 111, 3) ∧ 30 + 3 = 33 := by decide +kernel
theorem e_X3_see_33 : decode cX3_see 33 = .ok (.bipush 6, 2) ∧ 33 + 2 = 35 := by decide +kernel
theorem e_X3_see_35 : decode cX3_see 35 = .ok (.if_icmp .ne 6, 3) ∧ 35 + 3 = 38 ∧ ((35 : Nat) : Int) + (6) = ((41 : Nat) : Int) := by decide +kernel
theorem e_X3_see_38 : decode cX3_see 38 = .ok (.bipush (-4), 2) ∧ 38 + 2 = 40 := by decide +kernel
theorem e_X3_see_40 : decode cX3_see 40 = .ok (.ireturn, 1) := by decide +kernel
theorem e_X3_see_41 : decode cX3_see 41 = .ok (.aload_n 0, 1) ∧ 41 + 1 = 42 := by decide +kernel
theorem e_X3_see_42 : decode cX3_see 42 = .ok (.getfield 39, 3) ∧ 42 + 3 = 45 := by decide +kernel
theorem e_X3_see_45 : decode cX3_see 45 = .ok (.aload_n 0, 1) ∧ 45 + 1 = 46 := by decide +kernel
theorem e_X3_see_46 : decode cX3_see 46 = .ok (.getfield 111, 3) ∧ 46 + 3 = 49 := by decide +kernel
theorem e_X3_see_49 : decode cX3_see 49 = .ok (.iload_n 1, 1) ∧ 49 + 1 = 50 := by decide +kernel
theorem e_X3_see_50 : decode cX3_see 50 = .ok (.iastore, 1) ∧ 50 + 1 = 51 := by decide +kernel
theorem e_X3_see_51 : decode cX3_see 51 = .ok (.aload_n 0, 1) ∧ 51 + 1 = 52 := by decide +kernel
theorem e_X3_see_52 : decode cX3_see 52 = .ok (.getfield 42, 3) ∧ 52 + 3 = 55 := by decide +kernel
theorem e_X3_see_55 : decode cX3_see 55 = .ok (.aload_n 0, 1) ∧ 55 + 1 = 56 := by decide +kernel
theorem e_X3_see_56 : decode cX3_see 56 = .ok (.getfield 111, 3) ∧ 56 + 3 = 59 := by decide +kernel
theorem e_X3_see_59 : decode cX3_see 59 = .ok (.iload_n 2, 1) ∧ 59 + 1 = 60 := by decide +kernel
theorem e_X3_see_60 : decode cX3_see 60 = .ok (.iastore, 1) ∧ 60 + 1 = 61 := by decide +kernel
theorem e_X3_see_61 : decode cX3_see 61 = .ok (.aload_n 0, 1) ∧ 61 + 1 = 62 := by decide +kernel
theorem e_X3_see_62 : decode cX3_see 62 = .ok (.dup, 1) ∧ 62 + 1 = 63 := by decide +kernel
theorem e_X3_see_63 : decode cX3_see 63 = .ok (.getfield 111, 3) ∧ 63 + 3 = 66 := by decide +kernel
theorem e_X3_see_66 : decode cX3_see 66 = .ok (.iconst 1, 1) ∧ 66 + 1 = 67 := by decide +kernel
theorem e_X3_see_67 : decode cX3_see 67 = .ok (.iadd, 1) ∧ 67 + 1 = 68 := by decide +kernel
theorem e_X3_see_68 : decode cX3_see 68 = .ok (.putfield 111, 3) ∧ 68 + 3 = 71 := by decide +kernel
theorem e_X3_see_71 : decode cX3_see 71 = .ok (.aload_n 0, 1) ∧ 71 + 1 = 72 := by decide +kernel
theorem e_X3_see_72 : decode cX3_see 72 = .ok (.getfield 111, 3) ∧ 72 + 3 = 75 := by decide +kernel
theorem e_X3_see_75 : decode cX3_see 75 = .ok (.ireturn, 1) := by decide +kernel
theorem e_X3_unsee_0 : decode cX3_unsee 0 = .ok (.aload_n 0, 1) ∧ 0 + 1 = 1 := by decide +kernel
theorem e_X3_unsee_1 : decode cX3_unsee 1 = .ok (.iconst 0, 1) ∧ 1 + 1 = 2 := by decide +kernel
theorem e_X3_unsee_2 : decode cX3_unsee 2 = .ok (.putfield 48, 3) ∧ 2 + 3 = 5 := by decide +kernel
theorem e_X3_unsee_5 : decode cX3_unsee 5 = .ok (.aload_n 0, 1) ∧ 5 + 1 = 6 := by decide +kernel
theorem e_X3_unsee_6 : decode cX3_unsee 6 = .ok (.getfield 111, 3) ∧ 6 + 3 = 9 := by decide +kernel
theorem e_X3_unsee_9 : decode cX3_unsee 9 = .ok (.istore_n 1, 1) ∧ 9 + 1 = 10 := by decide +kernel
theorem e_X3_unsee_10 : decode cX3_unsee 10 = .ok (.aload_n 0, 1) ∧ 10 + 1 = 11 := by decide +kernel
theorem e_X3_unsee_11 : decode cX3_unsee 11 = .ok (.iconst 0, 1) ∧ 11 + 1 = 12 := by decide +kernel
theorem e_X3_unsee_12 : decode cX3_unsee 12 = .ok (.putfield 111, 3) ∧ 12 + 3 = 15 := by decide +kernel
theorem e_X3_unsee_15 : decode cX3_unsee 15 = .ok (.iload_n 1, 1) ∧ 15 + 1 = 16 := by decide +kernel
theorem e_X3_unsee_16 : decode cX3_unsee 16 = .ok (.ireturn, 1) := by decide +kernel
theorem e_X3_silent_0 : decode cX3_silent 0 = .ok (.aload_n 0, 1) ∧ 0 + 1 = 1 := by decide +kernel
theorem e_X3_silent_1 : decode cX3_silent 1 = .ok (.iconst 0, 1) ∧ 1 + 1 = 2 := by decide +kernel
theorem e_X3_silent_2 : decode cX3_silent 2 = .ok (.putfield 48, 3) ∧ 2 + 3 = 5 := by decide +kernel
theorem e_X3_silent_5 : decode cX3_silent 5 = .ok (.iload_n 1, 1) ∧ 5 + 1 = 6 := by decide +kernel
theorem e_X3_silent_6 : decode cX3_silent 6 = .ok (.i2l, 1) ∧ 6 + 1 = 7 := by decide +kernel
theorem e_X3_silent_7 : decode cX3_silent 7 = .ok (.lconst 0, 1) ∧ 7 + 1 = 8 := by decide +kernel
theorem e_X3_silent_8 : decode cX3_silent 8 = .ok (.lconst 1, 1) ∧ 8 + 1 = 9 := by decide +kernel
theorem e_X3_silent_9 : decode cX3_silent 9 = .ok (.invokestatic 54, 3) ∧ 9 + 3 = 12 := by decide +kernel
theorem e_X3_silent_12 : decode cX3_silent 12 = .ok (.ifCond .ne 6, 3) ∧ 12 + 3 = 15 ∧ ((12 : Nat) : Int) + (6) = ((18 : Nat) : Int) := by decide +kernel
theorem e_X3_silent_15 : decode cX3_silent 15 = .ok (.bipush (-2), 2) ∧ 15 + 2 = 17 := by decide +kernel
theorem e_X3_silent_17 : decode cX3_silent 17 = .ok (.ireturn, 1) := by decide +kernel
theorem e_X3_silent_18 : decode cX3_silent 18 = .ok (.iconst 0, 1) ∧ 18 + 1 = 19 := by decide +kernel
theorem e_X3_silent_19 : decode cX3_silent 19 = .ok (.istore_n 2, 1) ∧ 19 + 1 = 20 := by decide +kernel
theorem e_X3_silent_20 : decode cX3_silent 20 = .ok (.bipush (-9), 2) ∧ 20 + 2 = 22 := by decide +kernel
theorem e_X3_silent_22 : decode cX3_silent 22 = .ok (.istore_n 3, 1) ∧ 22 + 1 = 23 := by decide +kernel
theorem e_X3_silent_23 : decode cX3_silent 23 = .ok (.iconst 0, 1) ∧ 23 + 1 = 24 := by decide +kernel
theorem e_X3_silent_24 : decode cX3_silent 24 = .ok (.istore 4, 2) ∧ 24 + 2 = 26 := by decide +kernel
theorem e_X3_silent_26 : decode cX3_silent 26 = .ok (.iload 4, 2) ∧ 26 + 2 = 28 := by decide +kernel
theorem e_X3_silent_28 : decode cX3_silent 28 = .ok (.iconst 1, 1) ∧ 28 + 1 = 29 := by decide +kernel
theorem e_X3_silent_29 : decode cX3_silent 29 = .ok (.aload_n 0, 1) ∧ 29 + 1 = 30 := by decide +kernel
theorem e_X3_silent_30 : decode cX3_silent 30 = .ok (.getfield 51, 3) ∧ 30 + 3 = 33 := by decide +kernel
theorem e_X3_silent_33 : decode cX3_silent 33 = .ok (.ishl, 1) ∧ 33 + 1 = 34 := by decide +kernel
theorem e_X3_silent_34 : decode cX3_silent 34 = .ok (.if_icmp .ge 142, 3) ∧ 34 + 3 = 37 ∧ ((34 : Nat) : Int) + (142) = ((176 : Nat) : Int) := by decide +kernel
theorem e_X3_silent_37 : decode cX3_silent 37 = .ok (.iload 4, 2) ∧ 37 + 2 = 39 := by decide +kernel
theorem e_X3_silent_39 : decode cX3_silent 39 = .ok (.aload_n 0, 1) ∧ 39 + 1 = 40 := by decide +kernel
theorem e_X3_silent_40 : decode cX3_silent 40 = .ok (.getfield 20, 3) ∧ 40 + 3 = 43 := by decide +kernel
theorem e_X3_silent_43 : decode cX3_silent 43 = .ok (.bipush 53, 2) ∧ 43 + 2 = 45 := by decide +kernel
theorem e_X3_silent_45 : decode cX3_silent 45 = .ok (.iaload, 1) ∧ 45 + 1 = 46 := by decide +kernel
theorem e_X3_silent_46 : decode cX3_silent 46 = .ok (.iand, 1) ∧ 46 + 1 = 47 := by decide +kernel
theorem e_X3_silent_47 : decode cX3_silent 47 = .ok (.ifCond .ne 123, 3) ∧ 47 + 3 = 50 ∧ ((47 : Nat) : Int) + (123) = ((170 : Nat) : Int) := by decide +kernel
theorem e_X3_silent_50 : decode cX3_silent 50 = .ok (.aload_n 0, 1) ∧ 50 + 1 = 51 := by decide +kernel
theorem e_X3_silent_51 : decode cX3_silent 51 = .ok (.invokevirtual 151, 3) ∧ 51 + 3 = 54 := by decide +kernel
theorem e_X3_silent_54 : decode cX3_silent 54 = .ok (.aload_n 0, 1) ∧ 54 + 1 = 55 := by decide +kernel
theorem e_X3_silent_55 : decode cX3_silent 55 = .ok (.aload_n 0, 1) ∧ 55 + 1 = 56 := by decide +kernel
theorem e_X3_silent_56 : decode cX3_silent 56 = .ok (.getfield 45, 3) ∧ 56 + 3 = 59 := by decide +kernel
theorem e_X3_silent_59 : decode cX3_silent 59 = .ok (.iload 4, 2) ∧ 59 + 2 = 61 := by decide +kernel
theorem e_X3_silent_61 : decode cX3_silent 61 = .ok (.invokevirtual 168, 3) ∧ 61 + 3 = 64 := by decide +kernel
theorem e_X3_silent_64 : decode cX3_silent 64 = .ok (.iconst 1, 1) ∧ 64 + 1 = 65 := by decide +kernel
theorem e_X3_silent_65 : decode cX3_silent 65 = .ok (.istore 5, 2) ∧ 65 + 2 = 67 := by decide +kernel
theorem e_X3_silent_67 : decode cX3_silent 67 = .ok (.iconst 0, 1) ∧ 67 + 1 = 68 := by decide +kernel
theorem e_X3_silent_68 : decode cX3_silent 68 = .ok (.istore 6, 2) ∧ 68 + 2 = 70 := by decide +kernel
theorem e_X3_silent_70 : decode cX3_silent 70 = .ok (.iload 6, 2) ∧ 70 + 2 = 72 := by decide +kernel
theorem e_X3_silent_72 : decode cX3_silent 72 = .ok (.aload_n 0, 1) ∧ 72 + 1 = 73 := by decide +kernel
theorem e_X3_silent_73 : decode cX3_silent 73 = .ok (.getfield 111, 3) ∧ 73 + 3 = 76 := by decide +kernel
theorem e_X3_silent_76 : decode cX3_silent 76 = .ok (.if_icmp .ge 70, 3) ∧ 76 + 3 = 79 ∧ ((76 : Nat) : Int) + (70) = ((146 : Nat) : Int) := by decide +kernel
theorem e_X3_silent_79 : decode cX3_silent 79 = .ok (.aload_n 0, 1) ∧ 79 + 1 = 80 := by decide +kernel
theorem e_X3_silent_80 : decode cX3_silent 80 = .ok (.getfield 39, 3) ∧ 80 + 3 = 83 := by decide +kernel
theorem e_X3_silent_83 : decode cX3_silent 83 = .ok (.iload 6, 2) ∧ 83 + 2 = 85 := by decide +kernel
theorem e_X3_silent_85 : decode cX3_silent 85 = .ok (.iaload, 1) ∧ 85 + 1 = 86 := by decide +kernel
theorem e_X3_silent_86 : decode cX3_silent 86 = .ok (.istore 7, 2) ∧ 86 + 2 = 88 := by decide +kernel
theorem e_X3_silent_88 : decode cX3_silent 88 = .ok (.iload 5, 2) ∧ 88 + 2 = 90 := by decide +kernel
theorem e_X3_silent_90 : decode cX3_silent 90 = .ok (.ifCond .eq 47, 3) ∧ 90 + 3 = 93 ∧ ((90 : Nat) : Int) + (47) = ((137 : Nat) : Int) := by decide +kernel
theorem e_X3_silent_93 : decode cX3_silent 93 = .ok (.aload_n 0, 1) ∧ 93 + 1 = 94 := by decide +kernel
theorem e_X3_silent_94 : decode cX3_silent 94 = .ok (.getfield 42, 3) ∧ 94 + 3 = 97 := by decide +kernel
theorem e_X3_silent_97 : decode cX3_silent 97 = .ok (.iload 6, 2) ∧ 97 + 2 = 99 := by decide +kernel
theorem e_X3_silent_99 : decode cX3_silent 99 = .ok (.iaload, 1) ∧ 99 + 1 = 100 := by decide +kernel
theorem e_X3_silent_100 : decode cX3_silent 100 = .ok (.aload_n 0, 1) ∧ 100 + 1 = 101 := by decide +kernel
theorem e_X3_silent_101 : decode cX3_silent 101 = .ok (.getfield 45, 3) ∧ 101 + 3 = 104 := by decide +kernel
theorem e_X3_silent_104 : decode cX3_silent 104 = .ok (.bipush 48, 2) ∧ 104 + 2 = 106 := by decide +kernel
theorem e_X3_silent_106 : decode cX3_silent 106 = .ok (.iaload, 1) ∧ 106 + 1 = 107 := by decide +kernel
theorem e_X3_silent_107 : decode cX3_silent 107 = .ok (.iload 7, 2) ∧ 107 + 2 = 109 := by decide +kernel
theorem e_X3_silent_109 : decode cX3_silent 109 = .ok (.invokestatic 70, 3) ∧ 109 + 3 = 112 := by decide +kernel
theorem e_X3_silent_112 : decode cX3_silent 112 = .ok (.ifCond .eq 8, 3) ∧ 112 + 3 = 115 ∧ ((112 : Nat) : Int) + (8) = ((120 : Nat) : Int) := by decide +kernel
theorem e_X3_silent_115 : decode cX3_silent 115 = .ok (.bipush 100, 2) ∧ 115 + 2 = 117 := by decide +kernel
theorem e_X3_silent_117 : decode cX3_silent 117 = .ok (.goto 13, 3) ∧ 117 + 3 = 120 ∧ ((117 : Nat) : Int) + (13) = ((130 : Nat) : Int) := by decide +kernel
theorem e_X3_silent_120 : decode cX3_silent 120 = .ok (.aload_n 0, 1) ∧ 120 + 1 = 121 := by decide +kernel
theorem e_X3_silent_121 : decode cX3_silent 121 = .ok (.getfield 45, 3) ∧ 121 + 3 = 124 := by decide +kernel
theorem e_X3_silent_124 : decode cX3_silent 124 = .ok (.bipush 12, 2) ∧ 124 + 2 = 126 := by decide +kernel
theorem e_X3_silent_126 : decode cX3_silent 126 = .ok (.iload 7, 2) ∧ 126 + 2 = 128 := by decide +kernel
theorem e_X3_silent_128 : decode cX3_silent 128 = .ok (.iadd, 1) ∧ 128 + 1 = 129 := by decide +kernel
theorem e_X3_silent_129 : decode cX3_silent 129 = .ok (.iaload, 1) ∧ 129 + 1 = 130 := by decide +kernel
theorem e_X3_silent_130 : decode cX3_silent 130 = .ok (.if_icmp .ne 7, 3) ∧ 130 + 3 = 133 ∧ ((130 : Nat) : Int) + (7) = ((137 : Nat) : Int) := by decide +kernel
theorem e_X3_silent_133 : decode cX3_silent 133 = .ok (.iconst 1, 1) ∧ 133 + 1 = 134 := by decide +kernel
theorem e_X3_silent_134 : decode cX3_silent 134 = .ok (.goto 4, 3) ∧ 134 + 3 = 137 ∧ ((134 : Nat) : Int) + (4) = ((138 : Nat) : Int) := by decide +kernel
theorem e_X3_silent_137 : decode cX3_silent 137 = .ok (.iconst 0, 1) ∧ 137 + 1 = 138 := by decide +kernel
theorem e_X3_silent_138 : decode cX3_silent 138 = .ok (.istore 5, 2) ∧ 138 + 2 = 140 := by decide +kernel
theorem e_X3_silent_140 : decode cX3_silent 140 = .ok (.iinc 6 1, 3) ∧ 140 + 3 = 143 := by decide +kernel
theorem e_X3_silent_143 : decode cX3_silent 143 = .ok (.goto (-73), 3) ∧ 143 + 3 = 146 ∧ ((143 : Nat) : Int) + (-73) = ((70 : Nat) : Int) := by decide +kernel
theorem e_X3_silent_146 : decode cX3_silent 146 = .ok (.iload 5, 2) ∧ 146 + 2 = 148 := by decide +kernel
theorem e_X3_silent_148 : decode cX3_silent 148 = .ok (.ifCond .eq 22, 3) ∧ 148 + 3 = 151 ∧ ((148 : Nat) : Int) + (22) = ((170 : Nat) : Int) := by decide +kernel
theorem e_X3_silent_151 : decode cX3_silent 151 = .ok (.iinc 2 1, 3) ∧ 151 + 3 = 154 := by decide +kernel
theorem e_X3_silent_154 : decode cX3_silent 154 = .ok (.iload_n 3, 1) ∧ 154 + 1 = 155 := by decide +kernel
theorem e_X3_silent_155 : decode cX3_silent 155 = .ok (.bipush (-9), 2) ∧ 155 + 2 = 157 := by decide +kernel
theorem e_X3_silent_157 : decode cX3_silent 157 = .ok (.if_icmp .ne 8, 3) ∧ 157 + 3 = 160 ∧ ((157 : Nat) : Int) + (8) = ((165 : Nat) : Int) := by decide +kernel
theorem e_X3_silent_160 : decode cX3_silent 160 = .ok (.iload 4, 2) ∧ 160 + 2 = 162 := by decide +kernel
theorem e_X3_silent_162 : decode cX3_silent 162 = .ok (.goto 7, 3) ∧ 162 + 3 = 165 ∧ ((162 : Nat) : Int) + (7) = ((169 : Nat) : Int) := by decide +kernel
theorem e_X3_silent_165 : decode cX3_silent 165 = .ok (.iload_n 3, 1) ∧ 165 + 1 = 166 := by decide +kernel
theorem e_X3_silent_166 : decode cX3_silent 166 = .ok (.iload 4, 2) ∧ 166 + 2 = 168 := by decide +kernel
theorem e_X3_silent_168 : decode cX3_silent 168 = .ok (.iand, 1) ∧ 168 + 1 = 169 := by decide +kernel
theorem e_X3_silent_169 : decode cX3_silent 169 = .ok (.istore_n 3, 1) ∧ 169 + 1 = 170 := by decide +kernel
theorem e_X3_silent_170 : decode cX3_silent 170 = .ok (.iinc 4 1, 3) ∧ 170 + 3 = 173 := by decide +kernel
theorem e_X3_silent_173 : decode cX3_silent 173 = .ok (.goto (-147), 3) ∧ 173 + 3 = 176 ∧ ((173 : Nat) : Int) + (-147) = ((26 : Nat) : Int) := by decide +kernel
theorem e_X3_silent_176 : decode cX3_silent 176 = .ok (.iload_n 1, 1) ∧ 176 + 1 = 177 := by decide +kernel
theorem e_X3_silent_177 : decode cX3_silent 177 = .ok (.ifCond .ne 7, 3) ∧ 177 + 3 = 180 ∧ ((177 : Nat) : Int) + (7) = ((184 : Nat) : Int) := by decide +kernel
theorem e_X3_silent_180 : decode cX3_silent 180 = .ok (.iload_n 2, 1) ∧ 180 + 1 = 181 := by decide +kernel
theorem e_X3_silent_181 : decode cX3_silent 181 = .ok (.goto 4, 3) ∧ 181 + 3 = 184 ∧ ((181 : Nat) : Int) + (4) = ((185 : Nat) : Int) := by decide +kernel
theorem e_X3_silent_184 : decode cX3_silent 184 = .ok (.iload_n 3, 1) ∧ 184 + 1 = 185 := by decide +kernel
theorem e_X3_silent_185 : decode cX3_silent 185 = .ok (.ireturn, 1) := by decide +kernel
theorem e_X3_divisor_0 : decode cX3_divisor 0 = .ok (.iload_n 0, 1) ∧ 0 + 1 = 1 := by decide +kernel
theorem e_X3_divisor_1 : decode cX3_divisor 1 = .ok (.istore_n 2, 1) ∧ 1 + 1 = 2 := by decide +kernel
theorem e_X3_divisor_2 : decode cX3_divisor 2 = .ok (.iload_n 1, 1) ∧ 2 + 1 = 3 := by decide +kernel
theorem e_X3_divisor_3 : decode cX3_divisor 3 = .ok (.istore_n 3, 1) ∧ 3 + 1 = 4 := by decide +kernel
theorem e_X3_divisor_4 : decode cX3_divisor 4 = .ok (.iload_n 3, 1) ∧ 4 + 1 = 5 := by decide +kernel
theorem e_X3_divisor_5 : decode cX3_divisor 5 = .ok (.ifCond .eq 16, 3) ∧ 5 + 3 = 8 ∧ ((5 : Nat) : Int) + (16) = ((21 : Nat) : Int) := by decide +kernel
theorem e_X3_divisor_8 : decode cX3_divisor 8 = .ok (.iload_n 2, 1) ∧ 8 + 1 = 9 := by decide +kernel
theorem e_X3_divisor_9 : decode cX3_divisor 9 = .ok (.iload_n 3, 1) ∧ 9 + 1 = 10 := by decide +kernel
theorem e_X3_divisor_10 : decode cX3_divisor 10 = .ok (.irem, 1) ∧ 10 + 1 = 11 := by decide +kernel
theorem e_X3_divisor_11 : decode cX3_divisor 11 = .ok (.istore 4, 2) ∧ 11 + 2 = 13 := by decide +kernel
theorem e_X3_divisor_13 : decode cX3_divisor 13 = .ok (.iload_n 3, 1) ∧ 13 + 1 = 14 := by decide +kernel
theorem e_X3_divisor_14 : decode cX3_divisor 14 = .ok (.istore_n 2, 1) ∧ 14 + 1 = 15 := by decide +kernel
theorem e_X3_divisor_15 : decode cX3_divisor 15 = .ok (.iload 4, 2) ∧ 15 + 2 = 17 := by decide +kernel
theorem e_X3_divisor_17 : decode cX3_divisor 17 = .ok (.istore_n 3, 1) ∧ 17 + 1 = 18 := by decide +kernel
theorem e_X3_divisor_18 : decode cX3_divisor 18 = .ok (.goto (-14), 3) ∧ 18 + 3 = 21 ∧ ((18 : Nat) : Int) + (-14) = ((4 : Nat) : Int) := by decide +kernel
theorem e_X3_divisor_21 : decode cX3_divisor 21 = .ok (.iload_n 2, 1) ∧ 21 + 1 = 22 := by decide +kernel
theorem e_X3_divisor_22 : decode cX3_divisor 22 = .ok (.ireturn, 1) := by decide +kernel
theorem e_X3_chance_0 : decode cX3_chance 0 = .ok (.aload_n 0, 1) ∧ 0 + 1 = 1 := by decide +kernel
theorem e_X3_chance_1 : decode cX3_chance 1 = .ok (.iconst 0, 1) ∧ 1 + 1 = 2 := by decide +kernel
theorem e_X3_chance_2 : decode cX3_chance 2 = .ok (.putfield 48, 3) ∧ 2 + 3 = 5 := by decide +kernel
theorem e_X3_chance_5 : decode cX3_chance 5 = .ok (.iload_n 1, 1) ∧ 5 + 1 = 6 := by decide +kernel
theorem e_X3_chance_6 : decode cX3_chance 6 = .ok (.invokestatic 114, 3) ∧ 6 + 3 = 9 := by decide +kernel
theorem e_X3_chance_9 : decode cX3_chance 9 = .ok (.ifCond .eq 5, 3) ∧ 9 + 3 = 12 ∧ ((9 : Nat) : Int) + (5) = ((14 : Nat) : Int) := by decide +kernel
theorem e_X3_chance_12 : decode cX3_chance 12 = .ok (.iconst (-1), 1) ∧ 12 + 1 = 13 := by decide +kernel
theorem e_X3_chance_13 : decode cX3_chance 13 = .ok (.ireturn, 1) := by decide +kernel
theorem e_X3_chance_14 : decode cX3_chance 14 = .ok (.iload_n 2, 1) ∧ 14 + 1 = 15 := by decide +kernel
theorem e_X3_chance_15 : decode cX3_chance 15 = .ok (.i2l, 1) ∧ 15 + 1 = 16 := by decide +kernel
theorem e_X3_chance_16 : decode cX3_chance 16 = .ok (.lconst 0, 1) ∧ 16 + 1 = 17 := by decide +kernel
theorem e_X3_chance_17 : decode cX3_chance 17 = .ok (.ldc2_w 174, 3) ∧ 17 + 3 = 20 := by decide +kernel
theorem e_X3_chance_20 : decode cX3_chance 20 = .ok (.invokestatic 54, 3) ∧ 20 + 3 = 23 := by decide +kernel
theorem e_X3_chance_23 : decode cX3_chance 23 = .ok (.ifCond .ne 6, 3) ∧ 23 + 3 = 26 ∧ ((23 : Nat) : Int) + (6) = ((29 : Nat) : Int) := by decide +kernel
theorem e_X3_chance_26 : decode cX3_chance 26 = .ok (.bipush (-2), 2) ∧ 26 + 2 = 28 := by decide +kernel
theorem e_X3_chance_28 : decode cX3_chance 28 = .ok (.ireturn, 1) := by decide +kernel
theorem e_X3_chance_29 : decode cX3_chance 29 = .ok (.iconst 0, 1) ∧ 29 + 1 = 30 := by decide +kernel
theorem e_X3_chance_30 : decode cX3_chance 30 = .ok (.istore 4, 2) ∧ 30 + 2 = 32 := by decide +kernel
theorem e_X3_chance_32 : decode cX3_chance 32 = .ok (.iconst 0, 1) ∧ 32 + 1 = 33 := by decide +kernel
theorem e_X3_chance_33 : decode cX3_chance 33 = .ok (.istore 5, 2) ∧ 33 + 2 = 35 := by decide +kernel
theorem e_X3_chance_35 : decode cX3_chance 35 = .ok (.iload 5, 2) ∧ 35 + 2 = 37 := by decide +kernel
theorem e_X3_chance_37 : decode cX3_chance 37 = .ok (.iconst 1, 1) ∧ 37 + 1 = 38 := by decide +kernel
theorem e_X3_chance_38 : decode cX3_chance 38 = .ok (.aload_n 0, 1) ∧ 38 + 1 = 39 := by decide +kernel
theorem e_X3_chance_39 : decode cX3_chance 39 = .ok (.getfield 51, 3) ∧ 39 + 3 = 42 := by decide +kernel
theorem e_X3_chance_42 : decode cX3_chance 42 = .ok (.ishl, 1) ∧ 42 + 1 = 43 := by decide +kernel
theorem e_X3_chance_43 : decode cX3_chance 43 = .ok (.if_icmp .ge 92, 3) ∧ 43 + 3 = 46 ∧ ((43 : Nat) : Int) + (92) = ((135 : Nat) : Int) := by decide +kernel
theorem e_X3_chance_46 : decode cX3_chance 46 = .ok (.iconst 1, 1) ∧ 46 + 1 = 47 := by decide +kernel
theorem e_X3_chance_47 : decode cX3_chance 47 = .ok (.istore 6, 2) ∧ 47 + 2 = 49 := by decide +kernel
theorem e_X3_chance_49 : decode cX3_chance 49 = .ok (.iconst 0, 1) ∧ 49 + 1 = 50 := by decide +kernel
theorem e_X3_chance_50 : decode cX3_chance 50 = .ok (.istore 7, 2) ∧ 50 + 2 = 52 := by decide +kernel
theorem e_X3_chance_52 : decode cX3_chance 52 = .ok (.iload 7, 2) ∧ 52 + 2 = 54 := by decide +kernel
theorem e_X3_chance_54 : decode cX3_chance 54 = .ok (.aload_n 0, 1) ∧ 54 + 1 = 55 := by decide +kernel
theorem e_X3_chance_55 : decode cX3_chance 55 = .ok (.getfield 51, 3) ∧ 55 + 3 = 58 := by decide +kernel
theorem e_X3_chance_58 : decode cX3_chance 58 = .ok (.if_icmp .ge 32, 3) ∧ 58 + 3 = 61 ∧ ((58 : Nat) : Int) + (32) = ((90 : Nat) : Int) := by decide +kernel
theorem e_X3_chance_61 : decode cX3_chance 61 = .ok (.iload 6, 2) ∧ 61 + 2 = 63 := by decide +kernel
theorem e_X3_chance_63 : decode cX3_chance 63 = .ok (.iload 5, 2) ∧ 63 + 2 = 65 := by decide +kernel
theorem e_X3_chance_65 : decode cX3_chance 65 = .ok (.iload 7, 2) ∧ 65 + 2 = 67 := by decide +kernel
theorem e_X3_chance_67 : decode cX3_chance 67 = .ok (.invokestatic 70, 3) ∧ 67 + 3 = 70 := by decide +kernel
theorem e_X3_chance_70 : decode cX3_chance 70 = .ok (.ifCond .eq 7, 3) ∧ 70 + 3 = 73 ∧ ((70 : Nat) : Int) + (7) = ((77 : Nat) : Int) := by decide +kernel
theorem e_X3_chance_73 : decode cX3_chance 73 = .ok (.iload_n 2, 1) ∧ 73 + 1 = 74 := by decide +kernel
theorem e_X3_chance_74 : decode cX3_chance 74 = .ok (.goto 7, 3) ∧ 74 + 3 = 77 ∧ ((74 : Nat) : Int) + (7) = ((81 : Nat) : Int) := by decide +kernel
theorem e_X3_chance_77 : decode cX3_chance 77 = .ok (.bipush 10, 2) ∧ 77 + 2 = 79 := by decide +kernel
theorem e_X3_chance_79 : decode cX3_chance 79 = .ok (.iload_n 2, 1) ∧ 79 + 1 = 80 := by decide +kernel
theorem e_X3_chance_80 : decode cX3_chance 80 = .ok (.isub, 1) ∧ 80 + 1 = 81 := by decide +kernel
theorem e_X3_chance_81 : decode cX3_chance 81 = .ok (.imul, 1) ∧ 81 + 1 = 82 := by decide +kernel
theorem e_X3_chance_82 : decode cX3_chance 82 = .ok (.istore 6, 2) ∧ 82 + 2 = 84 := by decide +kernel
theorem e_X3_chance_84 : decode cX3_chance 84 = .ok (.iinc 7 1, 3) ∧ 84 + 3 = 87 := by decide +kernel
theorem e_X3_chance_87 : decode cX3_chance 87 = .ok (.goto (-35), 3) ∧ 87 + 3 = 90 ∧ ((87 : Nat) : Int) + (-35) = ((52 : Nat) : Int) := by decide +kernel
theorem e_X3_chance_90 : decode cX3_chance 90 = .ok (.aload_n 0, 1) ∧ 90 + 1 = 91 := by decide +kernel
theorem e_X3_chance_91 : decode cX3_chance 91 = .ok (.invokevirtual 151, 3) ∧ 91 + 3 = 94 := by decide +kernel
theorem e_X3_chance_94 : decode cX3_chance 94 = .ok (.aload_n 0, 1) ∧ 94 + 1 = 95 := by decide +kernel
theorem e_X3_chance_95 : decode cX3_chance 95 = .ok (.aload_n 0, 1) ∧ 95 + 1 = 96 := by decide +kernel
theorem e_X3_chance_96 : decode cX3_chance 96 = .ok (.getfield 45, 3) ∧ 96 + 3 = 99 := by decide +kernel
theorem e_X3_chance_99 : decode cX3_chance 99 = .ok (.iload 5, 2) ∧ 99 + 2 = 101 := by decide +kernel
theorem e_X3_chance_101 : decode cX3_chance 101 = .ok (.invokevirtual 168, 3) ∧ 101 + 3 = 104 := by decide +kernel
theorem e_X3_chance_104 : decode cX3_chance 104 = .ok (.iload 4, 2) ∧ 104 + 2 = 106 := by decide +kernel
theorem e_X3_chance_106 : decode cX3_chance 106 = .ok (.aload_n 0, 1) ∧ 106 + 1 = 107 := by decide +kernel
theorem e_X3_chance_107 : decode cX3_chance 107 = .ok (.getfield 45, 3) ∧ 107 + 3 = 110 := by decide +kernel
theorem e_X3_chance_110 : decode cX3_chance 110 = .ok (.bipush 48, 2) ∧ 110 + 2 = 112 := by decide +kernel
theorem e_X3_chance_112 : decode cX3_chance 112 = .ok (.iaload, 1) ∧ 112 + 1 = 113 := by decide +kernel
theorem e_X3_chance_113 : decode cX3_chance 113 = .ok (.iload_n 1, 1) ∧ 113 + 1 = 114 := by decide +kernel
theorem e_X3_chance_114 : decode cX3_chance 114 = .ok (.invokestatic 70, 3) ∧ 114 + 3 = 117 := by decide +kernel
theorem e_X3_chance_117 : decode cX3_chance 117 = .ok (.ifCond .eq 8, 3) ∧ 117 + 3 = 120 ∧ ((117 : Nat) : Int) + (8) = ((125 : Nat) : Int) := by decide +kernel
theorem e_X3_chance_120 : decode cX3_chance 120 = .ok (.iload 6, 2) ∧ 120 + 2 = 122 := by decide +kernel
theorem e_X3_chance_122 : decode cX3_chance 122 = .ok (.goto 4, 3) ∧ 122 + 3 = 125 ∧ ((122 : Nat) : Int) + (4) = ((126 : Nat) : Int) := by decide +kernel
theorem e_X3_chance_125 : decode cX3_chance 125 = .ok (.iconst 0, 1) ∧ 125 + 1 = 126 := by decide +kernel
theorem e_X3_chance_126 : decode cX3_chance 126 = .ok (.iadd, 1) ∧ 126 + 1 = 127 := by decide +kernel
theorem e_X3_chance_127 : decode cX3_chance 127 = .ok (.istore 4, 2) ∧ 127 + 2 = 129 := by decide +kernel
theorem e_X3_chance_129 : decode cX3_chance 129 = .ok (.iinc 5 1, 3) ∧ 129 + 3 = 132 := by decide +kernel
theorem e_X3_chance_132 : decode cX3_chance 132 = .ok (.goto (-97), 3) ∧ 132 + 3 = 135 ∧ ((132 : Nat) : Int) + (-97) = ((35 : Nat) : Int) := by decide +kernel
theorem e_X3_chance_135 : decode cX3_chance 135 = .ok (.aload_n 0, 1) ∧ 135 + 1 = 136 := by decide +kernel
theorem e_X3_chance_136 : decode cX3_chance 136 = .ok (.getfield 51, 3) ∧ 136 + 3 = 139 := by decide +kernel
theorem e_X3_chance_139 : decode cX3_chance 139 = .ok (.invokestatic 154, 3) ∧ 139 + 3 = 142 := by decide +kernel
theorem e_X3_chance_142 : decode cX3_chance 142 = .ok (.istore 5, 2) ∧ 142 + 2 = 144 := by decide +kernel
theorem e_X3_chance_144 : decode cX3_chance 144 = .ok (.iload 4, 2) ∧ 144 + 2 = 146 := by decide +kernel
theorem e_X3_chance_146 : decode cX3_chance 146 = .ok (.iload 5, 2) ∧ 146 + 2 = 148 := by decide +kernel
theorem e_X3_chance_148 : decode cX3_chance 148 = .ok (.invokestatic 176, 3) ∧ 148 + 3 = 151 := by decide +kernel
theorem e_X3_chance_151 : decode cX3_chance 151 = .ok (.istore 6, 2) ∧ 151 + 2 = 153 := by decide +kernel
theorem e_X3_chance_153 : decode cX3_chance 153 = .ok (.iload_n 3, 1) ∧ 153 + 1 = 154 := by decide +kernel
theorem e_X3_chance_154 : decode cX3_chance 154 = .ok (.ifCond .eq 11, 3) ∧ 154 + 3 = 157 ∧ ((154 : Nat) : Int) + (11) = ((165 : Nat) : Int) := by decide +kernel
theorem e_X3_chance_157 : decode cX3_chance 157 = .ok (.iload 4, 2) ∧ 157 + 2 = 159 := by decide +kernel
theorem e_X3_chance_159 : decode cX3_chance 159 = .ok (.iload 6, 2) ∧ 159 + 2 = 161 := by decide +kernel
theorem e_X3_chance_161 : decode cX3_chance 161 = .ok (.idiv, 1) ∧ 161 + 1 = 162 := by decide +kernel
theorem e_X3_chance_162 : decode cX3_chance 162 = .ok (.goto 8, 3) ∧ 162 + 3 = 165 ∧ ((162 : Nat) : Int) + (8) = ((170 : Nat) : Int) := by decide +kernel
theorem e_X3_chance_165 : decode cX3_chance 165 = .ok (.iload 5, 2) ∧ 165 + 2 = 167 := by decide +kernel
theorem e_X3_chance_167 : decode cX3_chance 167 = .ok (.iload 6, 2) ∧ 167 + 2 = 169 := by decide +kernel
theorem e_X3_chance_169 : decode cX3_chance 169 = .ok (.idiv, 1) ∧ 169 + 1 = 170 := by decide +kernel
theorem e_X3_chance_170 : decode cX3_chance 170 = .ok (.ireturn, 1) := by decide +kernel
theorem e_X3_seed_0 : decode cX3_seed 0 = .ok (.aload_n 0, 1) ∧ 0 + 1 = 1 := by decide +kernel
theorem e_X3_seed_1 : decode cX3_seed 1 = .ok (.iconst 0, 1) ∧ 1 + 1 = 2 := by decide +kernel
theorem e_X3_seed_2 : decode cX3_seed 2 = .ok (.putfield 48, 3) ∧ 2 + 3 = 5 := by decide +kernel
theorem e_X3_seed_5 : decode cX3_seed 5 = .ok (.aload_n 0, 1) ∧ 5 + 1 = 6 := by decide +kernel
theorem e_X3_seed_6 : decode cX3_seed 6 = .ok (.getfield 179, 3) ∧ 6 + 3 = 9 := by decide +kernel
theorem e_X3_seed_9 : decode cX3_seed 9 = .ok (.lstore_n 3, 1) ∧ 9 + 1 = 10 := by decide +kernel
theorem e_X3_seed_10 : decode cX3_seed 10 = .ok (.aload_n 0, 1) ∧ 10 + 1 = 11 := by decide +kernel
theorem e_X3_seed_11 : decode cX3_seed 11 = .ok (.lload_n 1, 1) ∧ 11 + 1 = 12 := by decide +kernel
theorem e_X3_seed_12 : decode cX3_seed 12 = .ok (.putfield 179, 3) ∧ 12 + 3 = 15 := by decide +kernel
theorem e_X3_seed_15 : decode cX3_seed 15 = .ok (.lload_n 3, 1) ∧ 15 + 1 = 16 := by decide +kernel
theorem e_X3_seed_16 : decode cX3_seed 16 = .ok (.lreturn, 1) := by decide +kernel
theorem e_X3_month_0 : decode cX3_month 0 = .ok (.aload_n 0, 1) ∧ 0 + 1 = 1 := by decide +kernel
theorem e_X3_month_1 : decode cX3_month 1 = .ok (.iconst 0, 1) ∧ 1 + 1 = 2 := by decide +kernel
theorem e_X3_month_2 : decode cX3_month 2 = .ok (.putfield 48, 3) ∧ 2 + 3 = 5 := by decide +kernel
theorem e_X3_month_5 : decode cX3_month 5 = .ok (.iload_n 1, 1) ∧ 5 + 1 = 6 := by decide +kernel
theorem e_X3_month_6 : decode cX3_month 6 = .ok (.i2l, 1) ∧ 6 + 1 = 7 := by decide +kernel
theorem e_X3_month_7 : decode cX3_month 7 = .ok (.lconst 1, 1) ∧ 7 + 1 = 8 := by decide +kernel
theorem e_X3_month_8 : decode cX3_month 8 = .ok (.ldc2_w 183, 3) ∧ 8 + 3 = 11 := by decide +kernel
theorem e_X3_month_11 : decode cX3_month 11 = .ok (.invokestatic 54, 3) ∧ 11 + 3 = 14 := by decide +kernel
theorem e_X3_month_14 : decode cX3_month 14 = .ok (.ifCond .eq 15, 3) ∧ 14 + 3 = 17 ∧ ((14 : Nat) : Int) + (15) = ((29 : Nat) : Int) := by decide +kernel
theorem e_X3_month_17 : decode cX3_month 17 = .ok (.iload_n 2, 1) ∧ 17 + 1 = 18 := by decide +kernel
theorem e_X3_month_18 : decode cX3_month 18 = .ok (.i2l, 1) ∧ 18 + 1 = 19 := by decide +kernel
theorem e_X3_month_19 : decode cX3_month 19 = .ok (.lconst 0, 1) ∧ 19 + 1 = 20 := by decide +kernel
theorem e_X3_month_20 : decode cX3_month 20 = .ok (.ldc2_w 174, 3) ∧ 20 + 3 = 23 := by decide +kernel
theorem e_X3_month_23 : decode cX3_month 23 = .ok (.invokestatic 54, 3) ∧ 23 + 3 = 26 := by decide +kernel
theorem e_X3_month_26 : decode cX3_month 26 = .ok (.ifCond .ne 6, 3) ∧ 26 + 3 = 29 ∧ ((26 : Nat) : Int) + (6) = ((32 : Nat) : Int) := by decide +kernel
theorem e_X3_month_29 : decode cX3_month 29 = .ok (.bipush (-2), 2) ∧ 29 + 2 = 31 := by decide +kernel
theorem e_X3_month_31 : decode cX3_month 31 = .ok (.ireturn, 1) := by decide +kernel
theorem e_X3_month_32 : decode cX3_month 32 = .ok (.aload_n 0, 1) ∧ 32 + 1 = 33 := by decide +kernel
theorem e_X3_month_33 : decode cX3_month 33 = .ok (.invokevirtual 151, 3) ∧ 33 + 3 = 36 := by decide +kernel
theorem e_X3_month_36 : decode cX3_month 36 = .ok (.iconst 0, 1) ∧ 36 + 1 = 37 := by decide +kernel
theorem e_X3_month_37 : decode cX3_month 37 = .ok (.istore_n 3, 1) ∧ 37 + 1 = 38 := by decide +kernel
theorem e_X3_month_38 : decode cX3_month 38 = .ok (.iload_n 3, 1) ∧ 38 + 1 = 39 := by decide +kernel
theorem e_X3_month_39 : decode cX3_month 39 = .ok (.iload_n 1, 1) ∧ 39 + 1 = 40 := by decide +kernel
theorem e_X3_month_40 : decode cX3_month 40 = .ok (.if_icmp .ge 95, 3) ∧ 40 + 3 = 43 ∧ ((40 : Nat) : Int) + (95) = ((135 : Nat) : Int) := by decide +kernel
theorem e_X3_month_43 : decode cX3_month 43 = .ok (.iconst 0, 1) ∧ 43 + 1 = 44 := by decide +kernel
theorem e_X3_month_44 : decode cX3_month 44 = .ok (.istore 4, 2) ∧ 44 + 2 = 46 := by decide +kernel
theorem e_X3_month_46 : decode cX3_month 46 = .ok (.iload 4, 2) ∧ 46 + 2 = 48 := by decide +kernel
theorem e_X3_month_48 : decode cX3_month 48 = .ok (.aload_n 0, 1) ∧ 48 + 1 = 49 := by decide +kernel
theorem e_X3_month_49 : decode cX3_month 49 = .ok (.getfield 51, 3) ∧ 49 + 3 = 52 := by decide +kernel
theorem e_X3_month_52 : decode cX3_month 52 = .ok (.if_icmp .ge 68, 3) ∧ 52 + 3 = 55 ∧ ((52 : Nat) : Int) + (68) = ((120 : Nat) : Int) := by decide +kernel
theorem e_X3_month_55 : decode cX3_month 55 = .ok (.aload_n 0, 1) ∧ 55 + 1 = 56 := by decide +kernel
theorem e_X3_month_56 : decode cX3_month 56 = .ok (.getfield 45, 3) ∧ 56 + 3 = 59 := by decide +kernel
theorem e_X3_month_59 : decode cX3_month 59 = .ok (.bipush 53, 2) ∧ 59 + 2 = 61 := by decide +kernel
theorem e_X3_month_61 : decode cX3_month 61 = .ok (.iaload, 1) ∧ 61 + 1 = 62 := by decide +kernel
theorem e_X3_month_62 : decode cX3_month 62 = .ok (.iload 4, 2) ∧ 62 + 2 = 64 := by decide +kernel
theorem e_X3_month_64 : decode cX3_month 64 = .ok (.invokestatic 70, 3) ∧ 64 + 3 = 67 := by decide +kernel
theorem e_X3_month_67 : decode cX3_month 67 = .ok (.ifCond .ne 47, 3) ∧ 67 + 3 = 70 ∧ ((67 : Nat) : Int) + (47) = ((114 : Nat) : Int) := by decide +kernel
theorem e_X3_month_70 : decode cX3_month 70 = .ok (.aload_n 0, 1) ∧ 70 + 1 = 71 := by decide +kernel
theorem e_X3_month_71 : decode cX3_month 71 = .ok (.aload_n 0, 1) ∧ 71 + 1 = 72 := by decide +kernel
theorem e_X3_month_72 : decode cX3_month 72 = .ok (.getfield 179, 3) ∧ 72 + 3 = 75 := by decide +kernel
theorem e_X3_month_75 : decode cX3_month 75 = .ok (.ldc2_w 185, 3) ∧ 75 + 3 = 78 := by decide +kernel
theorem e_X3_month_78 : decode cX3_month 78 = .ok (.lmul, 1) ∧ 78 + 1 = 79 := by decide +kernel
theorem e_X3_month_79 : decode cX3_month 79 = .ok (.ldc2_w 187, 3) ∧ 79 + 3 = 82 := by decide +kernel
theorem e_X3_month_82 : decode cX3_month 82 = .ok (.ladd, 1) ∧ 82 + 1 = 83 := by decide +kernel
theorem e_X3_month_83 : decode cX3_month 83 = .ok (.putfield 179, 3) ∧ 83 + 3 = 86 := by decide +kernel
theorem e_X3_month_86 : decode cX3_month 86 = .ok (.aload_n 0, 1) ∧ 86 + 1 = 87 := by decide +kernel
theorem e_X3_month_87 : decode cX3_month 87 = .ok (.getfield 179, 3) ∧ 87 + 3 = 90 := by decide +kernel
theorem e_X3_month_90 : decode cX3_month 90 = .ok (.bipush 33, 2) ∧ 90 + 2 = 92 := by decide +kernel
theorem e_X3_month_92 : decode cX3_month 92 = .ok (.lushr, 1) ∧ 92 + 1 = 93 := by decide +kernel
theorem e_X3_month_93 : decode cX3_month 93 = .ok (.ldc2_w 174, 3) ∧ 93 + 3 = 96 := by decide +kernel
theorem e_X3_month_96 : decode cX3_month 96 = .ok (.lrem, 1) ∧ 96 + 1 = 97 := by decide +kernel
theorem e_X3_month_97 : decode cX3_month 97 = .ok (.iload_n 2, 1) ∧ 97 + 1 = 98 := by decide +kernel
theorem e_X3_month_98 : decode cX3_month 98 = .ok (.i2l, 1) ∧ 98 + 1 = 99 := by decide +kernel
theorem e_X3_month_99 : decode cX3_month 99 = .ok (.lcmp, 1) ∧ 99 + 1 = 100 := by decide +kernel
theorem e_X3_month_100 : decode cX3_month 100 = .ok (.ifCond .ge 14, 3) ∧ 100 + 3 = 103 ∧ ((100 : Nat) : Int) + (14) = ((114 : Nat) : Int) := by decide +kernel
theorem e_X3_month_103 : decode cX3_month 103 = .ok (.aload_n 0, 1) ∧ 103 + 1 = 104 := by decide +kernel
theorem e_X3_month_104 : decode cX3_month 104 = .ok (.aload_n 0, 1) ∧ 104 + 1 = 105 := by decide +kernel
theorem e_X3_month_105 : decode cX3_month 105 = .ok (.getfield 45, 3) ∧ 105 + 3 = 108 := by decide +kernel
theorem e_X3_month_108 : decode cX3_month 108 = .ok (.iload 4, 2) ∧ 108 + 2 = 110 := by decide +kernel
theorem e_X3_month_110 : decode cX3_month 110 = .ok (.invokevirtual 145, 3) ∧ 110 + 3 = 113 := by decide +kernel
theorem e_X3_month_113 : decode cX3_month 113 = .ok (.pop, 1) ∧ 113 + 1 = 114 := by decide +kernel
theorem e_X3_month_114 : decode cX3_month 114 = .ok (.iinc 4 1, 3) ∧ 114 + 3 = 117 := by decide +kernel
theorem e_X3_month_117 : decode cX3_month 117 = .ok (.goto (-71), 3) ∧ 117 + 3 = 120 ∧ ((117 : Nat) : Int) + (-71) = ((46 : Nat) : Int) := by decide +kernel
theorem e_X3_month_120 : decode cX3_month 120 = .ok (.aload_n 0, 1) ∧ 120 + 1 = 121 := by decide +kernel
theorem e_X3_month_121 : decode cX3_month 121 = .ok (.aload_n 0, 1) ∧ 121 + 1 = 122 := by decide +kernel
theorem e_X3_month_122 : decode cX3_month 122 = .ok (.getfield 45, 3) ∧ 122 + 3 = 125 := by decide +kernel
theorem e_X3_month_125 : decode cX3_month 125 = .ok (.invokevirtual 148, 3) ∧ 125 + 3 = 128 := by decide +kernel
theorem e_X3_month_128 : decode cX3_month 128 = .ok (.pop, 1) ∧ 128 + 1 = 129 := by decide +kernel
theorem e_X3_month_129 : decode cX3_month 129 = .ok (.iinc 3 1, 3) ∧ 129 + 3 = 132 := by decide +kernel
theorem e_X3_month_132 : decode cX3_month 132 = .ok (.goto (-94), 3) ∧ 132 + 3 = 135 ∧ ((132 : Nat) : Int) + (-94) = ((38 : Nat) : Int) := by decide +kernel
theorem e_X3_month_135 : decode cX3_month 135 = .ok (.aload_n 0, 1) ∧ 135 + 1 = 136 := by decide +kernel
theorem e_X3_month_136 : decode cX3_month 136 = .ok (.getfield 45, 3) ∧ 136 + 3 = 139 := by decide +kernel
theorem e_X3_month_139 : decode cX3_month 139 = .ok (.bipush 54, 2) ∧ 139 + 2 = 141 := by decide +kernel
theorem e_X3_month_141 : decode cX3_month 141 = .ok (.iaload, 1) ∧ 141 + 1 = 142 := by decide +kernel
theorem e_X3_month_142 : decode cX3_month 142 = .ok (.ireturn, 1) := by decide +kernel
theorem e_X3_keep_0 : decode cX3_keep 0 = .ok (.aload_n 0, 1) ∧ 0 + 1 = 1 := by decide +kernel
theorem e_X3_keep_1 : decode cX3_keep 1 = .ok (.iconst 0, 1) ∧ 1 + 1 = 2 := by decide +kernel
theorem e_X3_keep_2 : decode cX3_keep 2 = .ok (.putfield 48, 3) ∧ 2 + 3 = 5 := by decide +kernel
theorem e_X3_keep_5 : decode cX3_keep 5 = .ok (.iload_n 1, 1) ∧ 5 + 1 = 6 := by decide +kernel
theorem e_X3_keep_6 : decode cX3_keep 6 = .ok (.i2l, 1) ∧ 6 + 1 = 7 := by decide +kernel
theorem e_X3_keep_7 : decode cX3_keep 7 = .ok (.lconst 0, 1) ∧ 7 + 1 = 8 := by decide +kernel
theorem e_X3_keep_8 : decode cX3_keep 8 = .ok (.lconst 1, 1) ∧ 8 + 1 = 9 := by decide +kernel
theorem e_X3_keep_9 : decode cX3_keep 9 = .ok (.invokestatic 54, 3) ∧ 9 + 3 = 12 := by decide +kernel
theorem e_X3_keep_12 : decode cX3_keep 12 = .ok (.ifCond .ne 5, 3) ∧ 12 + 3 = 15 ∧ ((12 : Nat) : Int) + (5) = ((17 : Nat) : Int) := by decide +kernel
theorem e_X3_keep_15 : decode cX3_keep 15 = .ok (.iconst (-1), 1) ∧ 15 + 1 = 16 := by decide +kernel
theorem e_X3_keep_16 : decode cX3_keep 16 = .ok (.ireturn, 1) := by decide +kernel
theorem e_X3_keep_17 : decode cX3_keep 17 = .ok (.aload_n 0, 1) ∧ 17 + 1 = 18 := by decide +kernel
theorem e_X3_keep_18 : decode cX3_keep 18 = .ok (.getfield 35, 3) ∧ 18 + 3 = 21 := by decide +kernel
theorem e_X3_keep_21 : decode cX3_keep 21 = .ok (.iload_n 1, 1) ∧ 21 + 1 = 22 := by decide +kernel
theorem e_X3_keep_22 : decode cX3_keep 22 = .ok (.iconst 1, 1) ∧ 22 + 1 = 23 := by decide +kernel
theorem e_X3_keep_23 : decode cX3_keep 23 = .ok (.bastore, 1) ∧ 23 + 1 = 24 := by decide +kernel
theorem e_X3_keep_24 : decode cX3_keep 24 = .ok (.iconst 0, 1) ∧ 24 + 1 = 25 := by decide +kernel
theorem e_X3_keep_25 : decode cX3_keep 25 = .ok (.istore_n 2, 1) ∧ 25 + 1 = 26 := by decide +kernel
theorem e_X3_keep_26 : decode cX3_keep 26 = .ok (.iload_n 2, 1) ∧ 26 + 1 = 27 := by decide +kernel
theorem e_X3_keep_27 : decode cX3_keep 27 = .ok (.bipush 58, 2) ∧ 27 + 2 = 29 := by decide +kernel
theorem e_X3_keep_29 : decode cX3_keep 29 = .ok (.if_icmp .ge 26, 3) ∧ 29 + 3 = 32 ∧ ((29 : Nat) : Int) + (26) = ((55 : Nat) : Int) := by decide +kernel
theorem e_X3_keep_32 : decode cX3_keep 32 = .ok (.aload_n 0, 1) ∧ 32 + 1 = 33 := by decide +kernel
theorem e_X3_keep_33 : decode cX3_keep 33 = .ok (.getfield 32, 3) ∧ 33 + 3 = 36 := by decide +kernel
theorem e_X3_keep_36 : decode cX3_keep 36 = .ok (.bipush 58, 2) ∧ 36 + 2 = 38 := by decide +kernel
theorem e_X3_keep_38 : decode cX3_keep 38 = .ok (.iload_n 1, 1) ∧ 38 + 1 = 39 := by decide +kernel
theorem e_X3_keep_39 : decode cX3_keep 39 = .ok (.imul, 1) ∧ 39 + 1 = 40 := by decide +kernel
theorem e_X3_keep_40 : decode cX3_keep 40 = .ok (.iload_n 2, 1) ∧ 40 + 1 = 41 := by decide +kernel
theorem e_X3_keep_41 : decode cX3_keep 41 = .ok (.iadd, 1) ∧ 41 + 1 = 42 := by decide +kernel
theorem e_X3_keep_42 : decode cX3_keep 42 = .ok (.aload_n 0, 1) ∧ 42 + 1 = 43 := by decide +kernel
theorem e_X3_keep_43 : decode cX3_keep 43 = .ok (.getfield 20, 3) ∧ 43 + 3 = 46 := by decide +kernel
theorem e_X3_keep_46 : decode cX3_keep 46 = .ok (.iload_n 2, 1) ∧ 46 + 1 = 47 := by decide +kernel
theorem e_X3_keep_47 : decode cX3_keep 47 = .ok (.iaload, 1) ∧ 47 + 1 = 48 := by decide +kernel
theorem e_X3_keep_48 : decode cX3_keep 48 = .ok (.iastore, 1) ∧ 48 + 1 = 49 := by decide +kernel
theorem e_X3_keep_49 : decode cX3_keep 49 = .ok (.iinc 2 1, 3) ∧ 49 + 3 = 52 := by decide +kernel
theorem e_X3_keep_52 : decode cX3_keep 52 = .ok (.goto (-26), 3) ∧ 52 + 3 = 55 ∧ ((52 : Nat) : Int) + (-26) = ((26 : Nat) : Int) := by decide +kernel
theorem e_X3_keep_55 : decode cX3_keep 55 = .ok (.aload_n 0, 1) ∧ 55 + 1 = 56 := by decide +kernel
theorem e_X3_keep_56 : decode cX3_keep 56 = .ok (.getfield 20, 3) ∧ 56 + 3 = 59 := by decide +kernel
theorem e_X3_keep_59 : decode cX3_keep 59 = .ok (.bipush 55, 2) ∧ 59 + 2 = 61 := by decide +kernel
theorem e_X3_keep_61 : decode cX3_keep 61 = .ok (.iaload, 1) ∧ 61 + 1 = 62 := by decide +kernel
theorem e_X3_keep_62 : decode cX3_keep 62 = .ok (.ireturn, 1) := by decide +kernel
theorem e_X3_again_0 : decode cX3_again 0 = .ok (.aload_n 0, 1) ∧ 0 + 1 = 1 := by decide +kernel
theorem e_X3_again_1 : decode cX3_again 1 = .ok (.iconst 0, 1) ∧ 1 + 1 = 2 := by decide +kernel
theorem e_X3_again_2 : decode cX3_again 2 = .ok (.putfield 48, 3) ∧ 2 + 3 = 5 := by decide +kernel
theorem e_X3_again_5 : decode cX3_again 5 = .ok (.iload_n 1, 1) ∧ 5 + 1 = 6 := by decide +kernel
theorem e_X3_again_6 : decode cX3_again 6 = .ok (.i2l, 1) ∧ 6 + 1 = 7 := by decide +kernel
theorem e_X3_again_7 : decode cX3_again 7 = .ok (.lconst 0, 1) ∧ 7 + 1 = 8 := by decide +kernel
theorem e_X3_again_8 : decode cX3_again 8 = .ok (.lconst 1, 1) ∧ 8 + 1 = 9 := by decide +kernel
theorem e_X3_again_9 : decode cX3_again 9 = .ok (.invokestatic 54, 3) ∧ 9 + 3 = 12 := by decide +kernel
theorem e_X3_again_12 : decode cX3_again 12 = .ok (.ifCond .ne 5, 3) ∧ 12 + 3 = 15 ∧ ((12 : Nat) : Int) + (5) = ((17 : Nat) : Int) := by decide +kernel
theorem e_X3_again_15 : decode cX3_again 15 = .ok (.iconst (-1), 1) ∧ 15 + 1 = 16 := by decide +kernel
theorem e_X3_again_16 : decode cX3_again 16 = .ok (.ireturn, 1) := by decide +kernel
theorem e_X3_again_17 : decode cX3_again 17 = .ok (.aload_n 0, 1) ∧ 17 + 1 = 18 := by decide +kernel
theorem e_X3_again_18 : decode cX3_again 18 = .ok (.getfield 35, 3) ∧ 18 + 3 = 21 := by decide +kernel
theorem e_X3_again_21 : decode cX3_again 21 = .ok (.iload_n 1, 1) ∧ 21 + 1 = 22 := by decide +kernel
theorem e_X3_again_22 : decode cX3_again 22 = .ok (.baload, 1) ∧ 22 + 1 = 23 := by decide +kernel
theorem e_X3_again_23 : decode cX3_again 23 = .ok (.ifCond .ne 6, 3) ∧ 23 + 3 = 26 ∧ ((23 : Nat) : Int) + (6) = ((29 : Nat) : Int) := by decide +kernel
theorem e_X3_again_26 : decode cX3_again 26 = .ok (.bipush (-3), 2) ∧ 26 + 2 = 28 := by decide +kernel
theorem e_X3_again_28 : decode cX3_again 28 = .ok (.ireturn, 1) := by decide +kernel
theorem e_X3_again_29 : decode cX3_again 29 = .ok (.iconst 0, 1) ∧ 29 + 1 = 30 := by decide +kernel
theorem e_X3_again_30 : decode cX3_again 30 = .ok (.istore_n 2, 1) ∧ 30 + 1 = 31 := by decide +kernel
theorem e_X3_again_31 : decode cX3_again 31 = .ok (.iload_n 2, 1) ∧ 31 + 1 = 32 := by decide +kernel
theorem e_X3_again_32 : decode cX3_again 32 = .ok (.bipush 58, 2) ∧ 32 + 2 = 34 := by decide +kernel
theorem e_X3_again_34 : decode cX3_again 34 = .ok (.if_icmp .ge 26, 3) ∧ 34 + 3 = 37 ∧ ((34 : Nat) : Int) + (26) = ((60 : Nat) : Int) := by decide +kernel
theorem e_X3_again_37 : decode cX3_again 37 = .ok (.aload_n 0, 1) ∧ 37 + 1 = 38 := by decide +kernel
theorem e_X3_again_38 : decode cX3_again 38 = .ok (.getfield 20, 3) ∧ 38 + 3 = 41 := by decide +kernel
theorem e_X3_again_41 : decode cX3_again 41 = .ok (.iload_n 2, 1) ∧ 41 + 1 = 42 := by decide +kernel
theorem e_X3_again_42 : decode cX3_again 42 = .ok (.aload_n 0, 1) ∧ 42 + 1 = 43 := by decide +kernel
theorem e_X3_again_43 : decode cX3_again 43 = .ok (.getfield 32, 3) ∧ 43 + 3 = 46 := by decide +kernel
theorem e_X3_again_46 : decode cX3_again 46 = .ok (.bipush 58, 2) ∧ 46 + 2 = 48 := by decide +kernel
theorem e_X3_again_48 : decode cX3_again 48 = .ok (.iload_n 1, 1) ∧ 48 + 1 = 49 := by decide +kernel
theorem e_X3_again_49 : decode cX3_again 49 = .ok (.imul, 1) ∧ 49 + 1 = 50 := by decide +kernel
theorem e_X3_again_50 : decode cX3_again 50 = .ok (.iload_n 2, 1) ∧ 50 + 1 = 51 := by decide +kernel
theorem e_X3_again_51 : decode cX3_again 51 = .ok (.iadd, 1) ∧ 51 + 1 = 52 := by decide +kernel
theorem e_X3_again_52 : decode cX3_again 52 = .ok (.iaload, 1) ∧ 52 + 1 = 53 := by decide +kernel
theorem e_X3_again_53 : decode cX3_again 53 = .ok (.iastore, 1) ∧ 53 + 1 = 54 := by decide +kernel
theorem e_X3_again_54 : decode cX3_again 54 = .ok (.iinc 2 1, 3) ∧ 54 + 3 = 57 := by decide +kernel
theorem e_X3_again_57 : decode cX3_again 57 = .ok (.goto (-26), 3) ∧ 57 + 3 = 60 ∧ ((57 : Nat) : Int) + (-26) = ((31 : Nat) : Int) := by decide +kernel
theorem e_X3_again_60 : decode cX3_again 60 = .ok (.aload_n 0, 1) ∧ 60 + 1 = 61 := by decide +kernel
theorem e_X3_again_61 : decode cX3_again 61 = .ok (.iconst 0, 1) ∧ 61 + 1 = 62 := by decide +kernel
theorem e_X3_again_62 : decode cX3_again 62 = .ok (.putfield 108, 3) ∧ 62 + 3 = 65 := by decide +kernel
theorem e_X3_again_65 : decode cX3_again 65 = .ok (.aload_n 0, 1) ∧ 65 + 1 = 66 := by decide +kernel
theorem e_X3_again_66 : decode cX3_again 66 = .ok (.getfield 20, 3) ∧ 66 + 3 = 69 := by decide +kernel
theorem e_X3_again_69 : decode cX3_again 69 = .ok (.bipush 55, 2) ∧ 69 + 2 = 71 := by decide +kernel
theorem e_X3_again_71 : decode cX3_again 71 = .ok (.iaload, 1) ∧ 71 + 1 = 72 := by decide +kernel
theorem e_X3_again_72 : decode cX3_again 72 = .ok (.ireturn, 1) := by decide +kernel
theorem e_J6_bitCount_0f7a4_0 : decode cJ6_bitCount_0f7a4 0 = .ok (.iload_n 0, 1) ∧ 0 + 1 = 1 := by decide +kernel
theorem e_J6_bitCount_0f7a4_1 : decode cJ6_bitCount_0f7a4 1 = .ok (.iload_n 0, 1) ∧ 1 + 1 = 2 := by decide +kernel
theorem e_J6_bitCount_0f7a4_2 : decode cJ6_bitCount_0f7a4 2 = .ok (.iconst 1, 1) ∧ 2 + 1 = 3 := by decide +kernel
theorem e_J6_bitCount_0f7a4_3 : decode cJ6_bitCount_0f7a4 3 = .ok (.iushr, 1) ∧ 3 + 1 = 4 := by decide +kernel
theorem e_J6_bitCount_0f7a4_4 : decode cJ6_bitCount_0f7a4 4 = .ok (.ldc_w 265, 3) ∧ 4 + 3 = 7 := by decide +kernel
theorem e_J6_bitCount_0f7a4_7 : decode cJ6_bitCount_0f7a4 7 = .ok (.iand, 1) ∧ 7 + 1 = 8 := by decide +kernel
theorem e_J6_bitCount_0f7a4_8 : decode cJ6_bitCount_0f7a4 8 = .ok (.isub, 1) ∧ 8 + 1 = 9 := by decide +kernel
theorem e_J6_bitCount_0f7a4_9 : decode cJ6_bitCount_0f7a4 9 = .ok (.istore_n 0, 1) ∧ 9 + 1 = 10 := by decide +kernel
theorem e_J6_bitCount_0f7a4_10 : decode cJ6_bitCount_0f7a4 10 = .ok (.iload_n 0, 1) ∧ 10 + 1 = 11 := by decide +kernel
theorem e_J6_bitCount_0f7a4_11 : decode cJ6_bitCount_0f7a4 11 = .ok (.ldc_w 266, 3) ∧ 11 + 3 = 14 := by decide +kernel
theorem e_J6_bitCount_0f7a4_14 : decode cJ6_bitCount_0f7a4 14 = .ok (.iand, 1) ∧ 14 + 1 = 15 := by decide +kernel
theorem e_J6_bitCount_0f7a4_15 : decode cJ6_bitCount_0f7a4 15 = .ok (.iload_n 0, 1) ∧ 15 + 1 = 16 := by decide +kernel
theorem e_J6_bitCount_0f7a4_16 : decode cJ6_bitCount_0f7a4 16 = .ok (.iconst 2, 1) ∧ 16 + 1 = 17 := by decide +kernel
theorem e_J6_bitCount_0f7a4_17 : decode cJ6_bitCount_0f7a4 17 = .ok (.iushr, 1) ∧ 17 + 1 = 18 := by decide +kernel
theorem e_J6_bitCount_0f7a4_18 : decode cJ6_bitCount_0f7a4 18 = .ok (.ldc_w 266, 3) ∧ 18 + 3 = 21 := by decide +kernel
theorem e_J6_bitCount_0f7a4_21 : decode cJ6_bitCount_0f7a4 21 = .ok (.iand, 1) ∧ 21 + 1 = 22 := by decide +kernel
theorem e_J6_bitCount_0f7a4_22 : decode cJ6_bitCount_0f7a4 22 = .ok (.iadd, 1) ∧ 22 + 1 = 23 := by decide +kernel
theorem e_J6_bitCount_0f7a4_23 : decode cJ6_bitCount_0f7a4 23 = .ok (.istore_n 0, 1) ∧ 23 + 1 = 24 := by decide +kernel
theorem e_J6_bitCount_0f7a4_24 : decode cJ6_bitCount_0f7a4 24 = .ok (.iload_n 0, 1) ∧ 24 + 1 = 25 := by decide +kernel
theorem e_J6_bitCount_0f7a4_25 : decode cJ6_bitCount_0f7a4 25 = .ok (.iload_n 0, 1) ∧ 25 + 1 = 26 := by decide +kernel
theorem e_J6_bitCount_0f7a4_26 : decode cJ6_bitCount_0f7a4 26 = .ok (.iconst 4, 1) ∧ 26 + 1 = 27 := by decide +kernel
theorem e_J6_bitCount_0f7a4_27 : decode cJ6_bitCount_0f7a4 27 = .ok (.iushr, 1) ∧ 27 + 1 = 28 := by decide +kernel
theorem e_J6_bitCount_0f7a4_28 : decode cJ6_bitCount_0f7a4 28 = .ok (.iadd, 1) ∧ 28 + 1 = 29 := by decide +kernel
theorem e_J6_bitCount_0f7a4_29 : decode cJ6_bitCount_0f7a4 29 = .ok (.ldc_w 267, 3) ∧ 29 + 3 = 32 := by decide +kernel
theorem e_J6_bitCount_0f7a4_32 : decode cJ6_bitCount_0f7a4 32 = .ok (.iand, 1) ∧ 32 + 1 = 33 := by decide +kernel
theorem e_J6_bitCount_0f7a4_33 : decode cJ6_bitCount_0f7a4 33 = .ok (.istore_n 0, 1) ∧ 33 + 1 = 34 := by decide +kernel
theorem e_J6_bitCount_0f7a4_34 : decode cJ6_bitCount_0f7a4 34 = .ok (.iload_n 0, 1) ∧ 34 + 1 = 35 := by decide +kernel
theorem e_J6_bitCount_0f7a4_35 : decode cJ6_bitCount_0f7a4 35 = .ok (.iload_n 0, 1) ∧ 35 + 1 = 36 := by decide +kernel
theorem e_J6_bitCount_0f7a4_36 : decode cJ6_bitCount_0f7a4 36 = .ok (.bipush 8, 2) ∧ 36 + 2 = 38 := by decide +kernel
theorem e_J6_bitCount_0f7a4_38 : decode cJ6_bitCount_0f7a4 38 = .ok (.iushr, 1) ∧ 38 + 1 = 39 := by decide +kernel
theorem e_J6_bitCount_0f7a4_39 : decode cJ6_bitCount_0f7a4 39 = .ok (.iadd, 1) ∧ 39 + 1 = 40 := by decide +kernel
theorem e_J6_bitCount_0f7a4_40 : decode cJ6_bitCount_0f7a4 40 = .ok (.istore_n 0, 1) ∧ 40 + 1 = 41 := by decide +kernel
theorem e_J6_bitCount_0f7a4_41 : decode cJ6_bitCount_0f7a4 41 = .ok (.iload_n 0, 1) ∧ 41 + 1 = 42 := by decide +kernel
theorem e_J6_bitCount_0f7a4_42 : decode cJ6_bitCount_0f7a4 42 = .ok (.iload_n 0, 1) ∧ 42 + 1 = 43 := by decide +kernel
theorem e_J6_bitCount_0f7a4_43 : decode cJ6_bitCount_0f7a4 43 = .ok (.bipush 16, 2) ∧ 43 + 2 = 45 := by decide +kernel
theorem e_J6_bitCount_0f7a4_45 : decode cJ6_bitCount_0f7a4 45 = .ok (.iushr, 1) ∧ 45 + 1 = 46 := by decide +kernel
theorem e_J6_bitCount_0f7a4_46 : decode cJ6_bitCount_0f7a4 46 = .ok (.iadd, 1) ∧ 46 + 1 = 47 := by decide +kernel
theorem e_J6_bitCount_0f7a4_47 : decode cJ6_bitCount_0f7a4 47 = .ok (.istore_n 0, 1) ∧ 47 + 1 = 48 := by decide +kernel
theorem e_J6_bitCount_0f7a4_48 : decode cJ6_bitCount_0f7a4 48 = .ok (.iload_n 0, 1) ∧ 48 + 1 = 49 := by decide +kernel
theorem e_J6_bitCount_0f7a4_49 : decode cJ6_bitCount_0f7a4 49 = .ok (.bipush 63, 2) ∧ 49 + 2 = 51 := by decide +kernel
theorem e_J6_bitCount_0f7a4_51 : decode cJ6_bitCount_0f7a4 51 = .ok (.iand, 1) ∧ 51 + 1 = 52 := by decide +kernel
theorem e_J6_bitCount_0f7a4_52 : decode cJ6_bitCount_0f7a4 52 = .ok (.ireturn, 1) := by decide +kernel
theorem e_J9_max_7cf53_0 : decode cJ9_max_7cf53 0 = .ok (.iload_n 0, 1) ∧ 0 + 1 = 1 := by decide +kernel
theorem e_J9_max_7cf53_1 : decode cJ9_max_7cf53 1 = .ok (.iload_n 1, 1) ∧ 1 + 1 = 2 := by decide +kernel
theorem e_J9_max_7cf53_2 : decode cJ9_max_7cf53 2 = .ok (.if_icmp .lt 7, 3) ∧ 2 + 3 = 5 ∧ ((2 : Nat) : Int) + (7) = ((9 : Nat) : Int) := by decide +kernel
theorem e_J9_max_7cf53_5 : decode cJ9_max_7cf53 5 = .ok (.iload_n 0, 1) ∧ 5 + 1 = 6 := by decide +kernel
theorem e_J9_max_7cf53_6 : decode cJ9_max_7cf53 6 = .ok (.goto 4, 3) ∧ 6 + 3 = 9 ∧ ((6 : Nat) : Int) + (4) = ((10 : Nat) : Int) := by decide +kernel
theorem e_J9_max_7cf53_9 : decode cJ9_max_7cf53 9 = .ok (.iload_n 1, 1) ∧ 9 + 1 = 10 := by decide +kernel
theorem e_J9_max_7cf53_10 : decode cJ9_max_7cf53 10 = .ok (.ireturn, 1) := by decide +kernel
theorem e_J9_min_7cf53_0 : decode cJ9_min_7cf53 0 = .ok (.iload_n 0, 1) ∧ 0 + 1 = 1 := by decide +kernel
theorem e_J9_min_7cf53_1 : decode cJ9_min_7cf53 1 = .ok (.iload_n 1, 1) ∧ 1 + 1 = 2 := by decide +kernel
theorem e_J9_min_7cf53_2 : decode cJ9_min_7cf53 2 = .ok (.if_icmp .gt 7, 3) ∧ 2 + 3 = 5 ∧ ((2 : Nat) : Int) + (7) = ((9 : Nat) : Int) := by decide +kernel
theorem e_J9_min_7cf53_5 : decode cJ9_min_7cf53 5 = .ok (.iload_n 0, 1) ∧ 5 + 1 = 6 := by decide +kernel
theorem e_J9_min_7cf53_6 : decode cJ9_min_7cf53 6 = .ok (.goto 4, 3) ∧ 6 + 3 = 9 ∧ ((6 : Nat) : Int) + (4) = ((10 : Nat) : Int) := by decide +kernel
theorem e_J9_min_7cf53_9 : decode cJ9_min_7cf53 9 = .ok (.iload_n 1, 1) ∧ 9 + 1 = 10 := by decide +kernel
theorem e_J9_min_7cf53_10 : decode cJ9_min_7cf53 10 = .ok (.ireturn, 1) := by decide +kernel
theorem e_L_law_0 : decode cL_law 0 = .ok (.new 7, 3) ∧ 0 + 3 = 3 := by decide +kernel
theorem e_L_law_3 : decode cL_law 3 = .ok (.dup, 1) ∧ 3 + 1 = 4 := by decide +kernel
theorem e_L_law_4 : decode cL_law 4 = .ok (.invokespecial 9, 3) ∧ 4 + 3 = 7 := by decide +kernel
theorem e_L_law_7 : decode cL_law 7 = .ok (.astore_n 1, 1) ∧ 7 + 1 = 8 := by decide +kernel
theorem e_L_law_8 : decode cL_law 8 = .ok (.new 10, 3) ∧ 8 + 3 = 11 := by decide +kernel
theorem e_L_law_11 : decode cL_law 11 = .ok (.dup, 1) ∧ 11 + 1 = 12 := by decide +kernel
theorem e_L_law_12 : decode cL_law 12 = .ok (.invokespecial 12, 3) ∧ 12 + 3 = 15 := by decide +kernel
theorem e_L_law_15 : decode cL_law 15 = .ok (.astore_n 2, 1) ∧ 15 + 1 = 16 := by decide +kernel
theorem e_L_law_16 : decode cL_law 16 = .ok (.iconst 0, 1) ∧ 16 + 1 = 17 := by decide +kernel
theorem e_L_law_17 : decode cL_law 17 = .ok (.istore_n 3, 1) ∧ 17 + 1 = 18 := by decide +kernel
theorem e_L_law_18 : decode cL_law 18 = .ok (.iload_n 3, 1) ∧ 18 + 1 = 19 := by decide +kernel
theorem e_L_law_19 : decode cL_law 19 = .ok (.aload_n 0, 1) ∧ 19 + 1 = 20 := by decide +kernel
theorem e_L_law_20 : decode cL_law 20 = .ok (.arraylength, 1) ∧ 20 + 1 = 21 := by decide +kernel
theorem e_L_law_21 : decode cL_law 21 = .ok (.iconst 4, 1) ∧ 21 + 1 = 22 := by decide +kernel
theorem e_L_law_22 : decode cL_law 22 = .ok (.isub, 1) ∧ 22 + 1 = 23 := by decide +kernel
theorem e_L_law_23 : decode cL_law 23 = .ok (.if_icmp .gt 867, 3) ∧ 23 + 3 = 26 ∧ ((23 : Nat) : Int) + (867) = ((890 : Nat) : Int) := by decide +kernel
theorem e_L_law_26 : decode cL_law 26 = .ok (.aload_n 0, 1) ∧ 26 + 1 = 27 := by decide +kernel
theorem e_L_law_27 : decode cL_law 27 = .ok (.iload_n 3, 1) ∧ 27 + 1 = 28 := by decide +kernel
theorem e_L_law_28 : decode cL_law 28 = .ok (.iaload, 1) ∧ 28 + 1 = 29 := by decide +kernel
theorem e_L_law_29 : decode cL_law 29 = .ok (.bipush 31, 2) ∧ 29 + 2 = 31 := by decide +kernel
theorem e_L_law_31 : decode cL_law 31 = .ok (.iand, 1) ∧ 31 + 1 = 32 := by decide +kernel
theorem e_L_law_32 : decode cL_law 32 = .ok (.tableswitch 852 0 26 #[124, 187, 200, 213, 226, 249, 282, 315, 338, 361, 384, 417, 430, 443, 466, 499, 522, 555, 568, 591, 624, 637, 660, 719, 773, 806, 829], 124) := by decide +kernel
theorem e_L_law_156 : decode cL_law 156 = .ok (.aload_n 1, 1) ∧ 156 + 1 = 157 := by decide +kernel
theorem e_L_law_157 : decode cL_law 157 = .ok (.aload_n 0, 1) ∧ 157 + 1 = 158 := by decide +kernel
theorem e_L_law_158 : decode cL_law 158 = .ok (.iload_n 3, 1) ∧ 158 + 1 = 159 := by decide +kernel
theorem e_L_law_159 : decode cL_law 159 = .ok (.iconst 1, 1) ∧ 159 + 1 = 160 := by decide +kernel
theorem e_L_law_160 : decode cL_law 160 = .ok (.iadd, 1) ∧ 160 + 1 = 161 := by decide +kernel
theorem e_L_law_161 : decode cL_law 161 = .ok (.iaload, 1) ∧ 161 + 1 = 162 := by decide +kernel
theorem e_L_law_162 : decode cL_law 162 = .ok (.aload_n 0, 1) ∧ 162 + 1 = 163 := by decide +kernel
theorem e_L_law_163 : decode cL_law 163 = .ok (.iload_n 3, 1) ∧ 163 + 1 = 164 := by decide +kernel
theorem e_L_law_164 : decode cL_law 164 = .ok (.iconst 2, 1) ∧ 164 + 1 = 165 := by decide +kernel
theorem e_L_law_165 : decode cL_law 165 = .ok (.iadd, 1) ∧ 165 + 1 = 166 := by decide +kernel
theorem e_L_law_166 : decode cL_law 166 = .ok (.iaload, 1) ∧ 166 + 1 = 167 := by decide +kernel
theorem e_L_law_167 : decode cL_law 167 = .ok (.i2l, 1) ∧ 167 + 1 = 168 := by decide +kernel
theorem e_L_law_168 : decode cL_law 168 = .ok (.bipush 32, 2) ∧ 168 + 2 = 170 := by decide +kernel
theorem e_L_law_170 : decode cL_law 170 = .ok (.lshl, 1) ∧ 170 + 1 = 171 := by decide +kernel
theorem e_L_law_171 : decode cL_law 171 = .ok (.aload_n 0, 1) ∧ 171 + 1 = 172 := by decide +kernel
theorem e_L_law_172 : decode cL_law 172 = .ok (.iload_n 3, 1) ∧ 172 + 1 = 173 := by decide +kernel
theorem e_L_law_173 : decode cL_law 173 = .ok (.iconst 3, 1) ∧ 173 + 1 = 174 := by decide +kernel
theorem e_L_law_174 : decode cL_law 174 = .ok (.iadd, 1) ∧ 174 + 1 = 175 := by decide +kernel
theorem e_L_law_175 : decode cL_law 175 = .ok (.iaload, 1) ∧ 175 + 1 = 176 := by decide +kernel
theorem e_L_law_176 : decode cL_law 176 = .ok (.i2l, 1) ∧ 176 + 1 = 177 := by decide +kernel
theorem e_L_law_177 : decode cL_law 177 = .ok (.ldc2_w 13, 3) ∧ 177 + 3 = 180 := by decide +kernel
theorem e_L_law_180 : decode cL_law 180 = .ok (.land, 1) ∧ 180 + 1 = 181 := by decide +kernel
theorem e_L_law_181 : decode cL_law 181 = .ok (.lor, 1) ∧ 181 + 1 = 182 := by decide +kernel
theorem e_L_law_182 : decode cL_law 182 = .ok (.invokevirtual 15, 3) ∧ 182 + 3 = 185 := by decide +kernel
theorem e_L_law_185 : decode cL_law 185 = .ok (.aload_n 2, 1) ∧ 185 + 1 = 186 := by decide +kernel
theorem e_L_law_186 : decode cL_law 186 = .ok (.aload_n 0, 1) ∧ 186 + 1 = 187 := by decide +kernel
theorem e_L_law_187 : decode cL_law 187 = .ok (.iload_n 3, 1) ∧ 187 + 1 = 188 := by decide +kernel
theorem e_L_law_188 : decode cL_law 188 = .ok (.iconst 1, 1) ∧ 188 + 1 = 189 := by decide +kernel
theorem e_L_law_189 : decode cL_law 189 = .ok (.iadd, 1) ∧ 189 + 1 = 190 := by decide +kernel
theorem e_L_law_190 : decode cL_law 190 = .ok (.iaload, 1) ∧ 190 + 1 = 191 := by decide +kernel
theorem e_L_law_191 : decode cL_law 191 = .ok (.aload_n 0, 1) ∧ 191 + 1 = 192 := by decide +kernel
theorem e_L_law_192 : decode cL_law 192 = .ok (.iload_n 3, 1) ∧ 192 + 1 = 193 := by decide +kernel
theorem e_L_law_193 : decode cL_law 193 = .ok (.iconst 2, 1) ∧ 193 + 1 = 194 := by decide +kernel
theorem e_L_law_194 : decode cL_law 194 = .ok (.iadd, 1) ∧ 194 + 1 = 195 := by decide +kernel
theorem e_L_law_195 : decode cL_law 195 = .ok (.iaload, 1) ∧ 195 + 1 = 196 := by decide +kernel
theorem e_L_law_196 : decode cL_law 196 = .ok (.i2l, 1) ∧ 196 + 1 = 197 := by decide +kernel
theorem e_L_law_197 : decode cL_law 197 = .ok (.bipush 32, 2) ∧ 197 + 2 = 199 := by decide +kernel
theorem e_L_law_199 : decode cL_law 199 = .ok (.lshl, 1) ∧ 199 + 1 = 200 := by decide +kernel
theorem e_L_law_200 : decode cL_law 200 = .ok (.aload_n 0, 1) ∧ 200 + 1 = 201 := by decide +kernel
theorem e_L_law_201 : decode cL_law 201 = .ok (.iload_n 3, 1) ∧ 201 + 1 = 202 := by decide +kernel
theorem e_L_law_202 : decode cL_law 202 = .ok (.iconst 3, 1) ∧ 202 + 1 = 203 := by decide +kernel
theorem e_L_law_203 : decode cL_law 203 = .ok (.iadd, 1) ∧ 203 + 1 = 204 := by decide +kernel
theorem e_L_law_204 : decode cL_law 204 = .ok (.iaload, 1) ∧ 204 + 1 = 205 := by decide +kernel
theorem e_L_law_205 : decode cL_law 205 = .ok (.i2l, 1) ∧ 205 + 1 = 206 := by decide +kernel
theorem e_L_law_206 : decode cL_law 206 = .ok (.ldc2_w 13, 3) ∧ 206 + 3 = 209 := by decide +kernel
theorem e_L_law_209 : decode cL_law 209 = .ok (.land, 1) ∧ 209 + 1 = 210 := by decide +kernel
theorem e_L_law_210 : decode cL_law 210 = .ok (.lor, 1) ∧ 210 + 1 = 211 := by decide +kernel
theorem e_L_law_211 : decode cL_law 211 = .ok (.invokevirtual 19, 3) ∧ 211 + 3 = 214 := by decide +kernel
theorem e_L_law_214 : decode cL_law 214 = .ok (.if_icmp .eq 670, 3) ∧ 214 + 3 = 217 ∧ ((214 : Nat) : Int) + (670) = ((884 : Nat) : Int) := by decide +kernel
theorem e_L_law_217 : decode cL_law 217 = .ok (.iconst 0, 1) ∧ 217 + 1 = 218 := by decide +kernel
theorem e_L_law_218 : decode cL_law 218 = .ok (.ireturn, 1) := by decide +kernel
theorem e_L_law_219 : decode cL_law 219 = .ok (.aload_n 1, 1) ∧ 219 + 1 = 220 := by decide +kernel
theorem e_L_law_220 : decode cL_law 220 = .ok (.invokevirtual 20, 3) ∧ 220 + 3 = 223 := by decide +kernel
theorem e_L_law_223 : decode cL_law 223 = .ok (.aload_n 2, 1) ∧ 223 + 1 = 224 := by decide +kernel
theorem e_L_law_224 : decode cL_law 224 = .ok (.invokevirtual 24, 3) ∧ 224 + 3 = 227 := by decide +kernel
theorem e_L_law_227 : decode cL_law 227 = .ok (.if_icmp .eq 657, 3) ∧ 227 + 3 = 230 ∧ ((227 : Nat) : Int) + (657) = ((884 : Nat) : Int) := by decide +kernel
theorem e_L_law_230 : decode cL_law 230 = .ok (.iconst 0, 1) ∧ 230 + 1 = 231 := by decide +kernel
theorem e_L_law_231 : decode cL_law 231 = .ok (.ireturn, 1) := by decide +kernel
theorem e_L_law_232 : decode cL_law 232 = .ok (.aload_n 1, 1) ∧ 232 + 1 = 233 := by decide +kernel
theorem e_L_law_233 : decode cL_law 233 = .ok (.invokevirtual 25, 3) ∧ 233 + 3 = 236 := by decide +kernel
theorem e_L_law_236 : decode cL_law 236 = .ok (.aload_n 2, 1) ∧ 236 + 1 = 237 := by decide +kernel
theorem e_L_law_237 : decode cL_law 237 = .ok (.invokevirtual 28, 3) ∧ 237 + 3 = 240 := by decide +kernel
theorem e_L_law_240 : decode cL_law 240 = .ok (.if_icmp .eq 644, 3) ∧ 240 + 3 = 243 ∧ ((240 : Nat) : Int) + (644) = ((884 : Nat) : Int) := by decide +kernel
theorem e_L_law_243 : decode cL_law 243 = .ok (.iconst 0, 1) ∧ 243 + 1 = 244 := by decide +kernel
theorem e_L_law_244 : decode cL_law 244 = .ok (.ireturn, 1) := by decide +kernel
theorem e_L_law_245 : decode cL_law 245 = .ok (.aload_n 1, 1) ∧ 245 + 1 = 246 := by decide +kernel
theorem e_L_law_246 : decode cL_law 246 = .ok (.invokevirtual 29, 3) ∧ 246 + 3 = 249 := by decide +kernel
theorem e_L_law_249 : decode cL_law 249 = .ok (.aload_n 2, 1) ∧ 249 + 1 = 250 := by decide +kernel
theorem e_L_law_250 : decode cL_law 250 = .ok (.invokevirtual 32, 3) ∧ 250 + 3 = 253 := by decide +kernel
theorem e_L_law_253 : decode cL_law 253 = .ok (.if_icmp .eq 631, 3) ∧ 253 + 3 = 256 ∧ ((253 : Nat) : Int) + (631) = ((884 : Nat) : Int) := by decide +kernel
theorem e_L_law_256 : decode cL_law 256 = .ok (.iconst 0, 1) ∧ 256 + 1 = 257 := by decide +kernel
theorem e_L_law_257 : decode cL_law 257 = .ok (.ireturn, 1) := by decide +kernel
theorem e_L_law_258 : decode cL_law 258 = .ok (.aload_n 1, 1) ∧ 258 + 1 = 259 := by decide +kernel
theorem e_L_law_259 : decode cL_law 259 = .ok (.aload_n 0, 1) ∧ 259 + 1 = 260 := by decide +kernel
theorem e_L_law_260 : decode cL_law 260 = .ok (.iload_n 3, 1) ∧ 260 + 1 = 261 := by decide +kernel
theorem e_L_law_261 : decode cL_law 261 = .ok (.iconst 1, 1) ∧ 261 + 1 = 262 := by decide +kernel
theorem e_L_law_262 : decode cL_law 262 = .ok (.iadd, 1) ∧ 262 + 1 = 263 := by decide +kernel
theorem e_L_law_263 : decode cL_law 263 = .ok (.iaload, 1) ∧ 263 + 1 = 264 := by decide +kernel
theorem e_L_law_264 : decode cL_law 264 = .ok (.invokevirtual 33, 3) ∧ 264 + 3 = 267 := by decide +kernel
theorem e_L_law_267 : decode cL_law 267 = .ok (.aload_n 2, 1) ∧ 267 + 1 = 268 := by decide +kernel
theorem e_L_law_268 : decode cL_law 268 = .ok (.aload_n 0, 1) ∧ 268 + 1 = 269 := by decide +kernel
theorem e_L_law_269 : decode cL_law 269 = .ok (.iload_n 3, 1) ∧ 269 + 1 = 270 := by decide +kernel
theorem e_L_law_270 : decode cL_law 270 = .ok (.iconst 1, 1) ∧ 270 + 1 = 271 := by decide +kernel
theorem e_L_law_271 : decode cL_law 271 = .ok (.iadd, 1) ∧ 271 + 1 = 272 := by decide +kernel
theorem e_L_law_272 : decode cL_law 272 = .ok (.iaload, 1) ∧ 272 + 1 = 273 := by decide +kernel
theorem e_L_law_273 : decode cL_law 273 = .ok (.invokevirtual 37, 3) ∧ 273 + 3 = 276 := by decide +kernel
theorem e_L_law_276 : decode cL_law 276 = .ok (.if_icmp .eq 608, 3) ∧ 276 + 3 = 279 ∧ ((276 : Nat) : Int) + (608) = ((884 : Nat) : Int) := by decide +kernel
theorem e_L_law_279 : decode cL_law 279 = .ok (.iconst 0, 1) ∧ 279 + 1 = 280 := by decide +kernel
theorem e_L_law_280 : decode cL_law 280 = .ok (.ireturn, 1) := by decide +kernel
theorem e_L_law_281 : decode cL_law 281 = .ok (.aload_n 1, 1) ∧ 281 + 1 = 282 := by decide +kernel
theorem e_L_law_282 : decode cL_law 282 = .ok (.aload_n 0, 1) ∧ 282 + 1 = 283 := by decide +kernel
theorem e_L_law_283 : decode cL_law 283 = .ok (.iload_n 3, 1) ∧ 283 + 1 = 284 := by decide +kernel
theorem e_L_law_284 : decode cL_law 284 = .ok (.iconst 1, 1) ∧ 284 + 1 = 285 := by decide +kernel
theorem e_L_law_285 : decode cL_law 285 = .ok (.iadd, 1) ∧ 285 + 1 = 286 := by decide +kernel
theorem e_L_law_286 : decode cL_law 286 = .ok (.iaload, 1) ∧ 286 + 1 = 287 := by decide +kernel
theorem e_L_law_287 : decode cL_law 287 = .ok (.aload_n 0, 1) ∧ 287 + 1 = 288 := by decide +kernel
theorem e_L_law_288 : decode cL_law 288 = .ok (.iload_n 3, 1) ∧ 288 + 1 = 289 := by decide +kernel
theorem e_L_law_289 : decode cL_law 289 = .ok (.iconst 2, 1) ∧ 289 + 1 = 290 := by decide +kernel
theorem e_L_law_290 : decode cL_law 290 = .ok (.iadd, 1) ∧ 290 + 1 = 291 := by decide +kernel
theorem e_L_law_291 : decode cL_law 291 = .ok (.iaload, 1) ∧ 291 + 1 = 292 := by decide +kernel
theorem e_L_law_292 : decode cL_law 292 = .ok (.invokevirtual 38, 3) ∧ 292 + 3 = 295 := by decide +kernel
theorem e_L_law_295 : decode cL_law 295 = .ok (.aload_n 2, 1) ∧ 295 + 1 = 296 := by decide +kernel
theorem e_L_law_296 : decode cL_law 296 = .ok (.aload_n 0, 1) ∧ 296 + 1 = 297 := by decide +kernel
theorem e_L_law_297 : decode cL_law 297 = .ok (.iload_n 3, 1) ∧ 297 + 1 = 298 := by decide +kernel
theorem e_L_law_298 : decode cL_law 298 = .ok (.iconst 1, 1) ∧ 298 + 1 = 299 := by decide +kernel
theorem e_L_law_299 : decode cL_law 299 = .ok (.iadd, 1) ∧ 299 + 1 = 300 := by decide +kernel
theorem e_L_law_300 : decode cL_law 300 = .ok (.iaload, 1) ∧ 300 + 1 = 301 := by decide +kernel
theorem e_L_law_301 : decode cL_law 301 = .ok (.aload_n 0, 1) ∧ 301 + 1 = 302 := by decide +kernel
theorem e_L_law_302 : decode cL_law 302 = .ok (.iload_n 3, 1) ∧ 302 + 1 = 303 := by decide +kernel
theorem e_L_law_303 : decode cL_law 303 = .ok (.iconst 2, 1) ∧ 303 + 1 = 304 := by decide +kernel
theorem e_L_law_304 : decode cL_law 304 = .ok (.iadd, 1) ∧ 304 + 1 = 305 := by decide +kernel
theorem e_L_law_305 : decode cL_law 305 = .ok (.iaload, 1) ∧ 305 + 1 = 306 := by decide +kernel
theorem e_L_law_306 : decode cL_law 306 = .ok (.invokevirtual 42, 3) ∧ 306 + 3 = 309 := by decide +kernel
theorem e_L_law_309 : decode cL_law 309 = .ok (.if_icmp .eq 575, 3) ∧ 309 + 3 = 312 ∧ ((309 : Nat) : Int) + (575) = ((884 : Nat) : Int) := by decide +kernel
theorem e_L_law_312 : decode cL_law 312 = .ok (.iconst 0, 1) ∧ 312 + 1 = 313 := by decide +kernel
theorem e_L_law_313 : decode cL_law 313 = .ok (.ireturn, 1) := by decide +kernel
theorem e_L_law_314 : decode cL_law 314 = .ok (.aload_n 1, 1) ∧ 314 + 1 = 315 := by decide +kernel
theorem e_L_law_315 : decode cL_law 315 = .ok (.aload_n 0, 1) ∧ 315 + 1 = 316 := by decide +kernel
theorem e_L_law_316 : decode cL_law 316 = .ok (.iload_n 3, 1) ∧ 316 + 1 = 317 := by decide +kernel
theorem e_L_law_317 : decode cL_law 317 = .ok (.iconst 1, 1) ∧ 317 + 1 = 318 := by decide +kernel
theorem e_L_law_318 : decode cL_law 318 = .ok (.iadd, 1) ∧ 318 + 1 = 319 := by decide +kernel
theorem e_L_law_319 : decode cL_law 319 = .ok (.iaload, 1) ∧ 319 + 1 = 320 := by decide +kernel
theorem e_L_law_320 : decode cL_law 320 = .ok (.aload_n 0, 1) ∧ 320 + 1 = 321 := by decide +kernel
theorem e_L_law_321 : decode cL_law 321 = .ok (.iload_n 3, 1) ∧ 321 + 1 = 322 := by decide +kernel
theorem e_L_law_322 : decode cL_law 322 = .ok (.iconst 2, 1) ∧ 322 + 1 = 323 := by decide +kernel
theorem e_L_law_323 : decode cL_law 323 = .ok (.iadd, 1) ∧ 323 + 1 = 324 := by decide +kernel
theorem e_L_law_324 : decode cL_law 324 = .ok (.iaload, 1) ∧ 324 + 1 = 325 := by decide +kernel
theorem e_L_law_325 : decode cL_law 325 = .ok (.invokevirtual 43, 3) ∧ 325 + 3 = 328 := by decide +kernel
theorem e_L_law_328 : decode cL_law 328 = .ok (.aload_n 2, 1) ∧ 328 + 1 = 329 := by decide +kernel
theorem e_L_law_329 : decode cL_law 329 = .ok (.aload_n 0, 1) ∧ 329 + 1 = 330 := by decide +kernel
theorem e_L_law_330 : decode cL_law 330 = .ok (.iload_n 3, 1) ∧ 330 + 1 = 331 := by decide +kernel
theorem e_L_law_331 : decode cL_law 331 = .ok (.iconst 1, 1) ∧ 331 + 1 = 332 := by decide +kernel
theorem e_L_law_332 : decode cL_law 332 = .ok (.iadd, 1) ∧ 332 + 1 = 333 := by decide +kernel
theorem e_L_law_333 : decode cL_law 333 = .ok (.iaload, 1) ∧ 333 + 1 = 334 := by decide +kernel
theorem e_L_law_334 : decode cL_law 334 = .ok (.aload_n 0, 1) ∧ 334 + 1 = 335 := by decide +kernel
theorem e_L_law_335 : decode cL_law 335 = .ok (.iload_n 3, 1) ∧ 335 + 1 = 336 := by decide +kernel
theorem e_L_law_336 : decode cL_law 336 = .ok (.iconst 2, 1) ∧ 336 + 1 = 337 := by decide +kernel
theorem e_L_law_337 : decode cL_law 337 = .ok (.iadd, 1) ∧ 337 + 1 = 338 := by decide +kernel
theorem e_L_law_338 : decode cL_law 338 = .ok (.iaload, 1) ∧ 338 + 1 = 339 := by decide +kernel
theorem e_L_law_339 : decode cL_law 339 = .ok (.invokevirtual 46, 3) ∧ 339 + 3 = 342 := by decide +kernel
theorem e_L_law_342 : decode cL_law 342 = .ok (.if_icmp .eq 542, 3) ∧ 342 + 3 = 345 ∧ ((342 : Nat) : Int) + (542) = ((884 : Nat) : Int) := by decide +kernel
theorem e_L_law_345 : decode cL_law 345 = .ok (.iconst 0, 1) ∧ 345 + 1 = 346 := by decide +kernel
theorem e_L_law_346 : decode cL_law 346 = .ok (.ireturn, 1) := by decide +kernel
theorem e_L_law_347 : decode cL_law 347 = .ok (.aload_n 1, 1) ∧ 347 + 1 = 348 := by decide +kernel
theorem e_L_law_348 : decode cL_law 348 = .ok (.aload_n 0, 1) ∧ 348 + 1 = 349 := by decide +kernel
theorem e_L_law_349 : decode cL_law 349 = .ok (.iload_n 3, 1) ∧ 349 + 1 = 350 := by decide +kernel
theorem e_L_law_350 : decode cL_law 350 = .ok (.iconst 1, 1) ∧ 350 + 1 = 351 := by decide +kernel
theorem e_L_law_351 : decode cL_law 351 = .ok (.iadd, 1) ∧ 351 + 1 = 352 := by decide +kernel
theorem e_L_law_352 : decode cL_law 352 = .ok (.iaload, 1) ∧ 352 + 1 = 353 := by decide +kernel
theorem e_L_law_353 : decode cL_law 353 = .ok (.invokevirtual 47, 3) ∧ 353 + 3 = 356 := by decide +kernel
theorem e_L_law_356 : decode cL_law 356 = .ok (.aload_n 2, 1) ∧ 356 + 1 = 357 := by decide +kernel
theorem e_L_law_357 : decode cL_law 357 = .ok (.aload_n 0, 1) ∧ 357 + 1 = 358 := by decide +kernel
theorem e_L_law_358 : decode cL_law 358 = .ok (.iload_n 3, 1) ∧ 358 + 1 = 359 := by decide +kernel
theorem e_L_law_359 : decode cL_law 359 = .ok (.iconst 1, 1) ∧ 359 + 1 = 360 := by decide +kernel
theorem e_L_law_360 : decode cL_law 360 = .ok (.iadd, 1) ∧ 360 + 1 = 361 := by decide +kernel
theorem e_L_law_361 : decode cL_law 361 = .ok (.iaload, 1) ∧ 361 + 1 = 362 := by decide +kernel
theorem e_L_law_362 : decode cL_law 362 = .ok (.invokevirtual 50, 3) ∧ 362 + 3 = 365 := by decide +kernel
theorem e_L_law_365 : decode cL_law 365 = .ok (.if_icmp .eq 519, 3) ∧ 365 + 3 = 368 ∧ ((365 : Nat) : Int) + (519) = ((884 : Nat) : Int) := by decide +kernel
theorem e_L_law_368 : decode cL_law 368 = .ok (.iconst 0, 1) ∧ 368 + 1 = 369 := by decide +kernel
theorem e_L_law_369 : decode cL_law 369 = .ok (.ireturn, 1) := by decide +kernel
theorem e_L_law_370 : decode cL_law 370 = .ok (.aload_n 1, 1) ∧ 370 + 1 = 371 := by decide +kernel
theorem e_L_law_371 : decode cL_law 371 = .ok (.aload_n 0, 1) ∧ 371 + 1 = 372 := by decide +kernel
theorem e_L_law_372 : decode cL_law 372 = .ok (.iload_n 3, 1) ∧ 372 + 1 = 373 := by decide +kernel
theorem e_L_law_373 : decode cL_law 373 = .ok (.iconst 1, 1) ∧ 373 + 1 = 374 := by decide +kernel
theorem e_L_law_374 : decode cL_law 374 = .ok (.iadd, 1) ∧ 374 + 1 = 375 := by decide +kernel
theorem e_L_law_375 : decode cL_law 375 = .ok (.iaload, 1) ∧ 375 + 1 = 376 := by decide +kernel
theorem e_L_law_376 : decode cL_law 376 = .ok (.invokevirtual 51, 3) ∧ 376 + 3 = 379 := by decide +kernel
theorem e_L_law_379 : decode cL_law 379 = .ok (.aload_n 2, 1) ∧ 379 + 1 = 380 := by decide +kernel
theorem e_L_law_380 : decode cL_law 380 = .ok (.aload_n 0, 1) ∧ 380 + 1 = 381 := by decide +kernel
theorem e_L_law_381 : decode cL_law 381 = .ok (.iload_n 3, 1) ∧ 381 + 1 = 382 := by decide +kernel
theorem e_L_law_382 : decode cL_law 382 = .ok (.iconst 1, 1) ∧ 382 + 1 = 383 := by decide +kernel
theorem e_L_law_383 : decode cL_law 383 = .ok (.iadd, 1) ∧ 383 + 1 = 384 := by decide +kernel
theorem e_L_law_384 : decode cL_law 384 = .ok (.iaload, 1) ∧ 384 + 1 = 385 := by decide +kernel
theorem e_L_law_385 : decode cL_law 385 = .ok (.invokevirtual 54, 3) ∧ 385 + 3 = 388 := by decide +kernel
theorem e_L_law_388 : decode cL_law 388 = .ok (.if_icmp .eq 496, 3) ∧ 388 + 3 = 391 ∧ ((388 : Nat) : Int) + (496) = ((884 : Nat) : Int) := by decide +kernel
theorem e_L_law_391 : decode cL_law 391 = .ok (.iconst 0, 1) ∧ 391 + 1 = 392 := by decide +kernel
theorem e_L_law_392 : decode cL_law 392 = .ok (.ireturn, 1) := by decide +kernel
theorem e_L_law_393 : decode cL_law 393 = .ok (.aload_n 1, 1) ∧ 393 + 1 = 394 := by decide +kernel
theorem e_L_law_394 : decode cL_law 394 = .ok (.aload_n 0, 1) ∧ 394 + 1 = 395 := by decide +kernel
theorem e_L_law_395 : decode cL_law 395 = .ok (.iload_n 3, 1) ∧ 395 + 1 = 396 := by decide +kernel
theorem e_L_law_396 : decode cL_law 396 = .ok (.iconst 1, 1) ∧ 396 + 1 = 397 := by decide +kernel
theorem e_L_law_397 : decode cL_law 397 = .ok (.iadd, 1) ∧ 397 + 1 = 398 := by decide +kernel
theorem e_L_law_398 : decode cL_law 398 = .ok (.iaload, 1) ∧ 398 + 1 = 399 := by decide +kernel
theorem e_L_law_399 : decode cL_law 399 = .ok (.invokevirtual 55, 3) ∧ 399 + 3 = 402 := by decide +kernel
theorem e_L_law_402 : decode cL_law 402 = .ok (.aload_n 2, 1) ∧ 402 + 1 = 403 := by decide +kernel
theorem e_L_law_403 : decode cL_law 403 = .ok (.aload_n 0, 1) ∧ 403 + 1 = 404 := by decide +kernel
theorem e_L_law_404 : decode cL_law 404 = .ok (.iload_n 3, 1) ∧ 404 + 1 = 405 := by decide +kernel
theorem e_L_law_405 : decode cL_law 405 = .ok (.iconst 1, 1) ∧ 405 + 1 = 406 := by decide +kernel
theorem e_L_law_406 : decode cL_law 406 = .ok (.iadd, 1) ∧ 406 + 1 = 407 := by decide +kernel
theorem e_L_law_407 : decode cL_law 407 = .ok (.iaload, 1) ∧ 407 + 1 = 408 := by decide +kernel
theorem e_L_law_408 : decode cL_law 408 = .ok (.invokevirtual 58, 3) ∧ 408 + 3 = 411 := by decide +kernel
theorem e_L_law_411 : decode cL_law 411 = .ok (.if_icmp .eq 473, 3) ∧ 411 + 3 = 414 ∧ ((411 : Nat) : Int) + (473) = ((884 : Nat) : Int) := by decide +kernel
theorem e_L_law_414 : decode cL_law 414 = .ok (.iconst 0, 1) ∧ 414 + 1 = 415 := by decide +kernel
theorem e_L_law_415 : decode cL_law 415 = .ok (.ireturn, 1) := by decide +kernel
theorem e_L_law_416 : decode cL_law 416 = .ok (.aload_n 1, 1) ∧ 416 + 1 = 417 := by decide +kernel
theorem e_L_law_417 : decode cL_law 417 = .ok (.aload_n 0, 1) ∧ 417 + 1 = 418 := by decide +kernel
theorem e_L_law_418 : decode cL_law 418 = .ok (.iload_n 3, 1) ∧ 418 + 1 = 419 := by decide +kernel
theorem e_L_law_419 : decode cL_law 419 = .ok (.iconst 1, 1) ∧ 419 + 1 = 420 := by decide +kernel
theorem e_L_law_420 : decode cL_law 420 = .ok (.iadd, 1) ∧ 420 + 1 = 421 := by decide +kernel
theorem e_L_law_421 : decode cL_law 421 = .ok (.iaload, 1) ∧ 421 + 1 = 422 := by decide +kernel
theorem e_L_law_422 : decode cL_law 422 = .ok (.aload_n 0, 1) ∧ 422 + 1 = 423 := by decide +kernel
theorem e_L_law_423 : decode cL_law 423 = .ok (.iload_n 3, 1) ∧ 423 + 1 = 424 := by decide +kernel
theorem e_L_law_424 : decode cL_law 424 = .ok (.iconst 2, 1) ∧ 424 + 1 = 425 := by decide +kernel
theorem e_L_law_425 : decode cL_law 425 = .ok (.iadd, 1) ∧ 425 + 1 = 426 := by decide +kernel
theorem e_L_law_426 : decode cL_law 426 = .ok (.iaload, 1) ∧ 426 + 1 = 427 := by decide +kernel
theorem e_L_law_427 : decode cL_law 427 = .ok (.invokevirtual 59, 3) ∧ 427 + 3 = 430 := by decide +kernel
theorem e_L_law_430 : decode cL_law 430 = .ok (.aload_n 2, 1) ∧ 430 + 1 = 431 := by decide +kernel
theorem e_L_law_431 : decode cL_law 431 = .ok (.aload_n 0, 1) ∧ 431 + 1 = 432 := by decide +kernel
theorem e_L_law_432 : decode cL_law 432 = .ok (.iload_n 3, 1) ∧ 432 + 1 = 433 := by decide +kernel
theorem e_L_law_433 : decode cL_law 433 = .ok (.iconst 1, 1) ∧ 433 + 1 = 434 := by decide +kernel
theorem e_L_law_434 : decode cL_law 434 = .ok (.iadd, 1) ∧ 434 + 1 = 435 := by decide +kernel
theorem e_L_law_435 : decode cL_law 435 = .ok (.iaload, 1) ∧ 435 + 1 = 436 := by decide +kernel
theorem e_L_law_436 : decode cL_law 436 = .ok (.aload_n 0, 1) ∧ 436 + 1 = 437 := by decide +kernel
theorem e_L_law_437 : decode cL_law 437 = .ok (.iload_n 3, 1) ∧ 437 + 1 = 438 := by decide +kernel
theorem e_L_law_438 : decode cL_law 438 = .ok (.iconst 2, 1) ∧ 438 + 1 = 439 := by decide +kernel
theorem e_L_law_439 : decode cL_law 439 = .ok (.iadd, 1) ∧ 439 + 1 = 440 := by decide +kernel
theorem e_L_law_440 : decode cL_law 440 = .ok (.iaload, 1) ∧ 440 + 1 = 441 := by decide +kernel
theorem e_L_law_441 : decode cL_law 441 = .ok (.invokevirtual 62, 3) ∧ 441 + 3 = 444 := by decide +kernel
theorem e_L_law_444 : decode cL_law 444 = .ok (.if_icmp .eq 440, 3) ∧ 444 + 3 = 447 ∧ ((444 : Nat) : Int) + (440) = ((884 : Nat) : Int) := by decide +kernel
theorem e_L_law_447 : decode cL_law 447 = .ok (.iconst 0, 1) ∧ 447 + 1 = 448 := by decide +kernel
theorem e_L_law_448 : decode cL_law 448 = .ok (.ireturn, 1) := by decide +kernel
theorem e_L_law_449 : decode cL_law 449 = .ok (.aload_n 1, 1) ∧ 449 + 1 = 450 := by decide +kernel
theorem e_L_law_450 : decode cL_law 450 = .ok (.invokevirtual 63, 3) ∧ 450 + 3 = 453 := by decide +kernel
theorem e_L_law_453 : decode cL_law 453 = .ok (.aload_n 2, 1) ∧ 453 + 1 = 454 := by decide +kernel
theorem e_L_law_454 : decode cL_law 454 = .ok (.invokevirtual 66, 3) ∧ 454 + 3 = 457 := by decide +kernel
theorem e_L_law_457 : decode cL_law 457 = .ok (.if_icmp .eq 427, 3) ∧ 457 + 3 = 460 ∧ ((457 : Nat) : Int) + (427) = ((884 : Nat) : Int) := by decide +kernel
theorem e_L_law_460 : decode cL_law 460 = .ok (.iconst 0, 1) ∧ 460 + 1 = 461 := by decide +kernel
theorem e_L_law_461 : decode cL_law 461 = .ok (.ireturn, 1) := by decide +kernel
theorem e_L_law_462 : decode cL_law 462 = .ok (.aload_n 1, 1) ∧ 462 + 1 = 463 := by decide +kernel
theorem e_L_law_463 : decode cL_law 463 = .ok (.invokevirtual 67, 3) ∧ 463 + 3 = 466 := by decide +kernel
theorem e_L_law_466 : decode cL_law 466 = .ok (.aload_n 2, 1) ∧ 466 + 1 = 467 := by decide +kernel
theorem e_L_law_467 : decode cL_law 467 = .ok (.invokevirtual 70, 3) ∧ 467 + 3 = 470 := by decide +kernel
theorem e_L_law_470 : decode cL_law 470 = .ok (.if_icmp .eq 414, 3) ∧ 470 + 3 = 473 ∧ ((470 : Nat) : Int) + (414) = ((884 : Nat) : Int) := by decide +kernel
theorem e_L_law_473 : decode cL_law 473 = .ok (.iconst 0, 1) ∧ 473 + 1 = 474 := by decide +kernel
theorem e_L_law_474 : decode cL_law 474 = .ok (.ireturn, 1) := by decide +kernel
theorem e_L_law_475 : decode cL_law 475 = .ok (.aload_n 1, 1) ∧ 475 + 1 = 476 := by decide +kernel
theorem e_L_law_476 : decode cL_law 476 = .ok (.aload_n 0, 1) ∧ 476 + 1 = 477 := by decide +kernel
theorem e_L_law_477 : decode cL_law 477 = .ok (.iload_n 3, 1) ∧ 477 + 1 = 478 := by decide +kernel
theorem e_L_law_478 : decode cL_law 478 = .ok (.iconst 1, 1) ∧ 478 + 1 = 479 := by decide +kernel
theorem e_L_law_479 : decode cL_law 479 = .ok (.iadd, 1) ∧ 479 + 1 = 480 := by decide +kernel
theorem e_L_law_480 : decode cL_law 480 = .ok (.iaload, 1) ∧ 480 + 1 = 481 := by decide +kernel
theorem e_L_law_481 : decode cL_law 481 = .ok (.invokevirtual 71, 3) ∧ 481 + 3 = 484 := by decide +kernel
theorem e_L_law_484 : decode cL_law 484 = .ok (.aload_n 2, 1) ∧ 484 + 1 = 485 := by decide +kernel
theorem e_L_law_485 : decode cL_law 485 = .ok (.aload_n 0, 1) ∧ 485 + 1 = 486 := by decide +kernel
theorem e_L_law_486 : decode cL_law 486 = .ok (.iload_n 3, 1) ∧ 486 + 1 = 487 := by decide +kernel
theorem e_L_law_487 : decode cL_law 487 = .ok (.iconst 1, 1) ∧ 487 + 1 = 488 := by decide +kernel
theorem e_L_law_488 : decode cL_law 488 = .ok (.iadd, 1) ∧ 488 + 1 = 489 := by decide +kernel
theorem e_L_law_489 : decode cL_law 489 = .ok (.iaload, 1) ∧ 489 + 1 = 490 := by decide +kernel
theorem e_L_law_490 : decode cL_law 490 = .ok (.invokevirtual 74, 3) ∧ 490 + 3 = 493 := by decide +kernel
theorem e_L_law_493 : decode cL_law 493 = .ok (.if_icmp .eq 391, 3) ∧ 493 + 3 = 496 ∧ ((493 : Nat) : Int) + (391) = ((884 : Nat) : Int) := by decide +kernel
theorem e_L_law_496 : decode cL_law 496 = .ok (.iconst 0, 1) ∧ 496 + 1 = 497 := by decide +kernel
theorem e_L_law_497 : decode cL_law 497 = .ok (.ireturn, 1) := by decide +kernel
theorem e_L_law_498 : decode cL_law 498 = .ok (.aload_n 1, 1) ∧ 498 + 1 = 499 := by decide +kernel
theorem e_L_law_499 : decode cL_law 499 = .ok (.aload_n 0, 1) ∧ 499 + 1 = 500 := by decide +kernel
theorem e_L_law_500 : decode cL_law 500 = .ok (.iload_n 3, 1) ∧ 500 + 1 = 501 := by decide +kernel
theorem e_L_law_501 : decode cL_law 501 = .ok (.iconst 1, 1) ∧ 501 + 1 = 502 := by decide +kernel
theorem e_L_law_502 : decode cL_law 502 = .ok (.iadd, 1) ∧ 502 + 1 = 503 := by decide +kernel
theorem e_L_law_503 : decode cL_law 503 = .ok (.iaload, 1) ∧ 503 + 1 = 504 := by decide +kernel
theorem e_L_law_504 : decode cL_law 504 = .ok (.aload_n 0, 1) ∧ 504 + 1 = 505 := by decide +kernel
theorem e_L_law_505 : decode cL_law 505 = .ok (.iload_n 3, 1) ∧ 505 + 1 = 506 := by decide +kernel
theorem e_L_law_506 : decode cL_law 506 = .ok (.iconst 2, 1) ∧ 506 + 1 = 507 := by decide +kernel
theorem e_L_law_507 : decode cL_law 507 = .ok (.iadd, 1) ∧ 507 + 1 = 508 := by decide +kernel
theorem e_L_law_508 : decode cL_law 508 = .ok (.iaload, 1) ∧ 508 + 1 = 509 := by decide +kernel
theorem e_L_law_509 : decode cL_law 509 = .ok (.invokevirtual 75, 3) ∧ 509 + 3 = 512 := by decide +kernel
theorem e_L_law_512 : decode cL_law 512 = .ok (.aload_n 2, 1) ∧ 512 + 1 = 513 := by decide +kernel
theorem e_L_law_513 : decode cL_law 513 = .ok (.aload_n 0, 1) ∧ 513 + 1 = 514 := by decide +kernel
theorem e_L_law_514 : decode cL_law 514 = .ok (.iload_n 3, 1) ∧ 514 + 1 = 515 := by decide +kernel
theorem e_L_law_515 : decode cL_law 515 = .ok (.iconst 1, 1) ∧ 515 + 1 = 516 := by decide +kernel
theorem e_L_law_516 : decode cL_law 516 = .ok (.iadd, 1) ∧ 516 + 1 = 517 := by decide +kernel
theorem e_L_law_517 : decode cL_law 517 = .ok (.iaload, 1) ∧ 517 + 1 = 518 := by decide +kernel
theorem e_L_law_518 : decode cL_law 518 = .ok (.aload_n 0, 1) ∧ 518 + 1 = 519 := by decide +kernel
theorem e_L_law_519 : decode cL_law 519 = .ok (.iload_n 3, 1) ∧ 519 + 1 = 520 := by decide +kernel
theorem e_L_law_520 : decode cL_law 520 = .ok (.iconst 2, 1) ∧ 520 + 1 = 521 := by decide +kernel
theorem e_L_law_521 : decode cL_law 521 = .ok (.iadd, 1) ∧ 521 + 1 = 522 := by decide +kernel
theorem e_L_law_522 : decode cL_law 522 = .ok (.iaload, 1) ∧ 522 + 1 = 523 := by decide +kernel
theorem e_L_law_523 : decode cL_law 523 = .ok (.invokevirtual 78, 3) ∧ 523 + 3 = 526 := by decide +kernel
theorem e_L_law_526 : decode cL_law 526 = .ok (.if_icmp .eq 358, 3) ∧ 526 + 3 = 529 ∧ ((526 : Nat) : Int) + (358) = ((884 : Nat) : Int) := by decide +kernel
theorem e_L_law_529 : decode cL_law 529 = .ok (.iconst 0, 1) ∧ 529 + 1 = 530 := by decide +kernel
theorem e_L_law_530 : decode cL_law 530 = .ok (.ireturn, 1) := by decide +kernel
theorem e_L_law_531 : decode cL_law 531 = .ok (.aload_n 1, 1) ∧ 531 + 1 = 532 := by decide +kernel
theorem e_L_law_532 : decode cL_law 532 = .ok (.aload_n 0, 1) ∧ 532 + 1 = 533 := by decide +kernel
theorem e_L_law_533 : decode cL_law 533 = .ok (.iload_n 3, 1) ∧ 533 + 1 = 534 := by decide +kernel
theorem e_L_law_534 : decode cL_law 534 = .ok (.iconst 1, 1) ∧ 534 + 1 = 535 := by decide +kernel
theorem e_L_law_535 : decode cL_law 535 = .ok (.iadd, 1) ∧ 535 + 1 = 536 := by decide +kernel
theorem e_L_law_536 : decode cL_law 536 = .ok (.iaload, 1) ∧ 536 + 1 = 537 := by decide +kernel
theorem e_L_law_537 : decode cL_law 537 = .ok (.invokevirtual 79, 3) ∧ 537 + 3 = 540 := by decide +kernel
theorem e_L_law_540 : decode cL_law 540 = .ok (.aload_n 2, 1) ∧ 540 + 1 = 541 := by decide +kernel
theorem e_L_law_541 : decode cL_law 541 = .ok (.aload_n 0, 1) ∧ 541 + 1 = 542 := by decide +kernel
theorem e_L_law_542 : decode cL_law 542 = .ok (.iload_n 3, 1) ∧ 542 + 1 = 543 := by decide +kernel
theorem e_L_law_543 : decode cL_law 543 = .ok (.iconst 1, 1) ∧ 543 + 1 = 544 := by decide +kernel
theorem e_L_law_544 : decode cL_law 544 = .ok (.iadd, 1) ∧ 544 + 1 = 545 := by decide +kernel
theorem e_L_law_545 : decode cL_law 545 = .ok (.iaload, 1) ∧ 545 + 1 = 546 := by decide +kernel
theorem e_L_law_546 : decode cL_law 546 = .ok (.invokevirtual 82, 3) ∧ 546 + 3 = 549 := by decide +kernel
theorem e_L_law_549 : decode cL_law 549 = .ok (.if_icmp .eq 335, 3) ∧ 549 + 3 = 552 ∧ ((549 : Nat) : Int) + (335) = ((884 : Nat) : Int) := by decide +kernel
theorem e_L_law_552 : decode cL_law 552 = .ok (.iconst 0, 1) ∧ 552 + 1 = 553 := by decide +kernel
theorem e_L_law_553 : decode cL_law 553 = .ok (.ireturn, 1) := by decide +kernel
theorem e_L_law_554 : decode cL_law 554 = .ok (.aload_n 1, 1) ∧ 554 + 1 = 555 := by decide +kernel
theorem e_L_law_555 : decode cL_law 555 = .ok (.aload_n 0, 1) ∧ 555 + 1 = 556 := by decide +kernel
theorem e_L_law_556 : decode cL_law 556 = .ok (.iload_n 3, 1) ∧ 556 + 1 = 557 := by decide +kernel
theorem e_L_law_557 : decode cL_law 557 = .ok (.iconst 1, 1) ∧ 557 + 1 = 558 := by decide +kernel
theorem e_L_law_558 : decode cL_law 558 = .ok (.iadd, 1) ∧ 558 + 1 = 559 := by decide +kernel
theorem e_L_law_559 : decode cL_law 559 = .ok (.iaload, 1) ∧ 559 + 1 = 560 := by decide +kernel
theorem e_L_law_560 : decode cL_law 560 = .ok (.aload_n 0, 1) ∧ 560 + 1 = 561 := by decide +kernel
theorem e_L_law_561 : decode cL_law 561 = .ok (.iload_n 3, 1) ∧ 561 + 1 = 562 := by decide +kernel
theorem e_L_law_562 : decode cL_law 562 = .ok (.iconst 2, 1) ∧ 562 + 1 = 563 := by decide +kernel
theorem e_L_law_563 : decode cL_law 563 = .ok (.iadd, 1) ∧ 563 + 1 = 564 := by decide +kernel
theorem e_L_law_564 : decode cL_law 564 = .ok (.iaload, 1) ∧ 564 + 1 = 565 := by decide +kernel
theorem e_L_law_565 : decode cL_law 565 = .ok (.invokevirtual 83, 3) ∧ 565 + 3 = 568 := by decide +kernel
theorem e_L_law_568 : decode cL_law 568 = .ok (.aload_n 2, 1) ∧ 568 + 1 = 569 := by decide +kernel
theorem e_L_law_569 : decode cL_law 569 = .ok (.aload_n 0, 1) ∧ 569 + 1 = 570 := by decide +kernel
theorem e_L_law_570 : decode cL_law 570 = .ok (.iload_n 3, 1) ∧ 570 + 1 = 571 := by decide +kernel
theorem e_L_law_571 : decode cL_law 571 = .ok (.iconst 1, 1) ∧ 571 + 1 = 572 := by decide +kernel
theorem e_L_law_572 : decode cL_law 572 = .ok (.iadd, 1) ∧ 572 + 1 = 573 := by decide +kernel
theorem e_L_law_573 : decode cL_law 573 = .ok (.iaload, 1) ∧ 573 + 1 = 574 := by decide +kernel
theorem e_L_law_574 : decode cL_law 574 = .ok (.aload_n 0, 1) ∧ 574 + 1 = 575 := by decide +kernel
theorem e_L_law_575 : decode cL_law 575 = .ok (.iload_n 3, 1) ∧ 575 + 1 = 576 := by decide +kernel
theorem e_L_law_576 : decode cL_law 576 = .ok (.iconst 2, 1) ∧ 576 + 1 = 577 := by decide +kernel
theorem e_L_law_577 : decode cL_law 577 = .ok (.iadd, 1) ∧ 577 + 1 = 578 := by decide +kernel
theorem e_L_law_578 : decode cL_law 578 = .ok (.iaload, 1) ∧ 578 + 1 = 579 := by decide +kernel
theorem e_L_law_579 : decode cL_law 579 = .ok (.invokevirtual 86, 3) ∧ 579 + 3 = 582 := by decide +kernel
theorem e_L_law_582 : decode cL_law 582 = .ok (.if_icmp .eq 302, 3) ∧ 582 + 3 = 585 ∧ ((582 : Nat) : Int) + (302) = ((884 : Nat) : Int) := by decide +kernel
theorem e_L_law_585 : decode cL_law 585 = .ok (.iconst 0, 1) ∧ 585 + 1 = 586 := by decide +kernel
theorem e_L_law_586 : decode cL_law 586 = .ok (.ireturn, 1) := by decide +kernel
theorem e_L_law_587 : decode cL_law 587 = .ok (.aload_n 1, 1) ∧ 587 + 1 = 588 := by decide +kernel
theorem e_L_law_588 : decode cL_law 588 = .ok (.invokevirtual 87, 3) ∧ 588 + 3 = 591 := by decide +kernel
theorem e_L_law_591 : decode cL_law 591 = .ok (.aload_n 2, 1) ∧ 591 + 1 = 592 := by decide +kernel
theorem e_L_law_592 : decode cL_law 592 = .ok (.invokevirtual 90, 3) ∧ 592 + 3 = 595 := by decide +kernel
theorem e_L_law_595 : decode cL_law 595 = .ok (.if_icmp .eq 289, 3) ∧ 595 + 3 = 598 ∧ ((595 : Nat) : Int) + (289) = ((884 : Nat) : Int) := by decide +kernel
theorem e_L_law_598 : decode cL_law 598 = .ok (.iconst 0, 1) ∧ 598 + 1 = 599 := by decide +kernel
theorem e_L_law_599 : decode cL_law 599 = .ok (.ireturn, 1) := by decide +kernel
theorem e_L_law_600 : decode cL_law 600 = .ok (.aload_n 1, 1) ∧ 600 + 1 = 601 := by decide +kernel
theorem e_L_law_601 : decode cL_law 601 = .ok (.aload_n 0, 1) ∧ 601 + 1 = 602 := by decide +kernel
theorem e_L_law_602 : decode cL_law 602 = .ok (.iload_n 3, 1) ∧ 602 + 1 = 603 := by decide +kernel
theorem e_L_law_603 : decode cL_law 603 = .ok (.iconst 1, 1) ∧ 603 + 1 = 604 := by decide +kernel
theorem e_L_law_604 : decode cL_law 604 = .ok (.iadd, 1) ∧ 604 + 1 = 605 := by decide +kernel
theorem e_L_law_605 : decode cL_law 605 = .ok (.iaload, 1) ∧ 605 + 1 = 606 := by decide +kernel
theorem e_L_law_606 : decode cL_law 606 = .ok (.invokevirtual 91, 3) ∧ 606 + 3 = 609 := by decide +kernel
theorem e_L_law_609 : decode cL_law 609 = .ok (.aload_n 2, 1) ∧ 609 + 1 = 610 := by decide +kernel
theorem e_L_law_610 : decode cL_law 610 = .ok (.aload_n 0, 1) ∧ 610 + 1 = 611 := by decide +kernel
theorem e_L_law_611 : decode cL_law 611 = .ok (.iload_n 3, 1) ∧ 611 + 1 = 612 := by decide +kernel
theorem e_L_law_612 : decode cL_law 612 = .ok (.iconst 1, 1) ∧ 612 + 1 = 613 := by decide +kernel
theorem e_L_law_613 : decode cL_law 613 = .ok (.iadd, 1) ∧ 613 + 1 = 614 := by decide +kernel
theorem e_L_law_614 : decode cL_law 614 = .ok (.iaload, 1) ∧ 614 + 1 = 615 := by decide +kernel
theorem e_L_law_615 : decode cL_law 615 = .ok (.invokevirtual 94, 3) ∧ 615 + 3 = 618 := by decide +kernel
theorem e_L_law_618 : decode cL_law 618 = .ok (.if_icmp .eq 266, 3) ∧ 618 + 3 = 621 ∧ ((618 : Nat) : Int) + (266) = ((884 : Nat) : Int) := by decide +kernel
theorem e_L_law_621 : decode cL_law 621 = .ok (.iconst 0, 1) ∧ 621 + 1 = 622 := by decide +kernel
theorem e_L_law_622 : decode cL_law 622 = .ok (.ireturn, 1) := by decide +kernel
theorem e_L_law_623 : decode cL_law 623 = .ok (.aload_n 1, 1) ∧ 623 + 1 = 624 := by decide +kernel
theorem e_L_law_624 : decode cL_law 624 = .ok (.aload_n 0, 1) ∧ 624 + 1 = 625 := by decide +kernel
theorem e_L_law_625 : decode cL_law 625 = .ok (.iload_n 3, 1) ∧ 625 + 1 = 626 := by decide +kernel
theorem e_L_law_626 : decode cL_law 626 = .ok (.iconst 1, 1) ∧ 626 + 1 = 627 := by decide +kernel
theorem e_L_law_627 : decode cL_law 627 = .ok (.iadd, 1) ∧ 627 + 1 = 628 := by decide +kernel
theorem e_L_law_628 : decode cL_law 628 = .ok (.iaload, 1) ∧ 628 + 1 = 629 := by decide +kernel
theorem e_L_law_629 : decode cL_law 629 = .ok (.aload_n 0, 1) ∧ 629 + 1 = 630 := by decide +kernel
theorem e_L_law_630 : decode cL_law 630 = .ok (.iload_n 3, 1) ∧ 630 + 1 = 631 := by decide +kernel
theorem e_L_law_631 : decode cL_law 631 = .ok (.iconst 2, 1) ∧ 631 + 1 = 632 := by decide +kernel
theorem e_L_law_632 : decode cL_law 632 = .ok (.iadd, 1) ∧ 632 + 1 = 633 := by decide +kernel
theorem e_L_law_633 : decode cL_law 633 = .ok (.iaload, 1) ∧ 633 + 1 = 634 := by decide +kernel
theorem e_L_law_634 : decode cL_law 634 = .ok (.invokevirtual 95, 3) ∧ 634 + 3 = 637 := by decide +kernel
theorem e_L_law_637 : decode cL_law 637 = .ok (.aload_n 2, 1) ∧ 637 + 1 = 638 := by decide +kernel
theorem e_L_law_638 : decode cL_law 638 = .ok (.aload_n 0, 1) ∧ 638 + 1 = 639 := by decide +kernel
theorem e_L_law_639 : decode cL_law 639 = .ok (.iload_n 3, 1) ∧ 639 + 1 = 640 := by decide +kernel
theorem e_L_law_640 : decode cL_law 640 = .ok (.iconst 1, 1) ∧ 640 + 1 = 641 := by decide +kernel
theorem e_L_law_641 : decode cL_law 641 = .ok (.iadd, 1) ∧ 641 + 1 = 642 := by decide +kernel
theorem e_L_law_642 : decode cL_law 642 = .ok (.iaload, 1) ∧ 642 + 1 = 643 := by decide +kernel
theorem e_L_law_643 : decode cL_law 643 = .ok (.aload_n 0, 1) ∧ 643 + 1 = 644 := by decide +kernel
theorem e_L_law_644 : decode cL_law 644 = .ok (.iload_n 3, 1) ∧ 644 + 1 = 645 := by decide +kernel
theorem e_L_law_645 : decode cL_law 645 = .ok (.iconst 2, 1) ∧ 645 + 1 = 646 := by decide +kernel
theorem e_L_law_646 : decode cL_law 646 = .ok (.iadd, 1) ∧ 646 + 1 = 647 := by decide +kernel
theorem e_L_law_647 : decode cL_law 647 = .ok (.iaload, 1) ∧ 647 + 1 = 648 := by decide +kernel
theorem e_L_law_648 : decode cL_law 648 = .ok (.invokevirtual 98, 3) ∧ 648 + 3 = 651 := by decide +kernel
theorem e_L_law_651 : decode cL_law 651 = .ok (.if_icmp .eq 233, 3) ∧ 651 + 3 = 654 ∧ ((651 : Nat) : Int) + (233) = ((884 : Nat) : Int) := by decide +kernel
theorem e_L_law_654 : decode cL_law 654 = .ok (.iconst 0, 1) ∧ 654 + 1 = 655 := by decide +kernel
theorem e_L_law_655 : decode cL_law 655 = .ok (.ireturn, 1) := by decide +kernel
theorem e_L_law_656 : decode cL_law 656 = .ok (.aload_n 1, 1) ∧ 656 + 1 = 657 := by decide +kernel
theorem e_L_law_657 : decode cL_law 657 = .ok (.invokevirtual 99, 3) ∧ 657 + 3 = 660 := by decide +kernel
theorem e_L_law_660 : decode cL_law 660 = .ok (.aload_n 2, 1) ∧ 660 + 1 = 661 := by decide +kernel
theorem e_L_law_661 : decode cL_law 661 = .ok (.invokevirtual 102, 3) ∧ 661 + 3 = 664 := by decide +kernel
theorem e_L_law_664 : decode cL_law 664 = .ok (.if_icmp .eq 220, 3) ∧ 664 + 3 = 667 ∧ ((664 : Nat) : Int) + (220) = ((884 : Nat) : Int) := by decide +kernel
theorem e_L_law_667 : decode cL_law 667 = .ok (.iconst 0, 1) ∧ 667 + 1 = 668 := by decide +kernel
theorem e_L_law_668 : decode cL_law 668 = .ok (.ireturn, 1) := by decide +kernel
theorem e_L_law_669 : decode cL_law 669 = .ok (.aload_n 1, 1) ∧ 669 + 1 = 670 := by decide +kernel
theorem e_L_law_670 : decode cL_law 670 = .ok (.aload_n 0, 1) ∧ 670 + 1 = 671 := by decide +kernel
theorem e_L_law_671 : decode cL_law 671 = .ok (.iload_n 3, 1) ∧ 671 + 1 = 672 := by decide +kernel
theorem e_L_law_672 : decode cL_law 672 = .ok (.iconst 1, 1) ∧ 672 + 1 = 673 := by decide +kernel
theorem e_L_law_673 : decode cL_law 673 = .ok (.iadd, 1) ∧ 673 + 1 = 674 := by decide +kernel
theorem e_L_law_674 : decode cL_law 674 = .ok (.iaload, 1) ∧ 674 + 1 = 675 := by decide +kernel
theorem e_L_law_675 : decode cL_law 675 = .ok (.invokevirtual 103, 3) ∧ 675 + 3 = 678 := by decide +kernel
theorem e_L_law_678 : decode cL_law 678 = .ok (.aload_n 2, 1) ∧ 678 + 1 = 679 := by decide +kernel
theorem e_L_law_679 : decode cL_law 679 = .ok (.aload_n 0, 1) ∧ 679 + 1 = 680 := by decide +kernel
theorem e_L_law_680 : decode cL_law 680 = .ok (.iload_n 3, 1) ∧ 680 + 1 = 681 := by decide +kernel
theorem e_L_law_681 : decode cL_law 681 = .ok (.iconst 1, 1) ∧ 681 + 1 = 682 := by decide +kernel
theorem e_L_law_682 : decode cL_law 682 = .ok (.iadd, 1) ∧ 682 + 1 = 683 := by decide +kernel
theorem e_L_law_683 : decode cL_law 683 = .ok (.iaload, 1) ∧ 683 + 1 = 684 := by decide +kernel
theorem e_L_law_684 : decode cL_law 684 = .ok (.invokevirtual 106, 3) ∧ 684 + 3 = 687 := by decide +kernel
theorem e_L_law_687 : decode cL_law 687 = .ok (.if_icmp .eq 197, 3) ∧ 687 + 3 = 690 ∧ ((687 : Nat) : Int) + (197) = ((884 : Nat) : Int) := by decide +kernel
theorem e_L_law_690 : decode cL_law 690 = .ok (.iconst 0, 1) ∧ 690 + 1 = 691 := by decide +kernel
theorem e_L_law_691 : decode cL_law 691 = .ok (.ireturn, 1) := by decide +kernel
theorem e_L_law_692 : decode cL_law 692 = .ok (.aload_n 1, 1) ∧ 692 + 1 = 693 := by decide +kernel
theorem e_L_law_693 : decode cL_law 693 = .ok (.aload_n 0, 1) ∧ 693 + 1 = 694 := by decide +kernel
theorem e_L_law_694 : decode cL_law 694 = .ok (.iload_n 3, 1) ∧ 694 + 1 = 695 := by decide +kernel
theorem e_L_law_695 : decode cL_law 695 = .ok (.iconst 1, 1) ∧ 695 + 1 = 696 := by decide +kernel
theorem e_L_law_696 : decode cL_law 696 = .ok (.iadd, 1) ∧ 696 + 1 = 697 := by decide +kernel
theorem e_L_law_697 : decode cL_law 697 = .ok (.iaload, 1) ∧ 697 + 1 = 698 := by decide +kernel
theorem e_L_law_698 : decode cL_law 698 = .ok (.aload_n 0, 1) ∧ 698 + 1 = 699 := by decide +kernel
theorem e_L_law_699 : decode cL_law 699 = .ok (.iload_n 3, 1) ∧ 699 + 1 = 700 := by decide +kernel
theorem e_L_law_700 : decode cL_law 700 = .ok (.iconst 2, 1) ∧ 700 + 1 = 701 := by decide +kernel
theorem e_L_law_701 : decode cL_law 701 = .ok (.iadd, 1) ∧ 701 + 1 = 702 := by decide +kernel
theorem e_L_law_702 : decode cL_law 702 = .ok (.iaload, 1) ∧ 702 + 1 = 703 := by decide +kernel
theorem e_L_law_703 : decode cL_law 703 = .ok (.aload_n 0, 1) ∧ 703 + 1 = 704 := by decide +kernel
theorem e_L_law_704 : decode cL_law 704 = .ok (.iload_n 3, 1) ∧ 704 + 1 = 705 := by decide +kernel
theorem e_L_law_705 : decode cL_law 705 = .ok (.iconst 3, 1) ∧ 705 + 1 = 706 := by decide +kernel
theorem e_L_law_706 : decode cL_law 706 = .ok (.iadd, 1) ∧ 706 + 1 = 707 := by decide +kernel
theorem e_L_law_707 : decode cL_law 707 = .ok (.iaload, 1) ∧ 707 + 1 = 708 := by decide +kernel
theorem e_L_law_708 : decode cL_law 708 = .ok (.ifCond .eq 7, 3) ∧ 708 + 3 = 711 ∧ ((708 : Nat) : Int) + (7) = ((715 : Nat) : Int) := by decide +kernel
theorem e_L_law_711 : decode cL_law 711 = .ok (.iconst 1, 1) ∧ 711 + 1 = 712 := by decide +kernel
theorem e_L_law_712 : decode cL_law 712 = .ok (.goto 4, 3) ∧ 712 + 3 = 715 ∧ ((712 : Nat) : Int) + (4) = ((716 : Nat) : Int) := by decide +kernel
theorem e_L_law_715 : decode cL_law 715 = .ok (.iconst 0, 1) ∧ 715 + 1 = 716 := by decide +kernel
theorem e_L_law_716 : decode cL_law 716 = .ok (.invokevirtual 107, 3) ∧ 716 + 3 = 719 := by decide +kernel
theorem e_L_law_719 : decode cL_law 719 = .ok (.aload_n 2, 1) ∧ 719 + 1 = 720 := by decide +kernel
theorem e_L_law_720 : decode cL_law 720 = .ok (.aload_n 0, 1) ∧ 720 + 1 = 721 := by decide +kernel
theorem e_L_law_721 : decode cL_law 721 = .ok (.iload_n 3, 1) ∧ 721 + 1 = 722 := by decide +kernel
theorem e_L_law_722 : decode cL_law 722 = .ok (.iconst 1, 1) ∧ 722 + 1 = 723 := by decide +kernel
theorem e_L_law_723 : decode cL_law 723 = .ok (.iadd, 1) ∧ 723 + 1 = 724 := by decide +kernel
theorem e_L_law_724 : decode cL_law 724 = .ok (.iaload, 1) ∧ 724 + 1 = 725 := by decide +kernel
theorem e_L_law_725 : decode cL_law 725 = .ok (.aload_n 0, 1) ∧ 725 + 1 = 726 := by decide +kernel
theorem e_L_law_726 : decode cL_law 726 = .ok (.iload_n 3, 1) ∧ 726 + 1 = 727 := by decide +kernel
theorem e_L_law_727 : decode cL_law 727 = .ok (.iconst 2, 1) ∧ 727 + 1 = 728 := by decide +kernel
theorem e_L_law_728 : decode cL_law 728 = .ok (.iadd, 1) ∧ 728 + 1 = 729 := by decide +kernel
theorem e_L_law_729 : decode cL_law 729 = .ok (.iaload, 1) ∧ 729 + 1 = 730 := by decide +kernel
theorem e_L_law_730 : decode cL_law 730 = .ok (.aload_n 0, 1) ∧ 730 + 1 = 731 := by decide +kernel
theorem e_L_law_731 : decode cL_law 731 = .ok (.iload_n 3, 1) ∧ 731 + 1 = 732 := by decide +kernel
theorem e_L_law_732 : decode cL_law 732 = .ok (.iconst 3, 1) ∧ 732 + 1 = 733 := by decide +kernel
theorem e_L_law_733 : decode cL_law 733 = .ok (.iadd, 1) ∧ 733 + 1 = 734 := by decide +kernel
theorem e_L_law_734 : decode cL_law 734 = .ok (.iaload, 1) ∧ 734 + 1 = 735 := by decide +kernel
theorem e_L_law_735 : decode cL_law 735 = .ok (.ifCond .eq 7, 3) ∧ 735 + 3 = 738 ∧ ((735 : Nat) : Int) + (7) = ((742 : Nat) : Int) := by decide +kernel
theorem e_L_law_738 : decode cL_law 738 = .ok (.iconst 1, 1) ∧ 738 + 1 = 739 := by decide +kernel
theorem e_L_law_739 : decode cL_law 739 = .ok (.goto 4, 3) ∧ 739 + 3 = 742 ∧ ((739 : Nat) : Int) + (4) = ((743 : Nat) : Int) := by decide +kernel
theorem e_L_law_742 : decode cL_law 742 = .ok (.iconst 0, 1) ∧ 742 + 1 = 743 := by decide +kernel
theorem e_L_law_743 : decode cL_law 743 = .ok (.invokevirtual 111, 3) ∧ 743 + 3 = 746 := by decide +kernel
theorem e_L_law_746 : decode cL_law 746 = .ok (.if_icmp .eq 138, 3) ∧ 746 + 3 = 749 ∧ ((746 : Nat) : Int) + (138) = ((884 : Nat) : Int) := by decide +kernel
theorem e_L_law_749 : decode cL_law 749 = .ok (.iconst 0, 1) ∧ 749 + 1 = 750 := by decide +kernel
theorem e_L_law_750 : decode cL_law 750 = .ok (.ireturn, 1) := by decide +kernel
theorem e_L_law_751 : decode cL_law 751 = .ok (.aload_n 1, 1) ∧ 751 + 1 = 752 := by decide +kernel
theorem e_L_law_752 : decode cL_law 752 = .ok (.aload_n 0, 1) ∧ 752 + 1 = 753 := by decide +kernel
theorem e_L_law_753 : decode cL_law 753 = .ok (.iload_n 3, 1) ∧ 753 + 1 = 754 := by decide +kernel
theorem e_L_law_754 : decode cL_law 754 = .ok (.iconst 1, 1) ∧ 754 + 1 = 755 := by decide +kernel
theorem e_L_law_755 : decode cL_law 755 = .ok (.iadd, 1) ∧ 755 + 1 = 756 := by decide +kernel
theorem e_L_law_756 : decode cL_law 756 = .ok (.iaload, 1) ∧ 756 + 1 = 757 := by decide +kernel
theorem e_L_law_757 : decode cL_law 757 = .ok (.i2l, 1) ∧ 757 + 1 = 758 := by decide +kernel
theorem e_L_law_758 : decode cL_law 758 = .ok (.bipush 32, 2) ∧ 758 + 2 = 760 := by decide +kernel
theorem e_L_law_760 : decode cL_law 760 = .ok (.lshl, 1) ∧ 760 + 1 = 761 := by decide +kernel
theorem e_L_law_761 : decode cL_law 761 = .ok (.aload_n 0, 1) ∧ 761 + 1 = 762 := by decide +kernel
theorem e_L_law_762 : decode cL_law 762 = .ok (.iload_n 3, 1) ∧ 762 + 1 = 763 := by decide +kernel
theorem e_L_law_763 : decode cL_law 763 = .ok (.iconst 2, 1) ∧ 763 + 1 = 764 := by decide +kernel
theorem e_L_law_764 : decode cL_law 764 = .ok (.iadd, 1) ∧ 764 + 1 = 765 := by decide +kernel
theorem e_L_law_765 : decode cL_law 765 = .ok (.iaload, 1) ∧ 765 + 1 = 766 := by decide +kernel
theorem e_L_law_766 : decode cL_law 766 = .ok (.i2l, 1) ∧ 766 + 1 = 767 := by decide +kernel
theorem e_L_law_767 : decode cL_law 767 = .ok (.ldc2_w 13, 3) ∧ 767 + 3 = 770 := by decide +kernel
theorem e_L_law_770 : decode cL_law 770 = .ok (.land, 1) ∧ 770 + 1 = 771 := by decide +kernel
theorem e_L_law_771 : decode cL_law 771 = .ok (.lor, 1) ∧ 771 + 1 = 772 := by decide +kernel
theorem e_L_law_772 : decode cL_law 772 = .ok (.invokevirtual 112, 3) ∧ 772 + 3 = 775 := by decide +kernel
theorem e_L_law_775 : decode cL_law 775 = .ok (.aload_n 2, 1) ∧ 775 + 1 = 776 := by decide +kernel
theorem e_L_law_776 : decode cL_law 776 = .ok (.aload_n 0, 1) ∧ 776 + 1 = 777 := by decide +kernel
theorem e_L_law_777 : decode cL_law 777 = .ok (.iload_n 3, 1) ∧ 777 + 1 = 778 := by decide +kernel
theorem e_L_law_778 : decode cL_law 778 = .ok (.iconst 1, 1) ∧ 778 + 1 = 779 := by decide +kernel
theorem e_L_law_779 : decode cL_law 779 = .ok (.iadd, 1) ∧ 779 + 1 = 780 := by decide +kernel
theorem e_L_law_780 : decode cL_law 780 = .ok (.iaload, 1) ∧ 780 + 1 = 781 := by decide +kernel
theorem e_L_law_781 : decode cL_law 781 = .ok (.i2l, 1) ∧ 781 + 1 = 782 := by decide +kernel
theorem e_L_law_782 : decode cL_law 782 = .ok (.bipush 32, 2) ∧ 782 + 2 = 784 := by decide +kernel
theorem e_L_law_784 : decode cL_law 784 = .ok (.lshl, 1) ∧ 784 + 1 = 785 := by decide +kernel
theorem e_L_law_785 : decode cL_law 785 = .ok (.aload_n 0, 1) ∧ 785 + 1 = 786 := by decide +kernel
theorem e_L_law_786 : decode cL_law 786 = .ok (.iload_n 3, 1) ∧ 786 + 1 = 787 := by decide +kernel
theorem e_L_law_787 : decode cL_law 787 = .ok (.iconst 2, 1) ∧ 787 + 1 = 788 := by decide +kernel
theorem e_L_law_788 : decode cL_law 788 = .ok (.iadd, 1) ∧ 788 + 1 = 789 := by decide +kernel
theorem e_L_law_789 : decode cL_law 789 = .ok (.iaload, 1) ∧ 789 + 1 = 790 := by decide +kernel
theorem e_L_law_790 : decode cL_law 790 = .ok (.i2l, 1) ∧ 790 + 1 = 791 := by decide +kernel
theorem e_L_law_791 : decode cL_law 791 = .ok (.ldc2_w 13, 3) ∧ 791 + 3 = 794 := by decide +kernel
theorem e_L_law_794 : decode cL_law 794 = .ok (.land, 1) ∧ 794 + 1 = 795 := by decide +kernel
theorem e_L_law_795 : decode cL_law 795 = .ok (.lor, 1) ∧ 795 + 1 = 796 := by decide +kernel
theorem e_L_law_796 : decode cL_law 796 = .ok (.invokevirtual 116, 3) ∧ 796 + 3 = 799 := by decide +kernel
theorem e_L_law_799 : decode cL_law 799 = .ok (.lcmp, 1) ∧ 799 + 1 = 800 := by decide +kernel
theorem e_L_law_800 : decode cL_law 800 = .ok (.ifCond .eq 84, 3) ∧ 800 + 3 = 803 ∧ ((800 : Nat) : Int) + (84) = ((884 : Nat) : Int) := by decide +kernel
theorem e_L_law_803 : decode cL_law 803 = .ok (.iconst 0, 1) ∧ 803 + 1 = 804 := by decide +kernel
theorem e_L_law_804 : decode cL_law 804 = .ok (.ireturn, 1) := by decide +kernel
theorem e_L_law_805 : decode cL_law 805 = .ok (.aload_n 1, 1) ∧ 805 + 1 = 806 := by decide +kernel
theorem e_L_law_806 : decode cL_law 806 = .ok (.aload_n 0, 1) ∧ 806 + 1 = 807 := by decide +kernel
theorem e_L_law_807 : decode cL_law 807 = .ok (.iload_n 3, 1) ∧ 807 + 1 = 808 := by decide +kernel
theorem e_L_law_808 : decode cL_law 808 = .ok (.iconst 1, 1) ∧ 808 + 1 = 809 := by decide +kernel
theorem e_L_law_809 : decode cL_law 809 = .ok (.iadd, 1) ∧ 809 + 1 = 810 := by decide +kernel
theorem e_L_law_810 : decode cL_law 810 = .ok (.iaload, 1) ∧ 810 + 1 = 811 := by decide +kernel
theorem e_L_law_811 : decode cL_law 811 = .ok (.aload_n 0, 1) ∧ 811 + 1 = 812 := by decide +kernel
theorem e_L_law_812 : decode cL_law 812 = .ok (.iload_n 3, 1) ∧ 812 + 1 = 813 := by decide +kernel
theorem e_L_law_813 : decode cL_law 813 = .ok (.iconst 2, 1) ∧ 813 + 1 = 814 := by decide +kernel
theorem e_L_law_814 : decode cL_law 814 = .ok (.iadd, 1) ∧ 814 + 1 = 815 := by decide +kernel
theorem e_L_law_815 : decode cL_law 815 = .ok (.iaload, 1) ∧ 815 + 1 = 816 := by decide +kernel
theorem e_L_law_816 : decode cL_law 816 = .ok (.invokevirtual 117, 3) ∧ 816 + 3 = 819 := by decide +kernel
theorem e_L_law_819 : decode cL_law 819 = .ok (.aload_n 2, 1) ∧ 819 + 1 = 820 := by decide +kernel
theorem e_L_law_820 : decode cL_law 820 = .ok (.aload_n 0, 1) ∧ 820 + 1 = 821 := by decide +kernel
theorem e_L_law_821 : decode cL_law 821 = .ok (.iload_n 3, 1) ∧ 821 + 1 = 822 := by decide +kernel
theorem e_L_law_822 : decode cL_law 822 = .ok (.iconst 1, 1) ∧ 822 + 1 = 823 := by decide +kernel
theorem e_L_law_823 : decode cL_law 823 = .ok (.iadd, 1) ∧ 823 + 1 = 824 := by decide +kernel
theorem e_L_law_824 : decode cL_law 824 = .ok (.iaload, 1) ∧ 824 + 1 = 825 := by decide +kernel
theorem e_L_law_825 : decode cL_law 825 = .ok (.aload_n 0, 1) ∧ 825 + 1 = 826 := by decide +kernel
theorem e_L_law_826 : decode cL_law 826 = .ok (.iload_n 3, 1) ∧ 826 + 1 = 827 := by decide +kernel
theorem e_L_law_827 : decode cL_law 827 = .ok (.iconst 2, 1) ∧ 827 + 1 = 828 := by decide +kernel
theorem e_L_law_828 : decode cL_law 828 = .ok (.iadd, 1) ∧ 828 + 1 = 829 := by decide +kernel
theorem e_L_law_829 : decode cL_law 829 = .ok (.iaload, 1) ∧ 829 + 1 = 830 := by decide +kernel
theorem e_L_law_830 : decode cL_law 830 = .ok (.invokevirtual 120, 3) ∧ 830 + 3 = 833 := by decide +kernel
theorem e_L_law_833 : decode cL_law 833 = .ok (.if_icmp .eq 51, 3) ∧ 833 + 3 = 836 ∧ ((833 : Nat) : Int) + (51) = ((884 : Nat) : Int) := by decide +kernel
theorem e_L_law_836 : decode cL_law 836 = .ok (.iconst 0, 1) ∧ 836 + 1 = 837 := by decide +kernel
theorem e_L_law_837 : decode cL_law 837 = .ok (.ireturn, 1) := by decide +kernel
theorem e_L_law_838 : decode cL_law 838 = .ok (.aload_n 1, 1) ∧ 838 + 1 = 839 := by decide +kernel
theorem e_L_law_839 : decode cL_law 839 = .ok (.aload_n 0, 1) ∧ 839 + 1 = 840 := by decide +kernel
theorem e_L_law_840 : decode cL_law 840 = .ok (.iload_n 3, 1) ∧ 840 + 1 = 841 := by decide +kernel
theorem e_L_law_841 : decode cL_law 841 = .ok (.iconst 1, 1) ∧ 841 + 1 = 842 := by decide +kernel
theorem e_L_law_842 : decode cL_law 842 = .ok (.iadd, 1) ∧ 842 + 1 = 843 := by decide +kernel
theorem e_L_law_843 : decode cL_law 843 = .ok (.iaload, 1) ∧ 843 + 1 = 844 := by decide +kernel
theorem e_L_law_844 : decode cL_law 844 = .ok (.invokevirtual 121, 3) ∧ 844 + 3 = 847 := by decide +kernel
theorem e_L_law_847 : decode cL_law 847 = .ok (.aload_n 2, 1) ∧ 847 + 1 = 848 := by decide +kernel
theorem e_L_law_848 : decode cL_law 848 = .ok (.aload_n 0, 1) ∧ 848 + 1 = 849 := by decide +kernel
theorem e_L_law_849 : decode cL_law 849 = .ok (.iload_n 3, 1) ∧ 849 + 1 = 850 := by decide +kernel
theorem e_L_law_850 : decode cL_law 850 = .ok (.iconst 1, 1) ∧ 850 + 1 = 851 := by decide +kernel
theorem e_L_law_851 : decode cL_law 851 = .ok (.iadd, 1) ∧ 851 + 1 = 852 := by decide +kernel
theorem e_L_law_852 : decode cL_law 852 = .ok (.iaload, 1) ∧ 852 + 1 = 853 := by decide +kernel
theorem e_L_law_853 : decode cL_law 853 = .ok (.invokevirtual 124, 3) ∧ 853 + 3 = 856 := by decide +kernel
theorem e_L_law_856 : decode cL_law 856 = .ok (.if_icmp .eq 28, 3) ∧ 856 + 3 = 859 ∧ ((856 : Nat) : Int) + (28) = ((884 : Nat) : Int) := by decide +kernel
theorem e_L_law_859 : decode cL_law 859 = .ok (.iconst 0, 1) ∧ 859 + 1 = 860 := by decide +kernel
theorem e_L_law_860 : decode cL_law 860 = .ok (.ireturn, 1) := by decide +kernel
theorem e_L_law_861 : decode cL_law 861 = .ok (.aload_n 1, 1) ∧ 861 + 1 = 862 := by decide +kernel
theorem e_L_law_862 : decode cL_law 862 = .ok (.aload_n 0, 1) ∧ 862 + 1 = 863 := by decide +kernel
theorem e_L_law_863 : decode cL_law 863 = .ok (.iload_n 3, 1) ∧ 863 + 1 = 864 := by decide +kernel
theorem e_L_law_864 : decode cL_law 864 = .ok (.iconst 1, 1) ∧ 864 + 1 = 865 := by decide +kernel
theorem e_L_law_865 : decode cL_law 865 = .ok (.iadd, 1) ∧ 865 + 1 = 866 := by decide +kernel
theorem e_L_law_866 : decode cL_law 866 = .ok (.iaload, 1) ∧ 866 + 1 = 867 := by decide +kernel
theorem e_L_law_867 : decode cL_law 867 = .ok (.invokevirtual 125, 3) ∧ 867 + 3 = 870 := by decide +kernel
theorem e_L_law_870 : decode cL_law 870 = .ok (.aload_n 2, 1) ∧ 870 + 1 = 871 := by decide +kernel
theorem e_L_law_871 : decode cL_law 871 = .ok (.aload_n 0, 1) ∧ 871 + 1 = 872 := by decide +kernel
theorem e_L_law_872 : decode cL_law 872 = .ok (.iload_n 3, 1) ∧ 872 + 1 = 873 := by decide +kernel
theorem e_L_law_873 : decode cL_law 873 = .ok (.iconst 1, 1) ∧ 873 + 1 = 874 := by decide +kernel
theorem e_L_law_874 : decode cL_law 874 = .ok (.iadd, 1) ∧ 874 + 1 = 875 := by decide +kernel
theorem e_L_law_875 : decode cL_law 875 = .ok (.iaload, 1) ∧ 875 + 1 = 876 := by decide +kernel
theorem e_L_law_876 : decode cL_law 876 = .ok (.invokevirtual 128, 3) ∧ 876 + 3 = 879 := by decide +kernel
theorem e_L_law_879 : decode cL_law 879 = .ok (.if_icmp .eq 5, 3) ∧ 879 + 3 = 882 ∧ ((879 : Nat) : Int) + (5) = ((884 : Nat) : Int) := by decide +kernel
theorem e_L_law_882 : decode cL_law 882 = .ok (.iconst 0, 1) ∧ 882 + 1 = 883 := by decide +kernel
theorem e_L_law_883 : decode cL_law 883 = .ok (.ireturn, 1) := by decide +kernel
theorem e_L_law_884 : decode cL_law 884 = .ok (.iinc 3 4, 3) ∧ 884 + 3 = 887 := by decide +kernel
theorem e_L_law_887 : decode cL_law 887 = .ok (.goto (-869), 3) ∧ 887 + 3 = 890 ∧ ((887 : Nat) : Int) + (-869) = ((18 : Nat) : Int) := by decide +kernel
theorem e_L_law_890 : decode cL_law 890 = .ok (.iconst 1, 1) ∧ 890 + 1 = 891 := by decide +kernel
theorem e_L_law_891 : decode cL_law 891 = .ok (.ireturn, 1) := by decide +kernel
