theorem e_X0_init_0 : decode cX0_init 0 = .ok (.aload_n 0, 1) ∧ 0 + 1 = 1 := by decide +kernel
theorem e_X0_init_1 : decode cX0_init 1 = .ok (.invokespecial 3, 3) ∧ 1 + 3 = 4 := by decide +kernel
theorem e_X0_init_4 : decode cX0_init 4 = .ok (.aload_n 0, 1) ∧ 4 + 1 = 5 := by decide +kernel
theorem e_X0_init_5 : decode cX0_init 5 = .ok (.bipush 12, 2) ∧ 5 + 2 = 7 := by decide +kernel
theorem e_X0_init_7 : decode cX0_init 7 = .ok (.newarray .int, 2) ∧ 7 + 2 = 9 := by decide +kernel
theorem e_X0_init_9 : decode cX0_init 9 = .ok (.putfield 9, 3) ∧ 9 + 3 = 12 := by decide +kernel
theorem e_X0_init_12 : decode cX0_init 12 = .ok (.aload_n 0, 1) ∧ 12 + 1 = 13 := by decide +kernel
theorem e_X0_init_13 : decode cX0_init 13 = .ok (.bipush 12, 2) ∧ 13 + 2 = 15 := by decide +kernel
theorem e_X0_init_15 : decode cX0_init 15 = .ok (.newarray .int, 2) ∧ 15 + 2 = 17 := by decide +kernel
theorem e_X0_init_17 : decode cX0_init 17 = .ok (.putfield 15, 3) ∧ 17 + 3 = 20 := by decide +kernel
theorem e_X0_init_20 : decode cX0_init 20 = .ok (.aload_n 0, 1) ∧ 20 + 1 = 21 := by decide +kernel
theorem e_X0_init_21 : decode cX0_init 21 = .ok (.bipush 12, 2) ∧ 21 + 2 = 23 := by decide +kernel
theorem e_X0_init_23 : decode cX0_init 23 = .ok (.newarray .int, 2) ∧ 23 + 2 = 25 := by decide +kernel
theorem e_X0_init_25 : decode cX0_init 25 = .ok (.putfield 18, 3) ∧ 25 + 3 = 28 := by decide +kernel
theorem e_X0_init_28 : decode cX0_init 28 = .ok (.aload_n 0, 1) ∧ 28 + 1 = 29 := by decide +kernel
theorem e_X0_init_29 : decode cX0_init 29 = .ok (.bipush 12, 2) ∧ 29 + 2 = 31 := by decide +kernel
theorem e_X0_init_31 : decode cX0_init 31 = .ok (.newarray .int, 2) ∧ 31 + 2 = 33 := by decide +kernel
theorem e_X0_init_33 : decode cX0_init 33 = .ok (.putfield 21, 3) ∧ 33 + 3 = 36 := by decide +kernel
theorem e_X0_init_36 : decode cX0_init 36 = .ok (.aload_n 0, 1) ∧ 36 + 1 = 37 := by decide +kernel
theorem e_X0_init_37 : decode cX0_init 37 = .ok (.iconst 4, 1) ∧ 37 + 1 = 38 := by decide +kernel
theorem e_X0_init_38 : decode cX0_init 38 = .ok (.newarray .int, 2) ∧ 38 + 2 = 40 := by decide +kernel
theorem e_X0_init_40 : decode cX0_init 40 = .ok (.putfield 24, 3) ∧ 40 + 3 = 43 := by decide +kernel
theorem e_X0_init_43 : decode cX0_init 43 = .ok (.aload_n 0, 1) ∧ 43 + 1 = 44 := by decide +kernel
theorem e_X0_init_44 : decode cX0_init 44 = .ok (.iconst 1, 1) ∧ 44 + 1 = 45 := by decide +kernel
theorem e_X0_init_45 : decode cX0_init 45 = .ok (.putfield 27, 3) ∧ 45 + 3 = 48 := by decide +kernel
theorem e_X0_init_48 : decode cX0_init 48 = .ok (.return_, 1) := by decide +kernel
theorem e_X0_clear_0 : decode cX0_clear 0 = .ok (.iconst 0, 1) ∧ 0 + 1 = 1 := by decide +kernel
theorem e_X0_clear_1 : decode cX0_clear 1 = .ok (.istore_n 1, 1) ∧ 1 + 1 = 2 := by decide +kernel
theorem e_X0_clear_2 : decode cX0_clear 2 = .ok (.iload_n 1, 1) ∧ 2 + 1 = 3 := by decide +kernel
theorem e_X0_clear_3 : decode cX0_clear 3 = .ok (.bipush 12, 2) ∧ 3 + 2 = 5 := by decide +kernel
theorem e_X0_clear_5 : decode cX0_clear 5 = .ok (.if_icmp .ge 14, 3) ∧ 5 + 3 = 8 ∧ ((5 : Nat) : Int) + (14) = ((19 : Nat) : Int) := by decide +kernel
theorem e_X0_clear_8 : decode cX0_clear 8 = .ok (.aload_n 0, 1) ∧ 8 + 1 = 9 := by decide +kernel
theorem e_X0_clear_9 : decode cX0_clear 9 = .ok (.iload_n 1, 1) ∧ 9 + 1 = 10 := by decide +kernel
theorem e_X0_clear_10 : decode cX0_clear 10 = .ok (.invokevirtual 31, 3) ∧ 10 + 3 = 13 := by decide +kernel
theorem e_X0_clear_13 : decode cX0_clear 13 = .ok (.iinc 1 1, 3) ∧ 13 + 3 = 16 := by decide +kernel
theorem e_X0_clear_16 : decode cX0_clear 16 = .ok (.goto (-14), 3) ∧ 16 + 3 = 19 ∧ ((16 : Nat) : Int) + (-14) = ((2 : Nat) : Int) := by decide +kernel
theorem e_X0_clear_19 : decode cX0_clear 19 = .ok (.aload_n 0, 1) ∧ 19 + 1 = 20 := by decide +kernel
theorem e_X0_clear_20 : decode cX0_clear 20 = .ok (.iconst 1, 1) ∧ 20 + 1 = 21 := by decide +kernel
theorem e_X0_clear_21 : decode cX0_clear 21 = .ok (.putfield 27, 3) ∧ 21 + 3 = 24 := by decide +kernel
theorem e_X0_clear_24 : decode cX0_clear 24 = .ok (.aload_n 0, 1) ∧ 24 + 1 = 25 := by decide +kernel
theorem e_X0_clear_25 : decode cX0_clear 25 = .ok (.iconst 0, 1) ∧ 25 + 1 = 26 := by decide +kernel
theorem e_X0_clear_26 : decode cX0_clear 26 = .ok (.putfield 35, 3) ∧ 26 + 3 = 29 := by decide +kernel
theorem e_X0_clear_29 : decode cX0_clear 29 = .ok (.aload_n 0, 1) ∧ 29 + 1 = 30 := by decide +kernel
theorem e_X0_clear_30 : decode cX0_clear 30 = .ok (.iconst 0, 1) ∧ 30 + 1 = 31 := by decide +kernel
theorem e_X0_clear_31 : decode cX0_clear 31 = .ok (.putfield 38, 3) ∧ 31 + 3 = 34 := by decide +kernel
theorem e_X0_clear_34 : decode cX0_clear 34 = .ok (.aload_n 0, 1) ∧ 34 + 1 = 35 := by decide +kernel
theorem e_X0_clear_35 : decode cX0_clear 35 = .ok (.iconst 0, 1) ∧ 35 + 1 = 36 := by decide +kernel
theorem e_X0_clear_36 : decode cX0_clear 36 = .ok (.putfield 41, 3) ∧ 36 + 3 = 39 := by decide +kernel
theorem e_X0_clear_39 : decode cX0_clear 39 = .ok (.aload_n 0, 1) ∧ 39 + 1 = 40 := by decide +kernel
theorem e_X0_clear_40 : decode cX0_clear 40 = .ok (.iconst 0, 1) ∧ 40 + 1 = 41 := by decide +kernel
theorem e_X0_clear_41 : decode cX0_clear 41 = .ok (.putfield 44, 3) ∧ 41 + 3 = 44 := by decide +kernel
theorem e_X0_clear_44 : decode cX0_clear 44 = .ok (.aload_n 0, 1) ∧ 44 + 1 = 45 := by decide +kernel
theorem e_X0_clear_45 : decode cX0_clear 45 = .ok (.iconst 0, 1) ∧ 45 + 1 = 46 := by decide +kernel
theorem e_X0_clear_46 : decode cX0_clear 46 = .ok (.putfield 47, 3) ∧ 46 + 3 = 49 := by decide +kernel
theorem e_X0_clear_49 : decode cX0_clear 49 = .ok (.aload_n 0, 1) ∧ 49 + 1 = 50 := by decide +kernel
theorem e_X0_clear_50 : decode cX0_clear 50 = .ok (.iconst 0, 1) ∧ 50 + 1 = 51 := by decide +kernel
theorem e_X0_clear_51 : decode cX0_clear 51 = .ok (.putfield 50, 3) ∧ 51 + 3 = 54 := by decide +kernel
theorem e_X0_clear_54 : decode cX0_clear 54 = .ok (.return_, 1) := by decide +kernel
theorem e_X0_take_0 : decode cX0_take 0 = .ok (.aload_n 1, 1) ∧ 0 + 1 = 1 := by decide +kernel
theorem e_X0_take_1 : decode cX0_take 1 = .ok (.ifnonnull 4, 3) ∧ 1 + 3 = 4 ∧ ((1 : Nat) : Int) + (4) = ((5 : Nat) : Int) := by decide +kernel
theorem e_X0_take_4 : decode cX0_take 4 = .ok (.return_, 1) := by decide +kernel
theorem e_X0_take_5 : decode cX0_take 5 = .ok (.aload_n 1, 1) ∧ 5 + 1 = 6 := by decide +kernel
theorem e_X0_take_6 : decode cX0_take 6 = .ok (.getfield 9, 3) ∧ 6 + 3 = 9 := by decide +kernel
theorem e_X0_take_9 : decode cX0_take 9 = .ok (.iconst 0, 1) ∧ 9 + 1 = 10 := by decide +kernel
theorem e_X0_take_10 : decode cX0_take 10 = .ok (.aload_n 0, 1) ∧ 10 + 1 = 11 := by decide +kernel
theorem e_X0_take_11 : decode cX0_take 11 = .ok (.getfield 9, 3) ∧ 11 + 3 = 14 := by decide +kernel
theorem e_X0_take_14 : decode cX0_take 14 = .ok (.iconst 0, 1) ∧ 14 + 1 = 15 := by decide +kernel
theorem e_X0_take_15 : decode cX0_take 15 = .ok (.bipush 12, 2) ∧ 15 + 2 = 17 := by decide +kernel
theorem e_X0_take_17 : decode cX0_take 17 = .ok (.invokestatic 53, 3) ∧ 17 + 3 = 20 := by decide +kernel
theorem e_X0_take_20 : decode cX0_take 20 = .ok (.aload_n 1, 1) ∧ 20 + 1 = 21 := by decide +kernel
theorem e_X0_take_21 : decode cX0_take 21 = .ok (.getfield 15, 3) ∧ 21 + 3 = 24 := by decide +kernel
theorem e_X0_take_24 : decode cX0_take 24 = .ok (.iconst 0, 1) ∧ 24 + 1 = 25 := by decide +kernel
theorem e_X0_take_25 : decode cX0_take 25 = .ok (.aload_n 0, 1) ∧ 25 + 1 = 26 := by decide +kernel
theorem e_X0_take_26 : decode cX0_take 26 = .ok (.getfield 15, 3) ∧ 26 + 3 = 29 := by decide +kernel
theorem e_X0_take_29 : decode cX0_take 29 = .ok (.iconst 0, 1) ∧ 29 + 1 = 30 := by decide +kernel
theorem e_X0_take_30 : decode cX0_take 30 = .ok (.bipush 12, 2) ∧ 30 + 2 = 32 := by decide +kernel
theorem e_X0_take_32 : decode cX0_take 32 = .ok (.invokestatic 53, 3) ∧ 32 + 3 = 35 := by decide +kernel
theorem e_X0_take_35 : decode cX0_take 35 = .ok (.aload_n 1, 1) ∧ 35 + 1 = 36 := by decide +kernel
theorem e_X0_take_36 : decode cX0_take 36 = .ok (.getfield 18, 3) ∧ 36 + 3 = 39 := by decide +kernel
theorem e_X0_take_39 : decode cX0_take 39 = .ok (.iconst 0, 1) ∧ 39 + 1 = 40 := by decide +kernel
theorem e_X0_take_40 : decode cX0_take 40 = .ok (.aload_n 0, 1) ∧ 40 + 1 = 41 := by decide +kernel
theorem e_X0_take_41 : decode cX0_take 41 = .ok (.getfield 18, 3) ∧ 41 + 3 = 44 := by decide +kernel
theorem e_X0_take_44 : decode cX0_take 44 = .ok (.iconst 0, 1) ∧ 44 + 1 = 45 := by decide +kernel
theorem e_X0_take_45 : decode cX0_take 45 = .ok (.bipush 12, 2) ∧ 45 + 2 = 47 := by decide +kernel
theorem e_X0_take_47 : decode cX0_take 47 = .ok (.invokestatic 53, 3) ∧ 47 + 3 = 50 := by decide +kernel
theorem e_X0_take_50 : decode cX0_take 50 = .ok (.aload_n 1, 1) ∧ 50 + 1 = 51 := by decide +kernel
theorem e_X0_take_51 : decode cX0_take 51 = .ok (.getfield 21, 3) ∧ 51 + 3 = 54 := by decide +kernel
theorem e_X0_take_54 : decode cX0_take 54 = .ok (.iconst 0, 1) ∧ 54 + 1 = 55 := by decide +kernel
theorem e_X0_take_55 : decode cX0_take 55 = .ok (.aload_n 0, 1) ∧ 55 + 1 = 56 := by decide +kernel
theorem e_X0_take_56 : decode cX0_take 56 = .ok (.getfield 21, 3) ∧ 56 + 3 = 59 := by decide +kernel
theorem e_X0_take_59 : decode cX0_take 59 = .ok (.iconst 0, 1) ∧ 59 + 1 = 60 := by decide +kernel
theorem e_X0_take_60 : decode cX0_take 60 = .ok (.bipush 12, 2) ∧ 60 + 2 = 62 := by decide +kernel
theorem e_X0_take_62 : decode cX0_take 62 = .ok (.invokestatic 53, 3) ∧ 62 + 3 = 65 := by decide +kernel
theorem e_X0_take_65 : decode cX0_take 65 = .ok (.aload_n 1, 1) ∧ 65 + 1 = 66 := by decide +kernel
theorem e_X0_take_66 : decode cX0_take 66 = .ok (.getfield 24, 3) ∧ 66 + 3 = 69 := by decide +kernel
theorem e_X0_take_69 : decode cX0_take 69 = .ok (.iconst 0, 1) ∧ 69 + 1 = 70 := by decide +kernel
theorem e_X0_take_70 : decode cX0_take 70 = .ok (.aload_n 0, 1) ∧ 70 + 1 = 71 := by decide +kernel
theorem e_X0_take_71 : decode cX0_take 71 = .ok (.getfield 24, 3) ∧ 71 + 3 = 74 := by decide +kernel
theorem e_X0_take_74 : decode cX0_take 74 = .ok (.iconst 0, 1) ∧ 74 + 1 = 75 := by decide +kernel
theorem e_X0_take_75 : decode cX0_take 75 = .ok (.iconst 4, 1) ∧ 75 + 1 = 76 := by decide +kernel
theorem e_X0_take_76 : decode cX0_take 76 = .ok (.invokestatic 53, 3) ∧ 76 + 3 = 79 := by decide +kernel
theorem e_X0_take_79 : decode cX0_take 79 = .ok (.aload_n 0, 1) ∧ 79 + 1 = 80 := by decide +kernel
theorem e_X0_take_80 : decode cX0_take 80 = .ok (.aload_n 1, 1) ∧ 80 + 1 = 81 := by decide +kernel
theorem e_X0_take_81 : decode cX0_take 81 = .ok (.getfield 27, 3) ∧ 81 + 3 = 84 := by decide +kernel
theorem e_X0_take_84 : decode cX0_take 84 = .ok (.putfield 27, 3) ∧ 84 + 3 = 87 := by decide +kernel
theorem e_X0_take_87 : decode cX0_take 87 = .ok (.aload_n 0, 1) ∧ 87 + 1 = 88 := by decide +kernel
theorem e_X0_take_88 : decode cX0_take 88 = .ok (.aload_n 1, 1) ∧ 88 + 1 = 89 := by decide +kernel
theorem e_X0_take_89 : decode cX0_take 89 = .ok (.getfield 35, 3) ∧ 89 + 3 = 92 := by decide +kernel
theorem e_X0_take_92 : decode cX0_take 92 = .ok (.putfield 35, 3) ∧ 92 + 3 = 95 := by decide +kernel
theorem e_X0_take_95 : decode cX0_take 95 = .ok (.aload_n 0, 1) ∧ 95 + 1 = 96 := by decide +kernel
theorem e_X0_take_96 : decode cX0_take 96 = .ok (.aload_n 1, 1) ∧ 96 + 1 = 97 := by decide +kernel
theorem e_X0_take_97 : decode cX0_take 97 = .ok (.getfield 38, 3) ∧ 97 + 3 = 100 := by decide +kernel
theorem e_X0_take_100 : decode cX0_take 100 = .ok (.putfield 38, 3) ∧ 100 + 3 = 103 := by decide +kernel
theorem e_X0_take_103 : decode cX0_take 103 = .ok (.aload_n 0, 1) ∧ 103 + 1 = 104 := by decide +kernel
theorem e_X0_take_104 : decode cX0_take 104 = .ok (.aload_n 1, 1) ∧ 104 + 1 = 105 := by decide +kernel
theorem e_X0_take_105 : decode cX0_take 105 = .ok (.getfield 41, 3) ∧ 105 + 3 = 108 := by decide +kernel
theorem e_X0_take_108 : decode cX0_take 108 = .ok (.putfield 41, 3) ∧ 108 + 3 = 111 := by decide +kernel
theorem e_X0_take_111 : decode cX0_take 111 = .ok (.aload_n 0, 1) ∧ 111 + 1 = 112 := by decide +kernel
theorem e_X0_take_112 : decode cX0_take 112 = .ok (.aload_n 1, 1) ∧ 112 + 1 = 113 := by decide +kernel
theorem e_X0_take_113 : decode cX0_take 113 = .ok (.getfield 44, 3) ∧ 113 + 3 = 116 := by decide +kernel
theorem e_X0_take_116 : decode cX0_take 116 = .ok (.putfield 44, 3) ∧ 116 + 3 = 119 := by decide +kernel
theorem e_X0_take_119 : decode cX0_take 119 = .ok (.aload_n 0, 1) ∧ 119 + 1 = 120 := by decide +kernel
theorem e_X0_take_120 : decode cX0_take 120 = .ok (.aload_n 1, 1) ∧ 120 + 1 = 121 := by decide +kernel
theorem e_X0_take_121 : decode cX0_take 121 = .ok (.getfield 47, 3) ∧ 121 + 3 = 124 := by decide +kernel
theorem e_X0_take_124 : decode cX0_take 124 = .ok (.putfield 47, 3) ∧ 124 + 3 = 127 := by decide +kernel
theorem e_X0_take_127 : decode cX0_take 127 = .ok (.aload_n 0, 1) ∧ 127 + 1 = 128 := by decide +kernel
theorem e_X0_take_128 : decode cX0_take 128 = .ok (.aload_n 1, 1) ∧ 128 + 1 = 129 := by decide +kernel
theorem e_X0_take_129 : decode cX0_take 129 = .ok (.getfield 50, 3) ∧ 129 + 3 = 132 := by decide +kernel
theorem e_X0_take_132 : decode cX0_take 132 = .ok (.putfield 50, 3) ∧ 132 + 3 = 135 := by decide +kernel
theorem e_X0_take_135 : decode cX0_take 135 = .ok (.return_, 1) := by decide +kernel
theorem e_X0_isFallen_0 : decode cX0_isFallen 0 = .ok (.aload_n 0, 1) ∧ 0 + 1 = 1 := by decide +kernel
theorem e_X0_isFallen_1 : decode cX0_isFallen 1 = .ok (.getfield 44, 3) ∧ 1 + 3 = 4 := by decide +kernel
theorem e_X0_isFallen_4 : decode cX0_isFallen 4 = .ok (.iload_n 1, 1) ∧ 4 + 1 = 5 := by decide +kernel
theorem e_X0_isFallen_5 : decode cX0_isFallen 5 = .ok (.invokestatic 59, 3) ∧ 5 + 3 = 8 := by decide +kernel
theorem e_X0_isFallen_8 : decode cX0_isFallen 8 = .ok (.ireturn, 1) := by decide +kernel
theorem e_X0_isMonk_0 : decode cX0_isMonk 0 = .ok (.iload_n 1, 1) ∧ 0 + 1 = 1 := by decide +kernel
theorem e_X0_isMonk_1 : decode cX0_isMonk 1 = .ok (.ifCond .lt 15, 3) ∧ 1 + 3 = 4 ∧ ((1 : Nat) : Int) + (15) = ((16 : Nat) : Int) := by decide +kernel
theorem e_X0_isMonk_4 : decode cX0_isMonk 4 = .ok (.iload_n 1, 1) ∧ 4 + 1 = 5 := by decide +kernel
theorem e_X0_isMonk_5 : decode cX0_isMonk 5 = .ok (.aload_n 0, 1) ∧ 5 + 1 = 6 := by decide +kernel
theorem e_X0_isMonk_6 : decode cX0_isMonk 6 = .ok (.getfield 35, 3) ∧ 6 + 3 = 9 := by decide +kernel
theorem e_X0_isMonk_9 : decode cX0_isMonk 9 = .ok (.if_icmp .ge 7, 3) ∧ 9 + 3 = 12 ∧ ((9 : Nat) : Int) + (7) = ((16 : Nat) : Int) := by decide +kernel
theorem e_X0_isMonk_12 : decode cX0_isMonk 12 = .ok (.iconst 1, 1) ∧ 12 + 1 = 13 := by decide +kernel
theorem e_X0_isMonk_13 : decode cX0_isMonk 13 = .ok (.goto 4, 3) ∧ 13 + 3 = 16 ∧ ((13 : Nat) : Int) + (4) = ((17 : Nat) : Int) := by decide +kernel
theorem e_X0_isMonk_16 : decode cX0_isMonk 16 = .ok (.iconst 0, 1) ∧ 16 + 1 = 17 := by decide +kernel
theorem e_X0_isMonk_17 : decode cX0_isMonk 17 = .ok (.ireturn, 1) := by decide +kernel
theorem e_X0_isLiving_0 : decode cX0_isLiving 0 = .ok (.aload_n 0, 1) ∧ 0 + 1 = 1 := by decide +kernel
theorem e_X0_isLiving_1 : decode cX0_isLiving 1 = .ok (.iload_n 1, 1) ∧ 1 + 1 = 2 := by decide +kernel
theorem e_X0_isLiving_2 : decode cX0_isLiving 2 = .ok (.invokevirtual 63, 3) ∧ 2 + 3 = 5 := by decide +kernel
theorem e_X0_isLiving_5 : decode cX0_isLiving 5 = .ok (.ifCond .eq 18, 3) ∧ 5 + 3 = 8 ∧ ((5 : Nat) : Int) + (18) = ((23 : Nat) : Int) := by decide +kernel
theorem e_X0_isLiving_8 : decode cX0_isLiving 8 = .ok (.aload_n 0, 1) ∧ 8 + 1 = 9 := by decide +kernel
theorem e_X0_isLiving_9 : decode cX0_isLiving 9 = .ok (.getfield 41, 3) ∧ 9 + 3 = 12 := by decide +kernel
theorem e_X0_isLiving_12 : decode cX0_isLiving 12 = .ok (.iload_n 1, 1) ∧ 12 + 1 = 13 := by decide +kernel
theorem e_X0_isLiving_13 : decode cX0_isLiving 13 = .ok (.invokestatic 59, 3) ∧ 13 + 3 = 16 := by decide +kernel
theorem e_X0_isLiving_16 : decode cX0_isLiving 16 = .ok (.ifCond .ne 7, 3) ∧ 16 + 3 = 19 ∧ ((16 : Nat) : Int) + (7) = ((23 : Nat) : Int) := by decide +kernel
theorem e_X0_isLiving_19 : decode cX0_isLiving 19 = .ok (.iconst 1, 1) ∧ 19 + 1 = 20 := by decide +kernel
theorem e_X0_isLiving_20 : decode cX0_isLiving 20 = .ok (.goto 4, 3) ∧ 20 + 3 = 23 ∧ ((20 : Nat) : Int) + (4) = ((24 : Nat) : Int) := by decide +kernel
theorem e_X0_isLiving_23 : decode cX0_isLiving 23 = .ok (.iconst 0, 1) ∧ 23 + 1 = 24 := by decide +kernel
theorem e_X0_isLiving_24 : decode cX0_isLiving 24 = .ok (.ireturn, 1) := by decide +kernel
theorem e_X0_living_0 : decode cX0_living 0 = .ok (.iconst 1, 1) ∧ 0 + 1 = 1 := by decide +kernel
theorem e_X0_living_1 : decode cX0_living 1 = .ok (.aload_n 0, 1) ∧ 1 + 1 = 2 := by decide +kernel
theorem e_X0_living_2 : decode cX0_living 2 = .ok (.getfield 35, 3) ∧ 2 + 3 = 5 := by decide +kernel
theorem e_X0_living_5 : decode cX0_living 5 = .ok (.ishl, 1) ∧ 5 + 1 = 6 := by decide +kernel
theorem e_X0_living_6 : decode cX0_living 6 = .ok (.iconst 1, 1) ∧ 6 + 1 = 7 := by decide +kernel
theorem e_X0_living_7 : decode cX0_living 7 = .ok (.isub, 1) ∧ 7 + 1 = 8 := by decide +kernel
theorem e_X0_living_8 : decode cX0_living 8 = .ok (.aload_n 0, 1) ∧ 8 + 1 = 9 := by decide +kernel
theorem e_X0_living_9 : decode cX0_living 9 = .ok (.getfield 41, 3) ∧ 9 + 3 = 12 := by decide +kernel
theorem e_X0_living_12 : decode cX0_living 12 = .ok (.iconst (-1), 1) ∧ 12 + 1 = 13 := by decide +kernel
theorem e_X0_living_13 : decode cX0_living 13 = .ok (.ixor, 1) ∧ 13 + 1 = 14 := by decide +kernel
theorem e_X0_living_14 : decode cX0_living 14 = .ok (.iand, 1) ∧ 14 + 1 = 15 := by decide +kernel
theorem e_X0_living_15 : decode cX0_living 15 = .ok (.ireturn, 1) := by decide +kernel
theorem e_X0_placeOf_0 : decode cX0_placeOf 0 = .ok (.aload_n 0, 1) ∧ 0 + 1 = 1 := by decide +kernel
theorem e_X0_placeOf_1 : decode cX0_placeOf 1 = .ok (.getfield 24, 3) ∧ 1 + 3 = 4 := by decide +kernel
theorem e_X0_placeOf_4 : decode cX0_placeOf 4 = .ok (.iload_n 1, 1) ∧ 4 + 1 = 5 := by decide +kernel
theorem e_X0_placeOf_5 : decode cX0_placeOf 5 = .ok (.invokestatic 67, 3) ∧ 5 + 3 = 8 := by decide +kernel
theorem e_X0_placeOf_8 : decode cX0_placeOf 8 = .ok (.ireturn, 1) := by decide +kernel
theorem e_X0_addMonk_0 : decode cX0_addMonk 0 = .ok (.aload_n 0, 1) ∧ 0 + 1 = 1 := by decide +kernel
theorem e_X0_addMonk_1 : decode cX0_addMonk 1 = .ok (.getfield 24, 3) ∧ 1 + 3 = 4 := by decide +kernel
theorem e_X0_addMonk_4 : decode cX0_addMonk 4 = .ok (.aload_n 0, 1) ∧ 4 + 1 = 5 := by decide +kernel
theorem e_X0_addMonk_5 : decode cX0_addMonk 5 = .ok (.getfield 35, 3) ∧ 5 + 3 = 8 := by decide +kernel
theorem e_X0_addMonk_8 : decode cX0_addMonk 8 = .ok (.iload_n 1, 1) ∧ 8 + 1 = 9 := by decide +kernel
theorem e_X0_addMonk_9 : decode cX0_addMonk 9 = .ok (.invokestatic 71, 3) ∧ 9 + 3 = 12 := by decide +kernel
theorem e_X0_addMonk_12 : decode cX0_addMonk 12 = .ok (.aload_n 0, 1) ∧ 12 + 1 = 13 := by decide +kernel
theorem e_X0_addMonk_13 : decode cX0_addMonk 13 = .ok (.dup, 1) ∧ 13 + 1 = 14 := by decide +kernel
theorem e_X0_addMonk_14 : decode cX0_addMonk 14 = .ok (.getfield 38, 3) ∧ 14 + 3 = 17 := by decide +kernel
theorem e_X0_addMonk_17 : decode cX0_addMonk 17 = .ok (.iload_n 2, 1) ∧ 17 + 1 = 18 := by decide +kernel
theorem e_X0_addMonk_18 : decode cX0_addMonk 18 = .ok (.aload_n 0, 1) ∧ 18 + 1 = 19 := by decide +kernel
theorem e_X0_addMonk_19 : decode cX0_addMonk 19 = .ok (.getfield 35, 3) ∧ 19 + 3 = 22 := by decide +kernel
theorem e_X0_addMonk_22 : decode cX0_addMonk 22 = .ok (.ishl, 1) ∧ 22 + 1 = 23 := by decide +kernel
theorem e_X0_addMonk_23 : decode cX0_addMonk 23 = .ok (.ior, 1) ∧ 23 + 1 = 24 := by decide +kernel
theorem e_X0_addMonk_24 : decode cX0_addMonk 24 = .ok (.putfield 38, 3) ∧ 24 + 3 = 27 := by decide +kernel
theorem e_X0_addMonk_27 : decode cX0_addMonk 27 = .ok (.aload_n 0, 1) ∧ 27 + 1 = 28 := by decide +kernel
theorem e_X0_addMonk_28 : decode cX0_addMonk 28 = .ok (.dup, 1) ∧ 28 + 1 = 29 := by decide +kernel
theorem e_X0_addMonk_29 : decode cX0_addMonk 29 = .ok (.getfield 35, 3) ∧ 29 + 3 = 32 := by decide +kernel
theorem e_X0_addMonk_32 : decode cX0_addMonk 32 = .ok (.iconst 1, 1) ∧ 32 + 1 = 33 := by decide +kernel
theorem e_X0_addMonk_33 : decode cX0_addMonk 33 = .ok (.iadd, 1) ∧ 33 + 1 = 34 := by decide +kernel
theorem e_X0_addMonk_34 : decode cX0_addMonk 34 = .ok (.putfield 35, 3) ∧ 34 + 3 = 37 := by decide +kernel
theorem e_X0_addMonk_37 : decode cX0_addMonk 37 = .ok (.return_, 1) := by decide +kernel
theorem e_X0_monksOn_0 : decode cX0_monksOn 0 = .ok (.iconst 0, 1) ∧ 0 + 1 = 1 := by decide +kernel
theorem e_X0_monksOn_1 : decode cX0_monksOn 1 = .ok (.istore_n 2, 1) ∧ 1 + 1 = 2 := by decide +kernel
theorem e_X0_monksOn_2 : decode cX0_monksOn 2 = .ok (.iconst 0, 1) ∧ 2 + 1 = 3 := by decide +kernel
theorem e_X0_monksOn_3 : decode cX0_monksOn 3 = .ok (.istore_n 3, 1) ∧ 3 + 1 = 4 := by decide +kernel
theorem e_X0_monksOn_4 : decode cX0_monksOn 4 = .ok (.iload_n 3, 1) ∧ 4 + 1 = 5 := by decide +kernel
theorem e_X0_monksOn_5 : decode cX0_monksOn 5 = .ok (.aload_n 0, 1) ∧ 5 + 1 = 6 := by decide +kernel
theorem e_X0_monksOn_6 : decode cX0_monksOn 6 = .ok (.getfield 35, 3) ∧ 6 + 3 = 9 := by decide +kernel
theorem e_X0_monksOn_9 : decode cX0_monksOn 9 = .ok (.if_icmp .ge 33, 3) ∧ 9 + 3 = 12 ∧ ((9 : Nat) : Int) + (33) = ((42 : Nat) : Int) := by decide +kernel
theorem e_X0_monksOn_12 : decode cX0_monksOn 12 = .ok (.iload_n 3, 1) ∧ 12 + 1 = 13 := by decide +kernel
theorem e_X0_monksOn_13 : decode cX0_monksOn 13 = .ok (.aload_n 0, 1) ∧ 13 + 1 = 14 := by decide +kernel
theorem e_X0_monksOn_14 : decode cX0_monksOn 14 = .ok (.getfield 24, 3) ∧ 14 + 3 = 17 := by decide +kernel
theorem e_X0_monksOn_17 : decode cX0_monksOn 17 = .ok (.arraylength, 1) ∧ 17 + 1 = 18 := by decide +kernel
theorem e_X0_monksOn_18 : decode cX0_monksOn 18 = .ok (.if_icmp .ge 24, 3) ∧ 18 + 3 = 21 ∧ ((18 : Nat) : Int) + (24) = ((42 : Nat) : Int) := by decide +kernel
theorem e_X0_monksOn_21 : decode cX0_monksOn 21 = .ok (.iload_n 2, 1) ∧ 21 + 1 = 22 := by decide +kernel
theorem e_X0_monksOn_22 : decode cX0_monksOn 22 = .ok (.iload_n 1, 1) ∧ 22 + 1 = 23 := by decide +kernel
theorem e_X0_monksOn_23 : decode cX0_monksOn 23 = .ok (.aload_n 0, 1) ∧ 23 + 1 = 24 := by decide +kernel
theorem e_X0_monksOn_24 : decode cX0_monksOn 24 = .ok (.getfield 24, 3) ∧ 24 + 3 = 27 := by decide +kernel
theorem e_X0_monksOn_27 : decode cX0_monksOn 27 = .ok (.iload_n 3, 1) ∧ 27 + 1 = 28 := by decide +kernel
theorem e_X0_monksOn_28 : decode cX0_monksOn 28 = .ok (.iaload, 1) ∧ 28 + 1 = 29 := by decide +kernel
theorem e_X0_monksOn_29 : decode cX0_monksOn 29 = .ok (.ishr, 1) ∧ 29 + 1 = 30 := by decide +kernel
theorem e_X0_monksOn_30 : decode cX0_monksOn 30 = .ok (.iconst 1, 1) ∧ 30 + 1 = 31 := by decide +kernel
theorem e_X0_monksOn_31 : decode cX0_monksOn 31 = .ok (.iand, 1) ∧ 31 + 1 = 32 := by decide +kernel
theorem e_X0_monksOn_32 : decode cX0_monksOn 32 = .ok (.iload_n 3, 1) ∧ 32 + 1 = 33 := by decide +kernel
theorem e_X0_monksOn_33 : decode cX0_monksOn 33 = .ok (.ishl, 1) ∧ 33 + 1 = 34 := by decide +kernel
theorem e_X0_monksOn_34 : decode cX0_monksOn 34 = .ok (.ior, 1) ∧ 34 + 1 = 35 := by decide +kernel
theorem e_X0_monksOn_35 : decode cX0_monksOn 35 = .ok (.istore_n 2, 1) ∧ 35 + 1 = 36 := by decide +kernel
theorem e_X0_monksOn_36 : decode cX0_monksOn 36 = .ok (.iinc 3 1, 3) ∧ 36 + 3 = 39 := by decide +kernel
theorem e_X0_monksOn_39 : decode cX0_monksOn 39 = .ok (.goto (-35), 3) ∧ 39 + 3 = 42 ∧ ((39 : Nat) : Int) + (-35) = ((4 : Nat) : Int) := by decide +kernel
theorem e_X0_monksOn_42 : decode cX0_monksOn 42 = .ok (.iload_n 2, 1) ∧ 42 + 1 = 43 := by decide +kernel
theorem e_X0_monksOn_43 : decode cX0_monksOn 43 = .ok (.ireturn, 1) := by decide +kernel
theorem e_X0_oreLeft_0 : decode cX0_oreLeft 0 = .ok (.iconst 0, 1) ∧ 0 + 1 = 1 := by decide +kernel
theorem e_X0_oreLeft_1 : decode cX0_oreLeft 1 = .ok (.istore_n 1, 1) ∧ 1 + 1 = 2 := by decide +kernel
theorem e_X0_oreLeft_2 : decode cX0_oreLeft 2 = .ok (.iconst 0, 1) ∧ 2 + 1 = 3 := by decide +kernel
theorem e_X0_oreLeft_3 : decode cX0_oreLeft 3 = .ok (.istore_n 2, 1) ∧ 3 + 1 = 4 := by decide +kernel
theorem e_X0_oreLeft_4 : decode cX0_oreLeft 4 = .ok (.iload_n 2, 1) ∧ 4 + 1 = 5 := by decide +kernel
theorem e_X0_oreLeft_5 : decode cX0_oreLeft 5 = .ok (.aload_n 0, 1) ∧ 5 + 1 = 6 := by decide +kernel
theorem e_X0_oreLeft_6 : decode cX0_oreLeft 6 = .ok (.getfield 9, 3) ∧ 6 + 3 = 9 := by decide +kernel
theorem e_X0_oreLeft_9 : decode cX0_oreLeft 9 = .ok (.arraylength, 1) ∧ 9 + 1 = 10 := by decide +kernel
theorem e_X0_oreLeft_10 : decode cX0_oreLeft 10 = .ok (.if_icmp .ge 18, 3) ∧ 10 + 3 = 13 ∧ ((10 : Nat) : Int) + (18) = ((28 : Nat) : Int) := by decide +kernel
theorem e_X0_oreLeft_13 : decode cX0_oreLeft 13 = .ok (.iload_n 1, 1) ∧ 13 + 1 = 14 := by decide +kernel
theorem e_X0_oreLeft_14 : decode cX0_oreLeft 14 = .ok (.aload_n 0, 1) ∧ 14 + 1 = 15 := by decide +kernel
theorem e_X0_oreLeft_15 : decode cX0_oreLeft 15 = .ok (.getfield 9, 3) ∧ 15 + 3 = 18 := by decide +kernel
theorem e_X0_oreLeft_18 : decode cX0_oreLeft 18 = .ok (.iload_n 2, 1) ∧ 18 + 1 = 19 := by decide +kernel
theorem e_X0_oreLeft_19 : decode cX0_oreLeft 19 = .ok (.iaload, 1) ∧ 19 + 1 = 20 := by decide +kernel
theorem e_X0_oreLeft_20 : decode cX0_oreLeft 20 = .ok (.iadd, 1) ∧ 20 + 1 = 21 := by decide +kernel
theorem e_X0_oreLeft_21 : decode cX0_oreLeft 21 = .ok (.istore_n 1, 1) ∧ 21 + 1 = 22 := by decide +kernel
theorem e_X0_oreLeft_22 : decode cX0_oreLeft 22 = .ok (.iinc 2 1, 3) ∧ 22 + 3 = 25 := by decide +kernel
theorem e_X0_oreLeft_25 : decode cX0_oreLeft 25 = .ok (.goto (-21), 3) ∧ 25 + 3 = 28 ∧ ((25 : Nat) : Int) + (-21) = ((4 : Nat) : Int) := by decide +kernel
theorem e_X0_oreLeft_28 : decode cX0_oreLeft 28 = .ok (.iload_n 1, 1) ∧ 28 + 1 = 29 := by decide +kernel
theorem e_X0_oreLeft_29 : decode cX0_oreLeft 29 = .ok (.ireturn, 1) := by decide +kernel
theorem e_X0_forceOf_0 : decode cX0_forceOf 0 = .ok (.aload_n 0, 1) ∧ 0 + 1 = 1 := by decide +kernel
theorem e_X0_forceOf_1 : decode cX0_forceOf 1 = .ok (.invokevirtual 75, 3) ∧ 1 + 3 = 4 := by decide +kernel
theorem e_X0_forceOf_4 : decode cX0_forceOf 4 = .ok (.istore_n 2, 1) ∧ 4 + 1 = 5 := by decide +kernel
theorem e_X0_forceOf_5 : decode cX0_forceOf 5 = .ok (.iload_n 2, 1) ∧ 5 + 1 = 6 := by decide +kernel
theorem e_X0_forceOf_6 : decode cX0_forceOf 6 = .ok (.iload_n 1, 1) ∧ 6 + 1 = 7 := by decide +kernel
theorem e_X0_forceOf_7 : decode cX0_forceOf 7 = .ok (.invokestatic 59, 3) ∧ 7 + 3 = 10 := by decide +kernel
theorem e_X0_forceOf_10 : decode cX0_forceOf 10 = .ok (.ifCond .ne 5, 3) ∧ 10 + 3 = 13 ∧ ((10 : Nat) : Int) + (5) = ((15 : Nat) : Int) := by decide +kernel
theorem e_X0_forceOf_13 : decode cX0_forceOf 13 = .ok (.iconst 0, 1) ∧ 13 + 1 = 14 := by decide +kernel
theorem e_X0_forceOf_14 : decode cX0_forceOf 14 = .ok (.ireturn, 1) := by decide +kernel
theorem e_X0_forceOf_15 : decode cX0_forceOf 15 = .ok (.aload_n 0, 1) ∧ 15 + 1 = 16 := by decide +kernel
theorem e_X0_forceOf_16 : decode cX0_forceOf 16 = .ok (.iload_n 1, 1) ∧ 16 + 1 = 17 := by decide +kernel
theorem e_X0_forceOf_17 : decode cX0_forceOf 17 = .ok (.invokevirtual 79, 3) ∧ 17 + 3 = 20 := by decide +kernel
theorem e_X0_forceOf_20 : decode cX0_forceOf 20 = .ok (.istore_n 3, 1) ∧ 20 + 1 = 21 := by decide +kernel
theorem e_X0_forceOf_21 : decode cX0_forceOf 21 = .ok (.aload_n 0, 1) ∧ 21 + 1 = 22 := by decide +kernel
theorem e_X0_forceOf_22 : decode cX0_forceOf 22 = .ok (.getfield 38, 3) ∧ 22 + 3 = 25 := by decide +kernel
theorem e_X0_forceOf_25 : decode cX0_forceOf 25 = .ok (.iload_n 1, 1) ∧ 25 + 1 = 26 := by decide +kernel
theorem e_X0_forceOf_26 : decode cX0_forceOf 26 = .ok (.invokestatic 59, 3) ∧ 26 + 3 = 29 := by decide +kernel
theorem e_X0_forceOf_29 : decode cX0_forceOf 29 = .ok (.ifCond .eq 12, 3) ∧ 29 + 3 = 32 ∧ ((29 : Nat) : Int) + (12) = ((41 : Nat) : Int) := by decide +kernel
theorem e_X0_forceOf_32 : decode cX0_forceOf 32 = .ok (.aload_n 0, 1) ∧ 32 + 1 = 33 := by decide +kernel
theorem e_X0_forceOf_33 : decode cX0_forceOf 33 = .ok (.getfield 38, 3) ∧ 33 + 3 = 36 := by decide +kernel
theorem e_X0_forceOf_36 : decode cX0_forceOf 36 = .ok (.iconst (-1), 1) ∧ 36 + 1 = 37 := by decide +kernel
theorem e_X0_forceOf_37 : decode cX0_forceOf 37 = .ok (.ixor, 1) ∧ 37 + 1 = 38 := by decide +kernel
theorem e_X0_forceOf_38 : decode cX0_forceOf 38 = .ok (.goto 7, 3) ∧ 38 + 3 = 41 ∧ ((38 : Nat) : Int) + (7) = ((45 : Nat) : Int) := by decide +kernel
theorem e_X0_forceOf_41 : decode cX0_forceOf 41 = .ok (.aload_n 0, 1) ∧ 41 + 1 = 42 := by decide +kernel
theorem e_X0_forceOf_42 : decode cX0_forceOf 42 = .ok (.getfield 38, 3) ∧ 42 + 3 = 45 := by decide +kernel
theorem e_X0_forceOf_45 : decode cX0_forceOf 45 = .ok (.istore 4, 2) ∧ 45 + 2 = 47 := by decide +kernel
theorem e_X0_forceOf_47 : decode cX0_forceOf 47 = .ok (.aload_n 0, 1) ∧ 47 + 1 = 48 := by decide +kernel
theorem e_X0_forceOf_48 : decode cX0_forceOf 48 = .ok (.iconst 1, 1) ∧ 48 + 1 = 49 := by decide +kernel
theorem e_X0_forceOf_49 : decode cX0_forceOf 49 = .ok (.iload_n 3, 1) ∧ 49 + 1 = 50 := by decide +kernel
theorem e_X0_forceOf_50 : decode cX0_forceOf 50 = .ok (.ishl, 1) ∧ 50 + 1 = 51 := by decide +kernel
theorem e_X0_forceOf_51 : decode cX0_forceOf 51 = .ok (.getstatic 83, 3) ∧ 51 + 3 = 54 := by decide +kernel
theorem e_X0_forceOf_54 : decode cX0_forceOf 54 = .ok (.iload_n 3, 1) ∧ 54 + 1 = 55 := by decide +kernel
theorem e_X0_forceOf_55 : decode cX0_forceOf 55 = .ok (.invokestatic 67, 3) ∧ 55 + 3 = 58 := by decide +kernel
theorem e_X0_forceOf_58 : decode cX0_forceOf 58 = .ok (.ior, 1) ∧ 58 + 1 = 59 := by decide +kernel
theorem e_X0_forceOf_59 : decode cX0_forceOf 59 = .ok (.invokevirtual 86, 3) ∧ 59 + 3 = 62 := by decide +kernel
theorem e_X0_forceOf_62 : decode cX0_forceOf 62 = .ok (.istore 5, 2) ∧ 62 + 2 = 64 := by decide +kernel
theorem e_X0_forceOf_64 : decode cX0_forceOf 64 = .ok (.iload 5, 2) ∧ 64 + 2 = 66 := by decide +kernel
theorem e_X0_forceOf_66 : decode cX0_forceOf 66 = .ok (.iload 4, 2) ∧ 66 + 2 = 68 := by decide +kernel
theorem e_X0_forceOf_68 : decode cX0_forceOf 68 = .ok (.iand, 1) ∧ 68 + 1 = 69 := by decide +kernel
theorem e_X0_forceOf_69 : decode cX0_forceOf 69 = .ok (.iload_n 2, 1) ∧ 69 + 1 = 70 := by decide +kernel
theorem e_X0_forceOf_70 : decode cX0_forceOf 70 = .ok (.iand, 1) ∧ 70 + 1 = 71 := by decide +kernel
theorem e_X0_forceOf_71 : decode cX0_forceOf 71 = .ok (.ifCond .eq 7, 3) ∧ 71 + 3 = 74 ∧ ((71 : Nat) : Int) + (7) = ((78 : Nat) : Int) := by decide +kernel
theorem e_X0_forceOf_74 : decode cX0_forceOf 74 = .ok (.iconst 2, 1) ∧ 74 + 1 = 75 := by decide +kernel
theorem e_X0_forceOf_75 : decode cX0_forceOf 75 = .ok (.goto 4, 3) ∧ 75 + 3 = 78 ∧ ((75 : Nat) : Int) + (4) = ((79 : Nat) : Int) := by decide +kernel
theorem e_X0_forceOf_78 : decode cX0_forceOf 78 = .ok (.iconst 1, 1) ∧ 78 + 1 = 79 := by decide +kernel
theorem e_X0_forceOf_79 : decode cX0_forceOf 79 = .ok (.ireturn, 1) := by decide +kernel
theorem e_X0_prayer_0 : decode cX0_prayer 0 = .ok (.aload_n 0, 1) ∧ 0 + 1 = 1 := by decide +kernel
theorem e_X0_prayer_1 : decode cX0_prayer 1 = .ok (.iload_n 1, 1) ∧ 1 + 1 = 2 := by decide +kernel
theorem e_X0_prayer_2 : decode cX0_prayer 2 = .ok (.invokevirtual 89, 3) ∧ 2 + 3 = 5 := by decide +kernel
theorem e_X0_prayer_5 : decode cX0_prayer 5 = .ok (.aload_n 0, 1) ∧ 5 + 1 = 6 := by decide +kernel
theorem e_X0_prayer_6 : decode cX0_prayer 6 = .ok (.invokevirtual 92, 3) ∧ 6 + 3 = 9 := by decide +kernel
theorem e_X0_prayer_9 : decode cX0_prayer 9 = .ok (.ireturn, 1) := by decide +kernel
theorem e_X0_prayAll_0 : decode cX0_prayAll 0 = .ok (.iconst 0, 1) ∧ 0 + 1 = 1 := by decide +kernel
theorem e_X0_prayAll_1 : decode cX0_prayAll 1 = .ok (.istore_n 2, 1) ∧ 1 + 1 = 2 := by decide +kernel
theorem e_X0_prayAll_2 : decode cX0_prayAll 2 = .ok (.iload_n 2, 1) ∧ 2 + 1 = 3 := by decide +kernel
theorem e_X0_prayAll_3 : decode cX0_prayAll 3 = .ok (.iconst 4, 1) ∧ 3 + 1 = 4 := by decide +kernel
theorem e_X0_prayAll_4 : decode cX0_prayAll 4 = .ok (.if_icmp .ge 31, 3) ∧ 4 + 3 = 7 ∧ ((4 : Nat) : Int) + (31) = ((35 : Nat) : Int) := by decide +kernel
theorem e_X0_prayAll_7 : decode cX0_prayAll 7 = .ok (.iload_n 1, 1) ∧ 7 + 1 = 8 := by decide +kernel
theorem e_X0_prayAll_8 : decode cX0_prayAll 8 = .ok (.iload_n 2, 1) ∧ 8 + 1 = 9 := by decide +kernel
theorem e_X0_prayAll_9 : decode cX0_prayAll 9 = .ok (.invokestatic 59, 3) ∧ 9 + 3 = 12 := by decide +kernel
theorem e_X0_prayAll_12 : decode cX0_prayAll 12 = .ok (.ifCond .eq 17, 3) ∧ 12 + 3 = 15 ∧ ((12 : Nat) : Int) + (17) = ((29 : Nat) : Int) := by decide +kernel
theorem e_X0_prayAll_15 : decode cX0_prayAll 15 = .ok (.aload_n 0, 1) ∧ 15 + 1 = 16 := by decide +kernel
theorem e_X0_prayAll_16 : decode cX0_prayAll 16 = .ok (.iload_n 2, 1) ∧ 16 + 1 = 17 := by decide +kernel
theorem e_X0_prayAll_17 : decode cX0_prayAll 17 = .ok (.invokevirtual 95, 3) ∧ 17 + 3 = 20 := by decide +kernel
theorem e_X0_prayAll_20 : decode cX0_prayAll 20 = .ok (.ifCond .eq 9, 3) ∧ 20 + 3 = 23 ∧ ((20 : Nat) : Int) + (9) = ((29 : Nat) : Int) := by decide +kernel
theorem e_X0_prayAll_23 : decode cX0_prayAll 23 = .ok (.aload_n 0, 1) ∧ 23 + 1 = 24 := by decide +kernel
theorem e_X0_prayAll_24 : decode cX0_prayAll 24 = .ok (.iload_n 2, 1) ∧ 24 + 1 = 25 := by decide +kernel
theorem e_X0_prayAll_25 : decode cX0_prayAll 25 = .ok (.invokevirtual 98, 3) ∧ 25 + 3 = 28 := by decide +kernel
theorem e_X0_prayAll_28 : decode cX0_prayAll 28 = .ok (.pop, 1) ∧ 28 + 1 = 29 := by decide +kernel
theorem e_X0_prayAll_29 : decode cX0_prayAll 29 = .ok (.iinc 2 1, 3) ∧ 29 + 3 = 32 := by decide +kernel
theorem e_X0_prayAll_32 : decode cX0_prayAll 32 = .ok (.goto (-30), 3) ∧ 32 + 3 = 35 ∧ ((32 : Nat) : Int) + (-30) = ((2 : Nat) : Int) := by decide +kernel
theorem e_X0_prayAll_35 : decode cX0_prayAll 35 = .ok (.return_, 1) := by decide +kernel
theorem e_X0_endDay_0 : decode cX0_endDay 0 = .ok (.aload_n 0, 1) ∧ 0 + 1 = 1 := by decide +kernel
theorem e_X0_endDay_1 : decode cX0_endDay 1 = .ok (.dup, 1) ∧ 1 + 1 = 2 := by decide +kernel
theorem e_X0_endDay_2 : decode cX0_endDay 2 = .ok (.getfield 50, 3) ∧ 2 + 3 = 5 := by decide +kernel
theorem e_X0_endDay_5 : decode cX0_endDay 5 = .ok (.iconst 1, 1) ∧ 5 + 1 = 6 := by decide +kernel
theorem e_X0_endDay_6 : decode cX0_endDay 6 = .ok (.iadd, 1) ∧ 6 + 1 = 7 := by decide +kernel
theorem e_X0_endDay_7 : decode cX0_endDay 7 = .ok (.putfield 50, 3) ∧ 7 + 3 = 10 := by decide +kernel
theorem e_X0_endDay_10 : decode cX0_endDay 10 = .ok (.iconst 0, 1) ∧ 10 + 1 = 11 := by decide +kernel
theorem e_X0_endDay_11 : decode cX0_endDay 11 = .ok (.istore_n 1, 1) ∧ 11 + 1 = 12 := by decide +kernel
theorem e_X0_endDay_12 : decode cX0_endDay 12 = .ok (.iload_n 1, 1) ∧ 12 + 1 = 13 := by decide +kernel
theorem e_X0_endDay_13 : decode cX0_endDay 13 = .ok (.bipush 12, 2) ∧ 13 + 2 = 15 := by decide +kernel
theorem e_X0_endDay_15 : decode cX0_endDay 15 = .ok (.if_icmp .ge 33, 3) ∧ 15 + 3 = 18 ∧ ((15 : Nat) : Int) + (33) = ((48 : Nat) : Int) := by decide +kernel
theorem e_X0_endDay_18 : decode cX0_endDay 18 = .ok (.aload_n 0, 1) ∧ 18 + 1 = 19 := by decide +kernel
theorem e_X0_endDay_19 : decode cX0_endDay 19 = .ok (.iconst 1, 1) ∧ 19 + 1 = 20 := by decide +kernel
theorem e_X0_endDay_20 : decode cX0_endDay 20 = .ok (.iload_n 1, 1) ∧ 20 + 1 = 21 := by decide +kernel
theorem e_X0_endDay_21 : decode cX0_endDay 21 = .ok (.ishl, 1) ∧ 21 + 1 = 22 := by decide +kernel
theorem e_X0_endDay_22 : decode cX0_endDay 22 = .ok (.aload_n 0, 1) ∧ 22 + 1 = 23 := by decide +kernel
theorem e_X0_endDay_23 : decode cX0_endDay 23 = .ok (.getfield 21, 3) ∧ 23 + 3 = 26 := by decide +kernel
theorem e_X0_endDay_26 : decode cX0_endDay 26 = .ok (.iload_n 1, 1) ∧ 26 + 1 = 27 := by decide +kernel
theorem e_X0_endDay_27 : decode cX0_endDay 27 = .ok (.invokestatic 67, 3) ∧ 27 + 3 = 30 := by decide +kernel
theorem e_X0_endDay_30 : decode cX0_endDay 30 = .ok (.invokevirtual 101, 3) ∧ 30 + 3 = 33 := by decide +kernel
theorem e_X0_endDay_33 : decode cX0_endDay 33 = .ok (.aload_n 0, 1) ∧ 33 + 1 = 34 := by decide +kernel
theorem e_X0_endDay_34 : decode cX0_endDay 34 = .ok (.getfield 21, 3) ∧ 34 + 3 = 37 := by decide +kernel
theorem e_X0_endDay_37 : decode cX0_endDay 37 = .ok (.iload_n 1, 1) ∧ 37 + 1 = 38 := by decide +kernel
theorem e_X0_endDay_38 : decode cX0_endDay 38 = .ok (.iconst 0, 1) ∧ 38 + 1 = 39 := by decide +kernel
theorem e_X0_endDay_39 : decode cX0_endDay 39 = .ok (.invokestatic 71, 3) ∧ 39 + 3 = 42 := by decide +kernel
theorem e_X0_endDay_42 : decode cX0_endDay 42 = .ok (.iinc 1 1, 3) ∧ 42 + 3 = 45 := by decide +kernel
theorem e_X0_endDay_45 : decode cX0_endDay 45 = .ok (.goto (-33), 3) ∧ 45 + 3 = 48 ∧ ((45 : Nat) : Int) + (-33) = ((12 : Nat) : Int) := by decide +kernel
theorem e_X0_endDay_48 : decode cX0_endDay 48 = .ok (.aload_n 0, 1) ∧ 48 + 1 = 49 := by decide +kernel
theorem e_X0_endDay_49 : decode cX0_endDay 49 = .ok (.invokevirtual 92, 3) ∧ 49 + 3 = 52 := by decide +kernel
theorem e_X0_endDay_52 : decode cX0_endDay 52 = .ok (.ireturn, 1) := by decide +kernel
theorem e_X0_loosenBy_0 : decode cX0_loosenBy 0 = .ok (.aload_n 0, 1) ∧ 0 + 1 = 1 := by decide +kernel
theorem e_X0_loosenBy_1 : decode cX0_loosenBy 1 = .ok (.iload_n 1, 1) ∧ 1 + 1 = 2 := by decide +kernel
theorem e_X0_loosenBy_2 : decode cX0_loosenBy 2 = .ok (.invokevirtual 105, 3) ∧ 2 + 3 = 5 := by decide +kernel
theorem e_X0_loosenBy_5 : decode cX0_loosenBy 5 = .ok (.istore_n 2, 1) ∧ 5 + 1 = 6 := by decide +kernel
theorem e_X0_loosenBy_6 : decode cX0_loosenBy 6 = .ok (.aload_n 0, 1) ∧ 6 + 1 = 7 := by decide +kernel
theorem e_X0_loosenBy_7 : decode cX0_loosenBy 7 = .ok (.iload_n 1, 1) ∧ 7 + 1 = 8 := by decide +kernel
theorem e_X0_loosenBy_8 : decode cX0_loosenBy 8 = .ok (.invokevirtual 79, 3) ∧ 8 + 3 = 11 := by decide +kernel
theorem e_X0_loosenBy_11 : decode cX0_loosenBy 11 = .ok (.istore_n 3, 1) ∧ 11 + 1 = 12 := by decide +kernel
theorem e_X0_loosenBy_12 : decode cX0_loosenBy 12 = .ok (.aload_n 0, 1) ∧ 12 + 1 = 13 := by decide +kernel
theorem e_X0_loosenBy_13 : decode cX0_loosenBy 13 = .ok (.iconst 1, 1) ∧ 13 + 1 = 14 := by decide +kernel
theorem e_X0_loosenBy_14 : decode cX0_loosenBy 14 = .ok (.iload_n 3, 1) ∧ 14 + 1 = 15 := by decide +kernel
theorem e_X0_loosenBy_15 : decode cX0_loosenBy 15 = .ok (.ishl, 1) ∧ 15 + 1 = 16 := by decide +kernel
theorem e_X0_loosenBy_16 : decode cX0_loosenBy 16 = .ok (.iconst 2, 1) ∧ 16 + 1 = 17 := by decide +kernel
theorem e_X0_loosenBy_17 : decode cX0_loosenBy 17 = .ok (.iload_n 2, 1) ∧ 17 + 1 = 18 := by decide +kernel
theorem e_X0_loosenBy_18 : decode cX0_loosenBy 18 = .ok (.imul, 1) ∧ 18 + 1 = 19 := by decide +kernel
theorem e_X0_loosenBy_19 : decode cX0_loosenBy 19 = .ok (.invokevirtual 101, 3) ∧ 19 + 3 = 22 := by decide +kernel
theorem e_X0_loosenBy_22 : decode cX0_loosenBy 22 = .ok (.aload_n 0, 1) ∧ 22 + 1 = 23 := by decide +kernel
theorem e_X0_loosenBy_23 : decode cX0_loosenBy 23 = .ok (.getstatic 83, 3) ∧ 23 + 3 = 26 := by decide +kernel
theorem e_X0_loosenBy_26 : decode cX0_loosenBy 26 = .ok (.iload_n 3, 1) ∧ 26 + 1 = 27 := by decide +kernel
theorem e_X0_loosenBy_27 : decode cX0_loosenBy 27 = .ok (.invokestatic 67, 3) ∧ 27 + 3 = 30 := by decide +kernel
theorem e_X0_loosenBy_30 : decode cX0_loosenBy 30 = .ok (.iload_n 2, 1) ∧ 30 + 1 = 31 := by decide +kernel
theorem e_X0_loosenBy_31 : decode cX0_loosenBy 31 = .ok (.invokevirtual 101, 3) ∧ 31 + 3 = 34 := by decide +kernel
theorem e_X0_loosenBy_34 : decode cX0_loosenBy 34 = .ok (.aload_n 0, 1) ∧ 34 + 1 = 35 := by decide +kernel
theorem e_X0_loosenBy_35 : decode cX0_loosenBy 35 = .ok (.iload_n 3, 1) ∧ 35 + 1 = 36 := by decide +kernel
theorem e_X0_loosenBy_36 : decode cX0_loosenBy 36 = .ok (.invokevirtual 108, 3) ∧ 36 + 3 = 39 := by decide +kernel
theorem e_X0_loosenBy_39 : decode cX0_loosenBy 39 = .ok (.ifCond .ne 21, 3) ∧ 39 + 3 = 42 ∧ ((39 : Nat) : Int) + (21) = ((60 : Nat) : Int) := by decide +kernel
theorem e_X0_loosenBy_42 : decode cX0_loosenBy 42 = .ok (.aload_n 0, 1) ∧ 42 + 1 = 43 := by decide +kernel
theorem e_X0_loosenBy_43 : decode cX0_loosenBy 43 = .ok (.getfield 21, 3) ∧ 43 + 3 = 46 := by decide +kernel
theorem e_X0_loosenBy_46 : decode cX0_loosenBy 46 = .ok (.iload_n 3, 1) ∧ 46 + 1 = 47 := by decide +kernel
theorem e_X0_loosenBy_47 : decode cX0_loosenBy 47 = .ok (.aload_n 0, 1) ∧ 47 + 1 = 48 := by decide +kernel
theorem e_X0_loosenBy_48 : decode cX0_loosenBy 48 = .ok (.getfield 21, 3) ∧ 48 + 3 = 51 := by decide +kernel
theorem e_X0_loosenBy_51 : decode cX0_loosenBy 51 = .ok (.iload_n 3, 1) ∧ 51 + 1 = 52 := by decide +kernel
theorem e_X0_loosenBy_52 : decode cX0_loosenBy 52 = .ok (.invokestatic 67, 3) ∧ 52 + 3 = 55 := by decide +kernel
theorem e_X0_loosenBy_55 : decode cX0_loosenBy 55 = .ok (.iconst 1, 1) ∧ 55 + 1 = 56 := by decide +kernel
theorem e_X0_loosenBy_56 : decode cX0_loosenBy 56 = .ok (.iadd, 1) ∧ 56 + 1 = 57 := by decide +kernel
theorem e_X0_loosenBy_57 : decode cX0_loosenBy 57 = .ok (.invokestatic 71, 3) ∧ 57 + 3 = 60 := by decide +kernel
theorem e_X0_loosenBy_60 : decode cX0_loosenBy 60 = .ok (.return_, 1) := by decide +kernel
theorem e_X0_propsWanting_0 : decode cX0_propsWanting 0 = .ok (.iconst 0, 1) ∧ 0 + 1 = 1 := by decide +kernel
theorem e_X0_propsWanting_1 : decode cX0_propsWanting 1 = .ok (.istore_n 1, 1) ∧ 1 + 1 = 2 := by decide +kernel
theorem e_X0_propsWanting_2 : decode cX0_propsWanting 2 = .ok (.iconst 0, 1) ∧ 2 + 1 = 3 := by decide +kernel
theorem e_X0_propsWanting_3 : decode cX0_propsWanting 3 = .ok (.istore_n 2, 1) ∧ 3 + 1 = 4 := by decide +kernel
theorem e_X0_propsWanting_4 : decode cX0_propsWanting 4 = .ok (.iload_n 2, 1) ∧ 4 + 1 = 5 := by decide +kernel
theorem e_X0_propsWanting_5 : decode cX0_propsWanting 5 = .ok (.aload_n 0, 1) ∧ 5 + 1 = 6 := by decide +kernel
theorem e_X0_propsWanting_6 : decode cX0_propsWanting 6 = .ok (.getfield 15, 3) ∧ 6 + 3 = 9 := by decide +kernel
theorem e_X0_propsWanting_9 : decode cX0_propsWanting 9 = .ok (.arraylength, 1) ∧ 9 + 1 = 10 := by decide +kernel
theorem e_X0_propsWanting_10 : decode cX0_propsWanting 10 = .ok (.if_icmp .ge 43, 3) ∧ 10 + 3 = 13 ∧ ((10 : Nat) : Int) + (43) = ((53 : Nat) : Int) := by decide +kernel
theorem e_X0_propsWanting_13 : decode cX0_propsWanting 13 = .ok (.iload_n 2, 1) ∧ 13 + 1 = 14 := by decide +kernel
theorem e_X0_propsWanting_14 : decode cX0_propsWanting 14 = .ok (.aload_n 0, 1) ∧ 14 + 1 = 15 := by decide +kernel
theorem e_X0_propsWanting_15 : decode cX0_propsWanting 15 = .ok (.getfield 18, 3) ∧ 15 + 3 = 18 := by decide +kernel
theorem e_X0_propsWanting_18 : decode cX0_propsWanting 18 = .ok (.arraylength, 1) ∧ 18 + 1 = 19 := by decide +kernel
theorem e_X0_propsWanting_19 : decode cX0_propsWanting 19 = .ok (.if_icmp .ge 34, 3) ∧ 19 + 3 = 22 ∧ ((19 : Nat) : Int) + (34) = ((53 : Nat) : Int) := by decide +kernel
theorem e_X0_propsWanting_22 : decode cX0_propsWanting 22 = .ok (.iload_n 1, 1) ∧ 22 + 1 = 23 := by decide +kernel
theorem e_X0_propsWanting_23 : decode cX0_propsWanting 23 = .ok (.iconst 0, 1) ∧ 23 + 1 = 24 := by decide +kernel
theorem e_X0_propsWanting_24 : decode cX0_propsWanting 24 = .ok (.aload_n 0, 1) ∧ 24 + 1 = 25 := by decide +kernel
theorem e_X0_propsWanting_25 : decode cX0_propsWanting 25 = .ok (.getfield 15, 3) ∧ 25 + 3 = 28 := by decide +kernel
theorem e_X0_propsWanting_28 : decode cX0_propsWanting 28 = .ok (.iload_n 2, 1) ∧ 28 + 1 = 29 := by decide +kernel
theorem e_X0_propsWanting_29 : decode cX0_propsWanting 29 = .ok (.iaload, 1) ∧ 29 + 1 = 30 := by decide +kernel
theorem e_X0_propsWanting_30 : decode cX0_propsWanting 30 = .ok (.aload_n 0, 1) ∧ 30 + 1 = 31 := by decide +kernel
theorem e_X0_propsWanting_31 : decode cX0_propsWanting 31 = .ok (.getfield 27, 3) ∧ 31 + 3 = 34 := by decide +kernel
theorem e_X0_propsWanting_34 : decode cX0_propsWanting 34 = .ok (.isub, 1) ∧ 34 + 1 = 35 := by decide +kernel
theorem e_X0_propsWanting_35 : decode cX0_propsWanting 35 = .ok (.aload_n 0, 1) ∧ 35 + 1 = 36 := by decide +kernel
theorem e_X0_propsWanting_36 : decode cX0_propsWanting 36 = .ok (.getfield 18, 3) ∧ 36 + 3 = 39 := by decide +kernel
theorem e_X0_propsWanting_39 : decode cX0_propsWanting 39 = .ok (.iload_n 2, 1) ∧ 39 + 1 = 40 := by decide +kernel
theorem e_X0_propsWanting_40 : decode cX0_propsWanting 40 = .ok (.iaload, 1) ∧ 40 + 1 = 41 := by decide +kernel
theorem e_X0_propsWanting_41 : decode cX0_propsWanting 41 = .ok (.isub, 1) ∧ 41 + 1 = 42 := by decide +kernel
theorem e_X0_propsWanting_42 : decode cX0_propsWanting 42 = .ok (.invokestatic 111, 3) ∧ 42 + 3 = 45 := by decide +kernel
theorem e_X0_propsWanting_45 : decode cX0_propsWanting 45 = .ok (.iadd, 1) ∧ 45 + 1 = 46 := by decide +kernel
theorem e_X0_propsWanting_46 : decode cX0_propsWanting 46 = .ok (.istore_n 1, 1) ∧ 46 + 1 = 47 := by decide +kernel
theorem e_X0_propsWanting_47 : decode cX0_propsWanting 47 = .ok (.iinc 2 1, 3) ∧ 47 + 3 = 50 := by decide +kernel
theorem e_X0_propsWanting_50 : decode cX0_propsWanting 50 = .ok (.goto (-46), 3) ∧ 50 + 3 = 53 ∧ ((50 : Nat) : Int) + (-46) = ((4 : Nat) : Int) := by decide +kernel
theorem e_X0_propsWanting_53 : decode cX0_propsWanting 53 = .ok (.iload_n 1, 1) ∧ 53 + 1 = 54 := by decide +kernel
theorem e_X0_propsWanting_54 : decode cX0_propsWanting 54 = .ok (.ireturn, 1) := by decide +kernel
theorem e_X0_loosen_0 : decode cX0_loosen 0 = .ok (.iload_n 1, 1) ∧ 0 + 1 = 1 := by decide +kernel
theorem e_X0_loosen_1 : decode cX0_loosen 1 = .ok (.aload_n 0, 1) ∧ 1 + 1 = 2 := by decide +kernel
theorem e_X0_loosen_2 : decode cX0_loosen 2 = .ok (.getfield 44, 3) ∧ 2 + 3 = 5 := by decide +kernel
theorem e_X0_loosen_5 : decode cX0_loosen 5 = .ok (.iconst (-1), 1) ∧ 5 + 1 = 6 := by decide +kernel
theorem e_X0_loosen_6 : decode cX0_loosen 6 = .ok (.ixor, 1) ∧ 6 + 1 = 7 := by decide +kernel
theorem e_X0_loosen_7 : decode cX0_loosen 7 = .ok (.iand, 1) ∧ 7 + 1 = 8 := by decide +kernel
theorem e_X0_loosen_8 : decode cX0_loosen 8 = .ok (.istore_n 3, 1) ∧ 8 + 1 = 9 := by decide +kernel
theorem e_X0_loosen_9 : decode cX0_loosen 9 = .ok (.iconst 0, 1) ∧ 9 + 1 = 10 := by decide +kernel
theorem e_X0_loosen_10 : decode cX0_loosen 10 = .ok (.istore 4, 2) ∧ 10 + 2 = 12 := by decide +kernel
theorem e_X0_loosen_12 : decode cX0_loosen 12 = .ok (.iload 4, 2) ∧ 12 + 2 = 14 := by decide +kernel
theorem e_X0_loosen_14 : decode cX0_loosen 14 = .ok (.aload_n 0, 1) ∧ 14 + 1 = 15 := by decide +kernel
theorem e_X0_loosen_15 : decode cX0_loosen 15 = .ok (.getfield 15, 3) ∧ 15 + 3 = 18 := by decide +kernel
theorem e_X0_loosen_18 : decode cX0_loosen 18 = .ok (.arraylength, 1) ∧ 18 + 1 = 19 := by decide +kernel
theorem e_X0_loosen_19 : decode cX0_loosen 19 = .ok (.if_icmp .ge 39, 3) ∧ 19 + 3 = 22 ∧ ((19 : Nat) : Int) + (39) = ((58 : Nat) : Int) := by decide +kernel
theorem e_X0_loosen_22 : decode cX0_loosen 22 = .ok (.iload_n 3, 1) ∧ 22 + 1 = 23 := by decide +kernel
theorem e_X0_loosen_23 : decode cX0_loosen 23 = .ok (.iload 4, 2) ∧ 23 + 2 = 25 := by decide +kernel
theorem e_X0_loosen_25 : decode cX0_loosen 25 = .ok (.ishr, 1) ∧ 25 + 1 = 26 := by decide +kernel
theorem e_X0_loosen_26 : decode cX0_loosen 26 = .ok (.iconst 1, 1) ∧ 26 + 1 = 27 := by decide +kernel
theorem e_X0_loosen_27 : decode cX0_loosen 27 = .ok (.iand, 1) ∧ 27 + 1 = 28 := by decide +kernel
theorem e_X0_loosen_28 : decode cX0_loosen 28 = .ok (.ifCond .eq 24, 3) ∧ 28 + 3 = 31 ∧ ((28 : Nat) : Int) + (24) = ((52 : Nat) : Int) := by decide +kernel
theorem e_X0_loosen_31 : decode cX0_loosen 31 = .ok (.aload_n 0, 1) ∧ 31 + 1 = 32 := by decide +kernel
theorem e_X0_loosen_32 : decode cX0_loosen 32 = .ok (.getfield 15, 3) ∧ 32 + 3 = 35 := by decide +kernel
theorem e_X0_loosen_35 : decode cX0_loosen 35 = .ok (.iload 4, 2) ∧ 35 + 2 = 37 := by decide +kernel
theorem e_X0_loosen_37 : decode cX0_loosen 37 = .ok (.bipush 99, 2) ∧ 37 + 2 = 39 := by decide +kernel
theorem e_X0_loosen_39 : decode cX0_loosen 39 = .ok (.aload_n 0, 1) ∧ 39 + 1 = 40 := by decide +kernel
theorem e_X0_loosen_40 : decode cX0_loosen 40 = .ok (.getfield 15, 3) ∧ 40 + 3 = 43 := by decide +kernel
theorem e_X0_loosen_43 : decode cX0_loosen 43 = .ok (.iload 4, 2) ∧ 43 + 2 = 45 := by decide +kernel
theorem e_X0_loosen_45 : decode cX0_loosen 45 = .ok (.iaload, 1) ∧ 45 + 1 = 46 := by decide +kernel
theorem e_X0_loosen_46 : decode cX0_loosen 46 = .ok (.iload_n 2, 1) ∧ 46 + 1 = 47 := by decide +kernel
theorem e_X0_loosen_47 : decode cX0_loosen 47 = .ok (.iadd, 1) ∧ 47 + 1 = 48 := by decide +kernel
theorem e_X0_loosen_48 : decode cX0_loosen 48 = .ok (.invokestatic 117, 3) ∧ 48 + 3 = 51 := by decide +kernel
theorem e_X0_loosen_51 : decode cX0_loosen 51 = .ok (.iastore, 1) ∧ 51 + 1 = 52 := by decide +kernel
theorem e_X0_loosen_52 : decode cX0_loosen 52 = .ok (.iinc 4 1, 3) ∧ 52 + 3 = 55 := by decide +kernel
theorem e_X0_loosen_55 : decode cX0_loosen 55 = .ok (.goto (-43), 3) ∧ 55 + 3 = 58 ∧ ((55 : Nat) : Int) + (-43) = ((12 : Nat) : Int) := by decide +kernel
theorem e_X0_loosen_58 : decode cX0_loosen 58 = .ok (.return_, 1) := by decide +kernel
theorem e_X0_waves_0 : decode cX0_waves 0 = .ok (.aload_n 0, 1) ∧ 0 + 1 = 1 := by decide +kernel
theorem e_X0_waves_1 : decode cX0_waves 1 = .ok (.getfield 44, 3) ∧ 1 + 3 = 4 := by decide +kernel
theorem e_X0_waves_4 : decode cX0_waves 4 = .ok (.istore_n 1, 1) ∧ 4 + 1 = 5 := by decide +kernel
theorem e_X0_waves_5 : decode cX0_waves 5 = .ok (.iconst 0, 1) ∧ 5 + 1 = 6 := by decide +kernel
theorem e_X0_waves_6 : decode cX0_waves 6 = .ok (.istore_n 2, 1) ∧ 6 + 1 = 7 := by decide +kernel
theorem e_X0_waves_7 : decode cX0_waves 7 = .ok (.iload_n 2, 1) ∧ 7 + 1 = 8 := by decide +kernel
theorem e_X0_waves_8 : decode cX0_waves 8 = .ok (.bipush 12, 2) ∧ 8 + 2 = 10 := by decide +kernel
theorem e_X0_waves_10 : decode cX0_waves 10 = .ok (.if_icmp .ge 26, 3) ∧ 10 + 3 = 13 ∧ ((10 : Nat) : Int) + (26) = ((36 : Nat) : Int) := by decide +kernel
theorem e_X0_waves_13 : decode cX0_waves 13 = .ok (.aload_n 0, 1) ∧ 13 + 1 = 14 := by decide +kernel
theorem e_X0_waves_14 : decode cX0_waves 14 = .ok (.invokevirtual 120, 3) ∧ 14 + 3 = 17 := by decide +kernel
theorem e_X0_waves_17 : decode cX0_waves 17 = .ok (.istore_n 3, 1) ∧ 17 + 1 = 18 := by decide +kernel
theorem e_X0_waves_18 : decode cX0_waves 18 = .ok (.iload_n 3, 1) ∧ 18 + 1 = 19 := by decide +kernel
theorem e_X0_waves_19 : decode cX0_waves 19 = .ok (.ifCond .ne 6, 3) ∧ 19 + 3 = 22 ∧ ((19 : Nat) : Int) + (6) = ((25 : Nat) : Int) := by decide +kernel
theorem e_X0_waves_22 : decode cX0_waves 22 = .ok (.goto 14, 3) ∧ 22 + 3 = 25 ∧ ((22 : Nat) : Int) + (14) = ((36 : Nat) : Int) := by decide +kernel
theorem e_X0_waves_25 : decode cX0_waves 25 = .ok (.aload_n 0, 1) ∧ 25 + 1 = 26 := by decide +kernel
theorem e_X0_waves_26 : decode cX0_waves 26 = .ok (.iload_n 3, 1) ∧ 26 + 1 = 27 := by decide +kernel
theorem e_X0_waves_27 : decode cX0_waves 27 = .ok (.invokevirtual 123, 3) ∧ 27 + 3 = 30 := by decide +kernel
theorem e_X0_waves_30 : decode cX0_waves 30 = .ok (.iinc 2 1, 3) ∧ 30 + 3 = 33 := by decide +kernel
theorem e_X0_waves_33 : decode cX0_waves 33 = .ok (.goto (-26), 3) ∧ 33 + 3 = 36 ∧ ((33 : Nat) : Int) + (-26) = ((7 : Nat) : Int) := by decide +kernel
theorem e_X0_waves_36 : decode cX0_waves 36 = .ok (.aload_n 0, 1) ∧ 36 + 1 = 37 := by decide +kernel
theorem e_X0_waves_37 : decode cX0_waves 37 = .ok (.getfield 44, 3) ∧ 37 + 3 = 40 := by decide +kernel
theorem e_X0_waves_40 : decode cX0_waves 40 = .ok (.iload_n 1, 1) ∧ 40 + 1 = 41 := by decide +kernel
theorem e_X0_waves_41 : decode cX0_waves 41 = .ok (.iconst (-1), 1) ∧ 41 + 1 = 42 := by decide +kernel
theorem e_X0_waves_42 : decode cX0_waves 42 = .ok (.ixor, 1) ∧ 42 + 1 = 43 := by decide +kernel
theorem e_X0_waves_43 : decode cX0_waves 43 = .ok (.iand, 1) ∧ 43 + 1 = 44 := by decide +kernel
theorem e_X0_waves_44 : decode cX0_waves 44 = .ok (.ireturn, 1) := by decide +kernel
theorem e_X0_tooLoose_0 : decode cX0_tooLoose 0 = .ok (.iconst 0, 1) ∧ 0 + 1 = 1 := by decide +kernel
theorem e_X0_tooLoose_1 : decode cX0_tooLoose 1 = .ok (.istore_n 1, 1) ∧ 1 + 1 = 2 := by decide +kernel
theorem e_X0_tooLoose_2 : decode cX0_tooLoose 2 = .ok (.iconst 0, 1) ∧ 2 + 1 = 3 := by decide +kernel
theorem e_X0_tooLoose_3 : decode cX0_tooLoose 3 = .ok (.istore_n 2, 1) ∧ 3 + 1 = 4 := by decide +kernel
theorem e_X0_tooLoose_4 : decode cX0_tooLoose 4 = .ok (.iload_n 2, 1) ∧ 4 + 1 = 5 := by decide +kernel
theorem e_X0_tooLoose_5 : decode cX0_tooLoose 5 = .ok (.aload_n 0, 1) ∧ 5 + 1 = 6 := by decide +kernel
theorem e_X0_tooLoose_6 : decode cX0_tooLoose 6 = .ok (.getfield 15, 3) ∧ 6 + 3 = 9 := by decide +kernel
theorem e_X0_tooLoose_9 : decode cX0_tooLoose 9 = .ok (.arraylength, 1) ∧ 9 + 1 = 10 := by decide +kernel
theorem e_X0_tooLoose_10 : decode cX0_tooLoose 10 = .ok (.if_icmp .ge 44, 3) ∧ 10 + 3 = 13 ∧ ((10 : Nat) : Int) + (44) = ((54 : Nat) : Int) := by decide +kernel
theorem e_X0_tooLoose_13 : decode cX0_tooLoose 13 = .ok (.iload_n 2, 1) ∧ 13 + 1 = 14 := by decide +kernel
theorem e_X0_tooLoose_14 : decode cX0_tooLoose 14 = .ok (.aload_n 0, 1) ∧ 14 + 1 = 15 := by decide +kernel
theorem e_X0_tooLoose_15 : decode cX0_tooLoose 15 = .ok (.getfield 18, 3) ∧ 15 + 3 = 18 := by decide +kernel
theorem e_X0_tooLoose_18 : decode cX0_tooLoose 18 = .ok (.arraylength, 1) ∧ 18 + 1 = 19 := by decide +kernel
theorem e_X0_tooLoose_19 : decode cX0_tooLoose 19 = .ok (.if_icmp .ge 35, 3) ∧ 19 + 3 = 22 ∧ ((19 : Nat) : Int) + (35) = ((54 : Nat) : Int) := by decide +kernel
theorem e_X0_tooLoose_22 : decode cX0_tooLoose 22 = .ok (.aload_n 0, 1) ∧ 22 + 1 = 23 := by decide +kernel
theorem e_X0_tooLoose_23 : decode cX0_tooLoose 23 = .ok (.getfield 15, 3) ∧ 23 + 3 = 26 := by decide +kernel
theorem e_X0_tooLoose_26 : decode cX0_tooLoose 26 = .ok (.iload_n 2, 1) ∧ 26 + 1 = 27 := by decide +kernel
theorem e_X0_tooLoose_27 : decode cX0_tooLoose 27 = .ok (.iaload, 1) ∧ 27 + 1 = 28 := by decide +kernel
theorem e_X0_tooLoose_28 : decode cX0_tooLoose 28 = .ok (.aload_n 0, 1) ∧ 28 + 1 = 29 := by decide +kernel
theorem e_X0_tooLoose_29 : decode cX0_tooLoose 29 = .ok (.getfield 27, 3) ∧ 29 + 3 = 32 := by decide +kernel
theorem e_X0_tooLoose_32 : decode cX0_tooLoose 32 = .ok (.aload_n 0, 1) ∧ 32 + 1 = 33 := by decide +kernel
theorem e_X0_tooLoose_33 : decode cX0_tooLoose 33 = .ok (.getfield 18, 3) ∧ 33 + 3 = 36 := by decide +kernel
theorem e_X0_tooLoose_36 : decode cX0_tooLoose 36 = .ok (.iload_n 2, 1) ∧ 36 + 1 = 37 := by decide +kernel
theorem e_X0_tooLoose_37 : decode cX0_tooLoose 37 = .ok (.iaload, 1) ∧ 37 + 1 = 38 := by decide +kernel
theorem e_X0_tooLoose_38 : decode cX0_tooLoose 38 = .ok (.iadd, 1) ∧ 38 + 1 = 39 := by decide +kernel
theorem e_X0_tooLoose_39 : decode cX0_tooLoose 39 = .ok (.if_icmp .le 9, 3) ∧ 39 + 3 = 42 ∧ ((39 : Nat) : Int) + (9) = ((48 : Nat) : Int) := by decide +kernel
theorem e_X0_tooLoose_42 : decode cX0_tooLoose 42 = .ok (.iload_n 1, 1) ∧ 42 + 1 = 43 := by decide +kernel
theorem e_X0_tooLoose_43 : decode cX0_tooLoose 43 = .ok (.iconst 1, 1) ∧ 43 + 1 = 44 := by decide +kernel
theorem e_X0_tooLoose_44 : decode cX0_tooLoose 44 = .ok (.iload_n 2, 1) ∧ 44 + 1 = 45 := by decide +kernel
theorem e_X0_tooLoose_45 : decode cX0_tooLoose 45 = .ok (.ishl, 1) ∧ 45 + 1 = 46 := by decide +kernel
theorem e_X0_tooLoose_46 : decode cX0_tooLoose 46 = .ok (.ior, 1) ∧ 46 + 1 = 47 := by decide +kernel
theorem e_X0_tooLoose_47 : decode cX0_tooLoose 47 = .ok (.istore_n 1, 1) ∧ 47 + 1 = 48 := by decide +kernel
theorem e_X0_tooLoose_48 : decode cX0_tooLoose 48 = .ok (.iinc 2 1, 3) ∧ 48 + 3 = 51 := by decide +kernel
theorem e_X0_tooLoose_51 : decode cX0_tooLoose 51 = .ok (.goto (-47), 3) ∧ 51 + 3 = 54 ∧ ((51 : Nat) : Int) + (-47) = ((4 : Nat) : Int) := by decide +kernel
theorem e_X0_tooLoose_54 : decode cX0_tooLoose 54 = .ok (.iload_n 1, 1) ∧ 54 + 1 = 55 := by decide +kernel
theorem e_X0_tooLoose_55 : decode cX0_tooLoose 55 = .ok (.ireturn, 1) := by decide +kernel
theorem e_X0_fell_0 : decode cX0_fell 0 = .ok (.aload_n 0, 1) ∧ 0 + 1 = 1 := by decide +kernel
theorem e_X0_fell_1 : decode cX0_fell 1 = .ok (.dup, 1) ∧ 1 + 1 = 2 := by decide +kernel
theorem e_X0_fell_2 : decode cX0_fell 2 = .ok (.getfield 44, 3) ∧ 2 + 3 = 5 := by decide +kernel
theorem e_X0_fell_5 : decode cX0_fell 5 = .ok (.iload_n 1, 1) ∧ 5 + 1 = 6 := by decide +kernel
theorem e_X0_fell_6 : decode cX0_fell 6 = .ok (.ior, 1) ∧ 6 + 1 = 7 := by decide +kernel
theorem e_X0_fell_7 : decode cX0_fell 7 = .ok (.putfield 44, 3) ∧ 7 + 3 = 10 := by decide +kernel
theorem e_X0_fell_10 : decode cX0_fell 10 = .ok (.aload_n 0, 1) ∧ 10 + 1 = 11 := by decide +kernel
theorem e_X0_fell_11 : decode cX0_fell 11 = .ok (.dup, 1) ∧ 11 + 1 = 12 := by decide +kernel
theorem e_X0_fell_12 : decode cX0_fell 12 = .ok (.getfield 41, 3) ∧ 12 + 3 = 15 := by decide +kernel
theorem e_X0_fell_15 : decode cX0_fell 15 = .ok (.aload_n 0, 1) ∧ 15 + 1 = 16 := by decide +kernel
theorem e_X0_fell_16 : decode cX0_fell 16 = .ok (.iload_n 1, 1) ∧ 16 + 1 = 17 := by decide +kernel
theorem e_X0_fell_17 : decode cX0_fell 17 = .ok (.invokevirtual 86, 3) ∧ 17 + 3 = 20 := by decide +kernel
theorem e_X0_fell_20 : decode cX0_fell 20 = .ok (.ior, 1) ∧ 20 + 1 = 21 := by decide +kernel
theorem e_X0_fell_21 : decode cX0_fell 21 = .ok (.putfield 41, 3) ∧ 21 + 3 = 24 := by decide +kernel
theorem e_X0_fell_24 : decode cX0_fell 24 = .ok (.iconst 0, 1) ∧ 24 + 1 = 25 := by decide +kernel
theorem e_X0_fell_25 : decode cX0_fell 25 = .ok (.istore_n 2, 1) ∧ 25 + 1 = 26 := by decide +kernel
theorem e_X0_fell_26 : decode cX0_fell 26 = .ok (.iload_n 2, 1) ∧ 26 + 1 = 27 := by decide +kernel
theorem e_X0_fell_27 : decode cX0_fell 27 = .ok (.bipush 12, 2) ∧ 27 + 2 = 29 := by decide +kernel
theorem e_X0_fell_29 : decode cX0_fell 29 = .ok (.if_icmp .ge 51, 3) ∧ 29 + 3 = 32 ∧ ((29 : Nat) : Int) + (51) = ((80 : Nat) : Int) := by decide +kernel
theorem e_X0_fell_32 : decode cX0_fell 32 = .ok (.iload_n 1, 1) ∧ 32 + 1 = 33 := by decide +kernel
theorem e_X0_fell_33 : decode cX0_fell 33 = .ok (.iload_n 2, 1) ∧ 33 + 1 = 34 := by decide +kernel
theorem e_X0_fell_34 : decode cX0_fell 34 = .ok (.invokestatic 59, 3) ∧ 34 + 3 = 37 := by decide +kernel
theorem e_X0_fell_37 : decode cX0_fell 37 = .ok (.ifCond .eq 37, 3) ∧ 37 + 3 = 40 ∧ ((37 : Nat) : Int) + (37) = ((74 : Nat) : Int) := by decide +kernel
theorem e_X0_fell_40 : decode cX0_fell 40 = .ok (.aload_n 0, 1) ∧ 40 + 1 = 41 := by decide +kernel
theorem e_X0_fell_41 : decode cX0_fell 41 = .ok (.dup, 1) ∧ 41 + 1 = 42 := by decide +kernel
theorem e_X0_fell_42 : decode cX0_fell 42 = .ok (.getfield 47, 3) ∧ 42 + 3 = 45 := by decide +kernel
theorem e_X0_fell_45 : decode cX0_fell 45 = .ok (.aload_n 0, 1) ∧ 45 + 1 = 46 := by decide +kernel
theorem e_X0_fell_46 : decode cX0_fell 46 = .ok (.getfield 9, 3) ∧ 46 + 3 = 49 := by decide +kernel
theorem e_X0_fell_49 : decode cX0_fell 49 = .ok (.iload_n 2, 1) ∧ 49 + 1 = 50 := by decide +kernel
theorem e_X0_fell_50 : decode cX0_fell 50 = .ok (.invokestatic 67, 3) ∧ 50 + 3 = 53 := by decide +kernel
theorem e_X0_fell_53 : decode cX0_fell 53 = .ok (.iadd, 1) ∧ 53 + 1 = 54 := by decide +kernel
theorem e_X0_fell_54 : decode cX0_fell 54 = .ok (.putfield 47, 3) ∧ 54 + 3 = 57 := by decide +kernel
theorem e_X0_fell_57 : decode cX0_fell 57 = .ok (.aload_n 0, 1) ∧ 57 + 1 = 58 := by decide +kernel
theorem e_X0_fell_58 : decode cX0_fell 58 = .ok (.iload_n 2, 1) ∧ 58 + 1 = 59 := by decide +kernel
theorem e_X0_fell_59 : decode cX0_fell 59 = .ok (.invokevirtual 31, 3) ∧ 59 + 3 = 62 := by decide +kernel
theorem e_X0_fell_62 : decode cX0_fell 62 = .ok (.aload_n 0, 1) ∧ 62 + 1 = 63 := by decide +kernel
theorem e_X0_fell_63 : decode cX0_fell 63 = .ok (.getstatic 83, 3) ∧ 63 + 3 = 66 := by decide +kernel
theorem e_X0_fell_66 : decode cX0_fell 66 = .ok (.iload_n 2, 1) ∧ 66 + 1 = 67 := by decide +kernel
theorem e_X0_fell_67 : decode cX0_fell 67 = .ok (.invokestatic 67, 3) ∧ 67 + 3 = 70 := by decide +kernel
theorem e_X0_fell_70 : decode cX0_fell 70 = .ok (.iconst 1, 1) ∧ 70 + 1 = 71 := by decide +kernel
theorem e_X0_fell_71 : decode cX0_fell 71 = .ok (.invokevirtual 101, 3) ∧ 71 + 3 = 74 := by decide +kernel
theorem e_X0_fell_74 : decode cX0_fell 74 = .ok (.iinc 2 1, 3) ∧ 74 + 3 = 77 := by decide +kernel
theorem e_X0_fell_77 : decode cX0_fell 77 = .ok (.goto (-51), 3) ∧ 77 + 3 = 80 ∧ ((77 : Nat) : Int) + (-51) = ((26 : Nat) : Int) := by decide +kernel
theorem e_X0_fell_80 : decode cX0_fell 80 = .ok (.return_, 1) := by decide +kernel
theorem e_X0_empty_0 : decode cX0_empty 0 = .ok (.aload_n 0, 1) ∧ 0 + 1 = 1 := by decide +kernel
theorem e_X0_empty_1 : decode cX0_empty 1 = .ok (.getfield 9, 3) ∧ 1 + 3 = 4 := by decide +kernel
theorem e_X0_empty_4 : decode cX0_empty 4 = .ok (.iload_n 1, 1) ∧ 4 + 1 = 5 := by decide +kernel
theorem e_X0_empty_5 : decode cX0_empty 5 = .ok (.iconst 0, 1) ∧ 5 + 1 = 6 := by decide +kernel
theorem e_X0_empty_6 : decode cX0_empty 6 = .ok (.invokestatic 71, 3) ∧ 6 + 3 = 9 := by decide +kernel
theorem e_X0_empty_9 : decode cX0_empty 9 = .ok (.aload_n 0, 1) ∧ 9 + 1 = 10 := by decide +kernel
theorem e_X0_empty_10 : decode cX0_empty 10 = .ok (.getfield 15, 3) ∧ 10 + 3 = 13 := by decide +kernel
theorem e_X0_empty_13 : decode cX0_empty 13 = .ok (.iload_n 1, 1) ∧ 13 + 1 = 14 := by decide +kernel
theorem e_X0_empty_14 : decode cX0_empty 14 = .ok (.iconst 0, 1) ∧ 14 + 1 = 15 := by decide +kernel
theorem e_X0_empty_15 : decode cX0_empty 15 = .ok (.invokestatic 71, 3) ∧ 15 + 3 = 18 := by decide +kernel
theorem e_X0_empty_18 : decode cX0_empty 18 = .ok (.aload_n 0, 1) ∧ 18 + 1 = 19 := by decide +kernel
theorem e_X0_empty_19 : decode cX0_empty 19 = .ok (.getfield 18, 3) ∧ 19 + 3 = 22 := by decide +kernel
theorem e_X0_empty_22 : decode cX0_empty 22 = .ok (.iload_n 1, 1) ∧ 22 + 1 = 23 := by decide +kernel
theorem e_X0_empty_23 : decode cX0_empty 23 = .ok (.iconst 0, 1) ∧ 23 + 1 = 24 := by decide +kernel
theorem e_X0_empty_24 : decode cX0_empty 24 = .ok (.invokestatic 71, 3) ∧ 24 + 3 = 27 := by decide +kernel
theorem e_X0_empty_27 : decode cX0_empty 27 = .ok (.aload_n 0, 1) ∧ 27 + 1 = 28 := by decide +kernel
theorem e_X0_empty_28 : decode cX0_empty 28 = .ok (.getfield 21, 3) ∧ 28 + 3 = 31 := by decide +kernel
theorem e_X0_empty_31 : decode cX0_empty 31 = .ok (.iload_n 1, 1) ∧ 31 + 1 = 32 := by decide +kernel
theorem e_X0_empty_32 : decode cX0_empty 32 = .ok (.iconst 0, 1) ∧ 32 + 1 = 33 := by decide +kernel
theorem e_X0_empty_33 : decode cX0_empty 33 = .ok (.invokestatic 71, 3) ∧ 33 + 3 = 36 := by decide +kernel
theorem e_X0_empty_36 : decode cX0_empty 36 = .ok (.return_, 1) := by decide +kernel
theorem e_X1_init_0 : decode cX1_init 0 = .ok (.aload_n 0, 1) ∧ 0 + 1 = 1 := by decide +kernel
theorem e_X1_init_1 : decode cX1_init 1 = .ok (.invokespecial 3, 3) ∧ 1 + 3 = 4 := by decide +kernel
theorem e_X1_init_4 : decode cX1_init 4 = .ok (.aload_n 0, 1) ∧ 4 + 1 = 5 := by decide +kernel
theorem e_X1_init_5 : decode cX1_init 5 = .ok (.new 9, 3) ∧ 5 + 3 = 8 := by decide +kernel
theorem e_X1_init_8 : decode cX1_init 8 = .ok (.dup, 1) ∧ 8 + 1 = 9 := by decide +kernel
theorem e_X1_init_9 : decode cX1_init 9 = .ok (.invokespecial 11, 3) ∧ 9 + 3 = 12 := by decide +kernel
theorem e_X1_init_12 : decode cX1_init 12 = .ok (.putfield 12, 3) ∧ 12 + 3 = 15 := by decide +kernel
theorem e_X1_init_15 : decode cX1_init 15 = .ok (.return_, 1) := by decide +kernel
theorem e_X1_start_0 : decode cX1_start 0 = .ok (.aload_n 0, 1) ∧ 0 + 1 = 1 := by decide +kernel
theorem e_X1_start_1 : decode cX1_start 1 = .ok (.getfield 12, 3) ∧ 1 + 3 = 4 := by decide +kernel
theorem e_X1_start_4 : decode cX1_start 4 = .ok (.invokevirtual 18, 3) ∧ 4 + 3 = 7 := by decide +kernel
theorem e_X1_start_7 : decode cX1_start 7 = .ok (.aload_n 0, 1) ∧ 7 + 1 = 8 := by decide +kernel
theorem e_X1_start_8 : decode cX1_start 8 = .ok (.iconst 0, 1) ∧ 8 + 1 = 9 := by decide +kernel
theorem e_X1_start_9 : decode cX1_start 9 = .ok (.putfield 21, 3) ∧ 9 + 3 = 12 := by decide +kernel
theorem e_X1_start_12 : decode cX1_start 12 = .ok (.aload_n 0, 1) ∧ 12 + 1 = 13 := by decide +kernel
theorem e_X1_start_13 : decode cX1_start 13 = .ok (.iconst 0, 1) ∧ 13 + 1 = 14 := by decide +kernel
theorem e_X1_start_14 : decode cX1_start 14 = .ok (.putfield 25, 3) ∧ 14 + 3 = 17 := by decide +kernel
theorem e_X1_start_17 : decode cX1_start 17 = .ok (.aload_n 0, 1) ∧ 17 + 1 = 18 := by decide +kernel
theorem e_X1_start_18 : decode cX1_start 18 = .ok (.iconst 0, 1) ∧ 18 + 1 = 19 := by decide +kernel
theorem e_X1_start_19 : decode cX1_start 19 = .ok (.putfield 28, 3) ∧ 19 + 3 = 22 := by decide +kernel
theorem e_X1_start_22 : decode cX1_start 22 = .ok (.return_, 1) := by decide +kernel
theorem e_X1_mayEnd_0 : decode cX1_mayEnd 0 = .ok (.aload_n 0, 1) ∧ 0 + 1 = 1 := by decide +kernel
theorem e_X1_mayEnd_1 : decode cX1_mayEnd 1 = .ok (.getfield 21, 3) ∧ 1 + 3 = 4 := by decide +kernel
theorem e_X1_mayEnd_4 : decode cX1_mayEnd 4 = .ok (.iconst 2, 1) ∧ 4 + 1 = 5 := by decide +kernel
theorem e_X1_mayEnd_5 : decode cX1_mayEnd 5 = .ok (.if_icmp .ne 7, 3) ∧ 5 + 3 = 8 ∧ ((5 : Nat) : Int) + (7) = ((12 : Nat) : Int) := by decide +kernel
theorem e_X1_mayEnd_8 : decode cX1_mayEnd 8 = .ok (.iconst 1, 1) ∧ 8 + 1 = 9 := by decide +kernel
theorem e_X1_mayEnd_9 : decode cX1_mayEnd 9 = .ok (.goto 4, 3) ∧ 9 + 3 = 12 ∧ ((9 : Nat) : Int) + (4) = ((13 : Nat) : Int) := by decide +kernel
theorem e_X1_mayEnd_12 : decode cX1_mayEnd 12 = .ok (.iconst 0, 1) ∧ 12 + 1 = 13 := by decide +kernel
theorem e_X1_mayEnd_13 : decode cX1_mayEnd 13 = .ok (.ireturn, 1) := by decide +kernel
theorem e_X1_accepts_0 : decode cX1_accepts 0 = .ok (.aload_n 0, 1) ∧ 0 + 1 = 1 := by decide +kernel
theorem e_X1_accepts_1 : decode cX1_accepts 1 = .ok (.getfield 21, 3) ∧ 1 + 3 = 4 := by decide +kernel
theorem e_X1_accepts_4 : decode cX1_accepts 4 = .ok (.tableswitch 310 0 10 #[60, 80, 86, 92, 121, 149, 182, 215, 247, 274, 301], 60) := by decide +kernel
theorem e_X1_accepts_64 : decode cX1_accepts 64 = .ok (.iload_n 1, 1) ∧ 64 + 1 = 65 := by decide +kernel
theorem e_X1_accepts_65 : decode cX1_accepts 65 = .ok (.bipush 77, 2) ∧ 65 + 2 = 67 := by decide +kernel
theorem e_X1_accepts_67 : decode cX1_accepts 67 = .ok (.if_icmp .ne 15, 3) ∧ 67 + 3 = 70 ∧ ((67 : Nat) : Int) + (15) = ((82 : Nat) : Int) := by decide +kernel
theorem e_X1_accepts_70 : decode cX1_accepts 70 = .ok (.aload_n 0, 1) ∧ 70 + 1 = 71 := by decide +kernel
theorem e_X1_accepts_71 : decode cX1_accepts 71 = .ok (.iconst 1, 1) ∧ 71 + 1 = 72 := by decide +kernel
theorem e_X1_accepts_72 : decode cX1_accepts 72 = .ok (.invokevirtual 31, 3) ∧ 72 + 3 = 75 := by decide +kernel
theorem e_X1_accepts_75 : decode cX1_accepts 75 = .ok (.ifCond .eq 7, 3) ∧ 75 + 3 = 78 ∧ ((75 : Nat) : Int) + (7) = ((82 : Nat) : Int) := by decide +kernel
theorem e_X1_accepts_78 : decode cX1_accepts 78 = .ok (.iconst 1, 1) ∧ 78 + 1 = 79 := by decide +kernel
theorem e_X1_accepts_79 : decode cX1_accepts 79 = .ok (.goto 4, 3) ∧ 79 + 3 = 82 ∧ ((79 : Nat) : Int) + (4) = ((83 : Nat) : Int) := by decide +kernel
theorem e_X1_accepts_82 : decode cX1_accepts 82 = .ok (.iconst 0, 1) ∧ 82 + 1 = 83 := by decide +kernel
theorem e_X1_accepts_83 : decode cX1_accepts 83 = .ok (.ireturn, 1) := by decide +kernel
theorem e_X1_accepts_84 : decode cX1_accepts 84 = .ok (.aload_n 0, 1) ∧ 84 + 1 = 85 := by decide +kernel
theorem e_X1_accepts_85 : decode cX1_accepts 85 = .ok (.iload_n 1, 1) ∧ 85 + 1 = 86 := by decide +kernel
theorem e_X1_accepts_86 : decode cX1_accepts 86 = .ok (.invokevirtual 35, 3) ∧ 86 + 3 = 89 := by decide +kernel
theorem e_X1_accepts_89 : decode cX1_accepts 89 = .ok (.ireturn, 1) := by decide +kernel
theorem e_X1_accepts_90 : decode cX1_accepts 90 = .ok (.aload_n 0, 1) ∧ 90 + 1 = 91 := by decide +kernel
theorem e_X1_accepts_91 : decode cX1_accepts 91 = .ok (.iload_n 1, 1) ∧ 91 + 1 = 92 := by decide +kernel
theorem e_X1_accepts_92 : decode cX1_accepts 92 = .ok (.invokevirtual 38, 3) ∧ 92 + 3 = 95 := by decide +kernel
theorem e_X1_accepts_95 : decode cX1_accepts 95 = .ok (.ireturn, 1) := by decide +kernel
theorem e_X1_accepts_96 : decode cX1_accepts 96 = .ok (.aload_n 0, 1) ∧ 96 + 1 = 97 := by decide +kernel
theorem e_X1_accepts_97 : decode cX1_accepts 97 = .ok (.iload_n 1, 1) ∧ 97 + 1 = 98 := by decide +kernel
theorem e_X1_accepts_98 : decode cX1_accepts 98 = .ok (.bipush 48, 2) ∧ 98 + 2 = 100 := by decide +kernel
theorem e_X1_accepts_100 : decode cX1_accepts 100 = .ok (.isub, 1) ∧ 100 + 1 = 101 := by decide +kernel
theorem e_X1_accepts_101 : decode cX1_accepts 101 = .ok (.aload_n 0, 1) ∧ 101 + 1 = 102 := by decide +kernel
theorem e_X1_accepts_102 : decode cX1_accepts 102 = .ok (.getfield 25, 3) ∧ 102 + 3 = 105 := by decide +kernel
theorem e_X1_accepts_105 : decode cX1_accepts 105 = .ok (.invokevirtual 41, 3) ∧ 105 + 3 = 108 := by decide +kernel
theorem e_X1_accepts_108 : decode cX1_accepts 108 = .ok (.ifCond .eq 15, 3) ∧ 108 + 3 = 111 ∧ ((108 : Nat) : Int) + (15) = ((123 : Nat) : Int) := by decide +kernel
theorem e_X1_accepts_111 : decode cX1_accepts 111 = .ok (.aload_n 0, 1) ∧ 111 + 1 = 112 := by decide +kernel
theorem e_X1_accepts_112 : decode cX1_accepts 112 = .ok (.iconst 4, 1) ∧ 112 + 1 = 113 := by decide +kernel
theorem e_X1_accepts_113 : decode cX1_accepts 113 = .ok (.invokevirtual 31, 3) ∧ 113 + 3 = 116 := by decide +kernel
theorem e_X1_accepts_116 : decode cX1_accepts 116 = .ok (.ifCond .eq 7, 3) ∧ 116 + 3 = 119 ∧ ((116 : Nat) : Int) + (7) = ((123 : Nat) : Int) := by decide +kernel
theorem e_X1_accepts_119 : decode cX1_accepts 119 = .ok (.iconst 1, 1) ∧ 119 + 1 = 120 := by decide +kernel
theorem e_X1_accepts_120 : decode cX1_accepts 120 = .ok (.goto 4, 3) ∧ 120 + 3 = 123 ∧ ((120 : Nat) : Int) + (4) = ((124 : Nat) : Int) := by decide +kernel
theorem e_X1_accepts_123 : decode cX1_accepts 123 = .ok (.iconst 0, 1) ∧ 123 + 1 = 124 := by decide +kernel
theorem e_X1_accepts_124 : decode cX1_accepts 124 = .ok (.ireturn, 1) := by decide +kernel
theorem e_X1_accepts_125 : decode cX1_accepts 125 = .ok (.aload_n 0, 1) ∧ 125 + 1 = 126 := by decide +kernel
theorem e_X1_accepts_126 : decode cX1_accepts 126 = .ok (.iload_n 1, 1) ∧ 126 + 1 = 127 := by decide +kernel
theorem e_X1_accepts_127 : decode cX1_accepts 127 = .ok (.bipush 48, 2) ∧ 127 + 2 = 129 := by decide +kernel
theorem e_X1_accepts_129 : decode cX1_accepts 129 = .ok (.isub, 1) ∧ 129 + 1 = 130 := by decide +kernel
theorem e_X1_accepts_130 : decode cX1_accepts 130 = .ok (.aload_n 0, 1) ∧ 130 + 1 = 131 := by decide +kernel
theorem e_X1_accepts_131 : decode cX1_accepts 131 = .ok (.getfield 25, 3) ∧ 131 + 3 = 134 := by decide +kernel
theorem e_X1_accepts_134 : decode cX1_accepts 134 = .ok (.invokevirtual 45, 3) ∧ 134 + 3 = 137 := by decide +kernel
theorem e_X1_accepts_137 : decode cX1_accepts 137 = .ok (.ifCond .eq 14, 3) ∧ 137 + 3 = 140 ∧ ((137 : Nat) : Int) + (14) = ((151 : Nat) : Int) := by decide +kernel
theorem e_X1_accepts_140 : decode cX1_accepts 140 = .ok (.aload_n 0, 1) ∧ 140 + 1 = 141 := by decide +kernel
theorem e_X1_accepts_141 : decode cX1_accepts 141 = .ok (.invokevirtual 48, 3) ∧ 141 + 3 = 144 := by decide +kernel
theorem e_X1_accepts_144 : decode cX1_accepts 144 = .ok (.ifCond .eq 7, 3) ∧ 144 + 3 = 147 ∧ ((144 : Nat) : Int) + (7) = ((151 : Nat) : Int) := by decide +kernel
theorem e_X1_accepts_147 : decode cX1_accepts 147 = .ok (.iconst 1, 1) ∧ 147 + 1 = 148 := by decide +kernel
theorem e_X1_accepts_148 : decode cX1_accepts 148 = .ok (.goto 4, 3) ∧ 148 + 3 = 151 ∧ ((148 : Nat) : Int) + (4) = ((152 : Nat) : Int) := by decide +kernel
theorem e_X1_accepts_151 : decode cX1_accepts 151 = .ok (.iconst 0, 1) ∧ 151 + 1 = 152 := by decide +kernel
theorem e_X1_accepts_152 : decode cX1_accepts 152 = .ok (.ireturn, 1) := by decide +kernel
theorem e_X1_accepts_153 : decode cX1_accepts 153 = .ok (.aload_n 0, 1) ∧ 153 + 1 = 154 := by decide +kernel
theorem e_X1_accepts_154 : decode cX1_accepts 154 = .ok (.aload_n 0, 1) ∧ 154 + 1 = 155 := by decide +kernel
theorem e_X1_accepts_155 : decode cX1_accepts 155 = .ok (.getfield 12, 3) ∧ 155 + 3 = 158 := by decide +kernel
theorem e_X1_accepts_158 : decode cX1_accepts 158 = .ok (.getfield 52, 3) ∧ 158 + 3 = 161 := by decide +kernel
theorem e_X1_accepts_161 : decode cX1_accepts 161 = .ok (.iload_n 1, 1) ∧ 161 + 1 = 162 := by decide +kernel
theorem e_X1_accepts_162 : decode cX1_accepts 162 = .ok (.bipush 48, 2) ∧ 162 + 2 = 164 := by decide +kernel
theorem e_X1_accepts_164 : decode cX1_accepts 164 = .ok (.isub, 1) ∧ 164 + 1 = 165 := by decide +kernel
theorem e_X1_accepts_165 : decode cX1_accepts 165 = .ok (.invokevirtual 56, 3) ∧ 165 + 3 = 168 := by decide +kernel
theorem e_X1_accepts_168 : decode cX1_accepts 168 = .ok (.ifCond .eq 16, 3) ∧ 168 + 3 = 171 ∧ ((168 : Nat) : Int) + (16) = ((184 : Nat) : Int) := by decide +kernel
theorem e_X1_accepts_171 : decode cX1_accepts 171 = .ok (.aload_n 0, 1) ∧ 171 + 1 = 172 := by decide +kernel
theorem e_X1_accepts_172 : decode cX1_accepts 172 = .ok (.bipush 6, 2) ∧ 172 + 2 = 174 := by decide +kernel
theorem e_X1_accepts_174 : decode cX1_accepts 174 = .ok (.invokevirtual 31, 3) ∧ 174 + 3 = 177 := by decide +kernel
theorem e_X1_accepts_177 : decode cX1_accepts 177 = .ok (.ifCond .eq 7, 3) ∧ 177 + 3 = 180 ∧ ((177 : Nat) : Int) + (7) = ((184 : Nat) : Int) := by decide +kernel
theorem e_X1_accepts_180 : decode cX1_accepts 180 = .ok (.iconst 1, 1) ∧ 180 + 1 = 181 := by decide +kernel
theorem e_X1_accepts_181 : decode cX1_accepts 181 = .ok (.goto 4, 3) ∧ 181 + 3 = 184 ∧ ((181 : Nat) : Int) + (4) = ((185 : Nat) : Int) := by decide +kernel
theorem e_X1_accepts_184 : decode cX1_accepts 184 = .ok (.iconst 0, 1) ∧ 184 + 1 = 185 := by decide +kernel
theorem e_X1_accepts_185 : decode cX1_accepts 185 = .ok (.ireturn, 1) := by decide +kernel
theorem e_X1_accepts_186 : decode cX1_accepts 186 = .ok (.aload_n 0, 1) ∧ 186 + 1 = 187 := by decide +kernel
theorem e_X1_accepts_187 : decode cX1_accepts 187 = .ok (.aload_n 0, 1) ∧ 187 + 1 = 188 := by decide +kernel
theorem e_X1_accepts_188 : decode cX1_accepts 188 = .ok (.getfield 12, 3) ∧ 188 + 3 = 191 := by decide +kernel
theorem e_X1_accepts_191 : decode cX1_accepts 191 = .ok (.getfield 60, 3) ∧ 191 + 3 = 194 := by decide +kernel
theorem e_X1_accepts_194 : decode cX1_accepts 194 = .ok (.iload_n 1, 1) ∧ 194 + 1 = 195 := by decide +kernel
theorem e_X1_accepts_195 : decode cX1_accepts 195 = .ok (.bipush 48, 2) ∧ 195 + 2 = 197 := by decide +kernel
theorem e_X1_accepts_197 : decode cX1_accepts 197 = .ok (.isub, 1) ∧ 197 + 1 = 198 := by decide +kernel
theorem e_X1_accepts_198 : decode cX1_accepts 198 = .ok (.invokevirtual 56, 3) ∧ 198 + 3 = 201 := by decide +kernel
theorem e_X1_accepts_201 : decode cX1_accepts 201 = .ok (.ifCond .eq 16, 3) ∧ 201 + 3 = 204 ∧ ((201 : Nat) : Int) + (16) = ((217 : Nat) : Int) := by decide +kernel
theorem e_X1_accepts_204 : decode cX1_accepts 204 = .ok (.aload_n 0, 1) ∧ 204 + 1 = 205 := by decide +kernel
theorem e_X1_accepts_205 : decode cX1_accepts 205 = .ok (.bipush 7, 2) ∧ 205 + 2 = 207 := by decide +kernel
theorem e_X1_accepts_207 : decode cX1_accepts 207 = .ok (.invokevirtual 31, 3) ∧ 207 + 3 = 210 := by decide +kernel
theorem e_X1_accepts_210 : decode cX1_accepts 210 = .ok (.ifCond .eq 7, 3) ∧ 210 + 3 = 213 ∧ ((210 : Nat) : Int) + (7) = ((217 : Nat) : Int) := by decide +kernel
theorem e_X1_accepts_213 : decode cX1_accepts 213 = .ok (.iconst 1, 1) ∧ 213 + 1 = 214 := by decide +kernel
theorem e_X1_accepts_214 : decode cX1_accepts 214 = .ok (.goto 4, 3) ∧ 214 + 3 = 217 ∧ ((214 : Nat) : Int) + (4) = ((218 : Nat) : Int) := by decide +kernel
theorem e_X1_accepts_217 : decode cX1_accepts 217 = .ok (.iconst 0, 1) ∧ 217 + 1 = 218 := by decide +kernel
theorem e_X1_accepts_218 : decode cX1_accepts 218 = .ok (.ireturn, 1) := by decide +kernel
theorem e_X1_accepts_219 : decode cX1_accepts 219 = .ok (.aload_n 0, 1) ∧ 219 + 1 = 220 := by decide +kernel
theorem e_X1_accepts_220 : decode cX1_accepts 220 = .ok (.aload_n 0, 1) ∧ 220 + 1 = 221 := by decide +kernel
theorem e_X1_accepts_221 : decode cX1_accepts 221 = .ok (.getfield 12, 3) ∧ 221 + 3 = 224 := by decide +kernel
theorem e_X1_accepts_224 : decode cX1_accepts 224 = .ok (.getfield 63, 3) ∧ 224 + 3 = 227 := by decide +kernel
theorem e_X1_accepts_227 : decode cX1_accepts 227 = .ok (.iload_n 1, 1) ∧ 227 + 1 = 228 := by decide +kernel
theorem e_X1_accepts_228 : decode cX1_accepts 228 = .ok (.bipush 48, 2) ∧ 228 + 2 = 230 := by decide +kernel
theorem e_X1_accepts_230 : decode cX1_accepts 230 = .ok (.isub, 1) ∧ 230 + 1 = 231 := by decide +kernel
theorem e_X1_accepts_231 : decode cX1_accepts 231 = .ok (.invokevirtual 56, 3) ∧ 231 + 3 = 234 := by decide +kernel
theorem e_X1_accepts_234 : decode cX1_accepts 234 = .ok (.ifCond .eq 15, 3) ∧ 234 + 3 = 237 ∧ ((234 : Nat) : Int) + (15) = ((249 : Nat) : Int) := by decide +kernel
theorem e_X1_accepts_237 : decode cX1_accepts 237 = .ok (.aload_n 0, 1) ∧ 237 + 1 = 238 := by decide +kernel
theorem e_X1_accepts_238 : decode cX1_accepts 238 = .ok (.iconst 2, 1) ∧ 238 + 1 = 239 := by decide +kernel
theorem e_X1_accepts_239 : decode cX1_accepts 239 = .ok (.invokevirtual 31, 3) ∧ 239 + 3 = 242 := by decide +kernel
theorem e_X1_accepts_242 : decode cX1_accepts 242 = .ok (.ifCond .eq 7, 3) ∧ 242 + 3 = 245 ∧ ((242 : Nat) : Int) + (7) = ((249 : Nat) : Int) := by decide +kernel
theorem e_X1_accepts_245 : decode cX1_accepts 245 = .ok (.iconst 1, 1) ∧ 245 + 1 = 246 := by decide +kernel
theorem e_X1_accepts_246 : decode cX1_accepts 246 = .ok (.goto 4, 3) ∧ 246 + 3 = 249 ∧ ((246 : Nat) : Int) + (4) = ((250 : Nat) : Int) := by decide +kernel
theorem e_X1_accepts_249 : decode cX1_accepts 249 = .ok (.iconst 0, 1) ∧ 249 + 1 = 250 := by decide +kernel
theorem e_X1_accepts_250 : decode cX1_accepts 250 = .ok (.ireturn, 1) := by decide +kernel
theorem e_X1_accepts_251 : decode cX1_accepts 251 = .ok (.aload_n 0, 1) ∧ 251 + 1 = 252 := by decide +kernel
theorem e_X1_accepts_252 : decode cX1_accepts 252 = .ok (.iload_n 1, 1) ∧ 252 + 1 = 253 := by decide +kernel
theorem e_X1_accepts_253 : decode cX1_accepts 253 = .ok (.bipush 48, 2) ∧ 253 + 2 = 255 := by decide +kernel
theorem e_X1_accepts_255 : decode cX1_accepts 255 = .ok (.isub, 1) ∧ 255 + 1 = 256 := by decide +kernel
theorem e_X1_accepts_256 : decode cX1_accepts 256 = .ok (.iconst 0, 1) ∧ 256 + 1 = 257 := by decide +kernel
theorem e_X1_accepts_257 : decode cX1_accepts 257 = .ok (.invokevirtual 41, 3) ∧ 257 + 3 = 260 := by decide +kernel
theorem e_X1_accepts_260 : decode cX1_accepts 260 = .ok (.ifCond .eq 16, 3) ∧ 260 + 3 = 263 ∧ ((260 : Nat) : Int) + (16) = ((276 : Nat) : Int) := by decide +kernel
theorem e_X1_accepts_263 : decode cX1_accepts 263 = .ok (.aload_n 0, 1) ∧ 263 + 1 = 264 := by decide +kernel
theorem e_X1_accepts_264 : decode cX1_accepts 264 = .ok (.bipush 9, 2) ∧ 264 + 2 = 266 := by decide +kernel
theorem e_X1_accepts_266 : decode cX1_accepts 266 = .ok (.invokevirtual 31, 3) ∧ 266 + 3 = 269 := by decide +kernel
theorem e_X1_accepts_269 : decode cX1_accepts 269 = .ok (.ifCond .eq 7, 3) ∧ 269 + 3 = 272 ∧ ((269 : Nat) : Int) + (7) = ((276 : Nat) : Int) := by decide +kernel
theorem e_X1_accepts_272 : decode cX1_accepts 272 = .ok (.iconst 1, 1) ∧ 272 + 1 = 273 := by decide +kernel
theorem e_X1_accepts_273 : decode cX1_accepts 273 = .ok (.goto 4, 3) ∧ 273 + 3 = 276 ∧ ((273 : Nat) : Int) + (4) = ((277 : Nat) : Int) := by decide +kernel
theorem e_X1_accepts_276 : decode cX1_accepts 276 = .ok (.iconst 0, 1) ∧ 276 + 1 = 277 := by decide +kernel
theorem e_X1_accepts_277 : decode cX1_accepts 277 = .ok (.ireturn, 1) := by decide +kernel
theorem e_X1_accepts_278 : decode cX1_accepts 278 = .ok (.aload_n 0, 1) ∧ 278 + 1 = 279 := by decide +kernel
theorem e_X1_accepts_279 : decode cX1_accepts 279 = .ok (.iload_n 1, 1) ∧ 279 + 1 = 280 := by decide +kernel
theorem e_X1_accepts_280 : decode cX1_accepts 280 = .ok (.bipush 48, 2) ∧ 280 + 2 = 282 := by decide +kernel
theorem e_X1_accepts_282 : decode cX1_accepts 282 = .ok (.isub, 1) ∧ 282 + 1 = 283 := by decide +kernel
theorem e_X1_accepts_283 : decode cX1_accepts 283 = .ok (.iconst 0, 1) ∧ 283 + 1 = 284 := by decide +kernel
theorem e_X1_accepts_284 : decode cX1_accepts 284 = .ok (.invokevirtual 45, 3) ∧ 284 + 3 = 287 := by decide +kernel
theorem e_X1_accepts_287 : decode cX1_accepts 287 = .ok (.ifCond .eq 16, 3) ∧ 287 + 3 = 290 ∧ ((287 : Nat) : Int) + (16) = ((303 : Nat) : Int) := by decide +kernel
theorem e_X1_accepts_290 : decode cX1_accepts 290 = .ok (.aload_n 0, 1) ∧ 290 + 1 = 291 := by decide +kernel
theorem e_X1_accepts_291 : decode cX1_accepts 291 = .ok (.bipush 10, 2) ∧ 291 + 2 = 293 := by decide +kernel
theorem e_X1_accepts_293 : decode cX1_accepts 293 = .ok (.invokevirtual 31, 3) ∧ 293 + 3 = 296 := by decide +kernel
theorem e_X1_accepts_296 : decode cX1_accepts 296 = .ok (.ifCond .eq 7, 3) ∧ 296 + 3 = 299 ∧ ((296 : Nat) : Int) + (7) = ((303 : Nat) : Int) := by decide +kernel
theorem e_X1_accepts_299 : decode cX1_accepts 299 = .ok (.iconst 1, 1) ∧ 299 + 1 = 300 := by decide +kernel
theorem e_X1_accepts_300 : decode cX1_accepts 300 = .ok (.goto 4, 3) ∧ 300 + 3 = 303 ∧ ((300 : Nat) : Int) + (4) = ((304 : Nat) : Int) := by decide +kernel
theorem e_X1_accepts_303 : decode cX1_accepts 303 = .ok (.iconst 0, 1) ∧ 303 + 1 = 304 := by decide +kernel
theorem e_X1_accepts_304 : decode cX1_accepts 304 = .ok (.ireturn, 1) := by decide +kernel
theorem e_X1_accepts_305 : decode cX1_accepts 305 = .ok (.aload_n 0, 1) ∧ 305 + 1 = 306 := by decide +kernel
theorem e_X1_accepts_306 : decode cX1_accepts 306 = .ok (.iload_n 1, 1) ∧ 306 + 1 = 307 := by decide +kernel
theorem e_X1_accepts_307 : decode cX1_accepts 307 = .ok (.bipush 48, 2) ∧ 307 + 2 = 309 := by decide +kernel
theorem e_X1_accepts_309 : decode cX1_accepts 309 = .ok (.isub, 1) ∧ 309 + 1 = 310 := by decide +kernel
theorem e_X1_accepts_310 : decode cX1_accepts 310 = .ok (.invokevirtual 66, 3) ∧ 310 + 3 = 313 := by decide +kernel
theorem e_X1_accepts_313 : decode cX1_accepts 313 = .ok (.ireturn, 1) := by decide +kernel
theorem e_X1_accepts_314 : decode cX1_accepts 314 = .ok (.iconst 0, 1) ∧ 314 + 1 = 315 := by decide +kernel
theorem e_X1_accepts_315 : decode cX1_accepts 315 = .ok (.ireturn, 1) := by decide +kernel
theorem e_X1_goOn_0 : decode cX1_goOn 0 = .ok (.aload_n 0, 1) ∧ 0 + 1 = 1 := by decide +kernel
theorem e_X1_goOn_1 : decode cX1_goOn 1 = .ok (.iload_n 1, 1) ∧ 1 + 1 = 2 := by decide +kernel
theorem e_X1_goOn_2 : decode cX1_goOn 2 = .ok (.putfield 21, 3) ∧ 2 + 3 = 5 := by decide +kernel
theorem e_X1_goOn_5 : decode cX1_goOn 5 = .ok (.iconst 1, 1) ∧ 5 + 1 = 6 := by decide +kernel
theorem e_X1_goOn_6 : decode cX1_goOn 6 = .ok (.ireturn, 1) := by decide +kernel
theorem e_X1_acceptsHold_0 : decode cX1_acceptsHold 0 = .ok (.iload_n 1, 1) ∧ 0 + 1 = 1 := by decide +kernel
theorem e_X1_acceptsHold_1 : decode cX1_acceptsHold 1 = .ok (.bipush 49, 2) ∧ 1 + 2 = 3 := by decide +kernel
theorem e_X1_acceptsHold_3 : decode cX1_acceptsHold 3 = .ok (.if_icmp .lt 9, 3) ∧ 3 + 3 = 6 ∧ ((3 : Nat) : Int) + (9) = ((12 : Nat) : Int) := by decide +kernel
theorem e_X1_acceptsHold_6 : decode cX1_acceptsHold 6 = .ok (.iload_n 1, 1) ∧ 6 + 1 = 7 := by decide +kernel
theorem e_X1_acceptsHold_7 : decode cX1_acceptsHold 7 = .ok (.bipush 57, 2) ∧ 7 + 2 = 9 := by decide +kernel
theorem e_X1_acceptsHold_9 : decode cX1_acceptsHold 9 = .ok (.if_icmp .le 5, 3) ∧ 9 + 3 = 12 ∧ ((9 : Nat) : Int) + (5) = ((14 : Nat) : Int) := by decide +kernel
theorem e_X1_acceptsHold_12 : decode cX1_acceptsHold 12 = .ok (.iconst 0, 1) ∧ 12 + 1 = 13 := by decide +kernel
theorem e_X1_acceptsHold_13 : decode cX1_acceptsHold 13 = .ok (.ireturn, 1) := by decide +kernel
theorem e_X1_acceptsHold_14 : decode cX1_acceptsHold 14 = .ok (.aload_n 0, 1) ∧ 14 + 1 = 15 := by decide +kernel
theorem e_X1_acceptsHold_15 : decode cX1_acceptsHold 15 = .ok (.getfield 12, 3) ∧ 15 + 3 = 18 := by decide +kernel
theorem e_X1_acceptsHold_18 : decode cX1_acceptsHold 18 = .ok (.iload_n 1, 1) ∧ 18 + 1 = 19 := by decide +kernel
theorem e_X1_acceptsHold_19 : decode cX1_acceptsHold 19 = .ok (.bipush 48, 2) ∧ 19 + 2 = 21 := by decide +kernel
theorem e_X1_acceptsHold_21 : decode cX1_acceptsHold 21 = .ok (.isub, 1) ∧ 21 + 1 = 22 := by decide +kernel
theorem e_X1_acceptsHold_22 : decode cX1_acceptsHold 22 = .ok (.putfield 69, 3) ∧ 22 + 3 = 25 := by decide +kernel
theorem e_X1_acceptsHold_25 : decode cX1_acceptsHold 25 = .ok (.aload_n 0, 1) ∧ 25 + 1 = 26 := by decide +kernel
theorem e_X1_acceptsHold_26 : decode cX1_acceptsHold 26 = .ok (.iconst 2, 1) ∧ 26 + 1 = 27 := by decide +kernel
theorem e_X1_acceptsHold_27 : decode cX1_acceptsHold 27 = .ok (.invokevirtual 31, 3) ∧ 27 + 3 = 30 := by decide +kernel
theorem e_X1_acceptsHold_30 : decode cX1_acceptsHold 30 = .ok (.ireturn, 1) := by decide +kernel
theorem e_X1_acceptsPart_0 : decode cX1_acceptsPart 0 = .ok (.iload_n 1, 1) ∧ 0 + 1 = 1 := by decide +kernel
theorem e_X1_acceptsPart_1 : decode cX1_acceptsPart 1 = .ok (.bipush 67, 2) ∧ 1 + 2 = 3 := by decide +kernel
theorem e_X1_acceptsPart_3 : decode cX1_acceptsPart 3 = .ok (.if_icmp .ne 21, 3) ∧ 3 + 3 = 6 ∧ ((3 : Nat) : Int) + (21) = ((24 : Nat) : Int) := by decide +kernel
theorem e_X1_acceptsPart_6 : decode cX1_acceptsPart 6 = .ok (.aload_n 0, 1) ∧ 6 + 1 = 7 := by decide +kernel
theorem e_X1_acceptsPart_7 : decode cX1_acceptsPart 7 = .ok (.getfield 25, 3) ∧ 7 + 3 = 10 := by decide +kernel
theorem e_X1_acceptsPart_10 : decode cX1_acceptsPart 10 = .ok (.invokestatic 72, 3) ∧ 10 + 3 = 13 := by decide +kernel
theorem e_X1_acceptsPart_13 : decode cX1_acceptsPart 13 = .ok (.bipush 8, 2) ∧ 13 + 2 = 15 := by decide +kernel
theorem e_X1_acceptsPart_15 : decode cX1_acceptsPart 15 = .ok (.if_icmp .ge 9, 3) ∧ 15 + 3 = 18 ∧ ((15 : Nat) : Int) + (9) = ((24 : Nat) : Int) := by decide +kernel
theorem e_X1_acceptsPart_18 : decode cX1_acceptsPart 18 = .ok (.aload_n 0, 1) ∧ 18 + 1 = 19 := by decide +kernel
theorem e_X1_acceptsPart_19 : decode cX1_acceptsPart 19 = .ok (.iconst 3, 1) ∧ 19 + 1 = 20 := by decide +kernel
theorem e_X1_acceptsPart_20 : decode cX1_acceptsPart 20 = .ok (.invokevirtual 31, 3) ∧ 20 + 3 = 23 := by decide +kernel
theorem e_X1_acceptsPart_23 : decode cX1_acceptsPart 23 = .ok (.ireturn, 1) := by decide +kernel
theorem e_X1_acceptsPart_24 : decode cX1_acceptsPart 24 = .ok (.iload_n 1, 1) ∧ 24 + 1 = 25 := by decide +kernel
theorem e_X1_acceptsPart_25 : decode cX1_acceptsPart 25 = .ok (.bipush 75, 2) ∧ 25 + 2 = 27 := by decide +kernel
theorem e_X1_acceptsPart_27 : decode cX1_acceptsPart 27 = .ok (.if_icmp .ne 27, 3) ∧ 27 + 3 = 30 ∧ ((27 : Nat) : Int) + (27) = ((54 : Nat) : Int) := by decide +kernel
theorem e_X1_acceptsPart_30 : decode cX1_acceptsPart 30 = .ok (.aload_n 0, 1) ∧ 30 + 1 = 31 := by decide +kernel
theorem e_X1_acceptsPart_31 : decode cX1_acceptsPart 31 = .ok (.getfield 12, 3) ∧ 31 + 3 = 34 := by decide +kernel
theorem e_X1_acceptsPart_34 : decode cX1_acceptsPart 34 = .ok (.getfield 78, 3) ∧ 34 + 3 = 37 := by decide +kernel
theorem e_X1_acceptsPart_37 : decode cX1_acceptsPart 37 = .ok (.iconst 4, 1) ∧ 37 + 1 = 38 := by decide +kernel
theorem e_X1_acceptsPart_38 : decode cX1_acceptsPart 38 = .ok (.if_icmp .ge 16, 3) ∧ 38 + 3 = 41 ∧ ((38 : Nat) : Int) + (16) = ((54 : Nat) : Int) := by decide +kernel
theorem e_X1_acceptsPart_41 : decode cX1_acceptsPart 41 = .ok (.aload_n 0, 1) ∧ 41 + 1 = 42 := by decide +kernel
theorem e_X1_acceptsPart_42 : decode cX1_acceptsPart 42 = .ok (.bipush 8, 2) ∧ 42 + 2 = 44 := by decide +kernel
theorem e_X1_acceptsPart_44 : decode cX1_acceptsPart 44 = .ok (.invokevirtual 31, 3) ∧ 44 + 3 = 47 := by decide +kernel
theorem e_X1_acceptsPart_47 : decode cX1_acceptsPart 47 = .ok (.ifCond .eq 7, 3) ∧ 47 + 3 = 50 ∧ ((47 : Nat) : Int) + (7) = ((54 : Nat) : Int) := by decide +kernel
theorem e_X1_acceptsPart_50 : decode cX1_acceptsPart 50 = .ok (.iconst 1, 1) ∧ 50 + 1 = 51 := by decide +kernel
theorem e_X1_acceptsPart_51 : decode cX1_acceptsPart 51 = .ok (.goto 4, 3) ∧ 51 + 3 = 54 ∧ ((51 : Nat) : Int) + (4) = ((55 : Nat) : Int) := by decide +kernel
theorem e_X1_acceptsPart_54 : decode cX1_acceptsPart 54 = .ok (.iconst 0, 1) ∧ 54 + 1 = 55 := by decide +kernel
theorem e_X1_acceptsPart_55 : decode cX1_acceptsPart 55 = .ok (.ireturn, 1) := by decide +kernel
theorem e_X1_acceptsTens_0 : decode cX1_acceptsTens 0 = .ok (.iload_n 1, 1) ∧ 0 + 1 = 1 := by decide +kernel
theorem e_X1_acceptsTens_1 : decode cX1_acceptsTens 1 = .ok (.ifCond .ne 9, 3) ∧ 1 + 3 = 4 ∧ ((1 : Nat) : Int) + (9) = ((10 : Nat) : Int) := by decide +kernel
theorem e_X1_acceptsTens_4 : decode cX1_acceptsTens 4 = .ok (.sipush 1023, 3) ∧ 4 + 3 = 7 := by decide +kernel
theorem e_X1_acceptsTens_7 : decode cX1_acceptsTens 7 = .ok (.goto 15, 3) ∧ 7 + 3 = 10 ∧ ((7 : Nat) : Int) + (15) = ((22 : Nat) : Int) := by decide +kernel
theorem e_X1_acceptsTens_10 : decode cX1_acceptsTens 10 = .ok (.iload_n 1, 1) ∧ 10 + 1 = 11 := by decide +kernel
theorem e_X1_acceptsTens_11 : decode cX1_acceptsTens 11 = .ok (.iconst 1, 1) ∧ 11 + 1 = 12 := by decide +kernel
theorem e_X1_acceptsTens_12 : decode cX1_acceptsTens 12 = .ok (.if_icmp .ne 9, 3) ∧ 12 + 3 = 15 ∧ ((12 : Nat) : Int) + (9) = ((21 : Nat) : Int) := by decide +kernel
theorem e_X1_acceptsTens_15 : decode cX1_acceptsTens 15 = .ok (.sipush 3072, 3) ∧ 15 + 3 = 18 := by decide +kernel
theorem e_X1_acceptsTens_18 : decode cX1_acceptsTens 18 = .ok (.goto 4, 3) ∧ 18 + 3 = 21 ∧ ((18 : Nat) : Int) + (4) = ((22 : Nat) : Int) := by decide +kernel
theorem e_X1_acceptsTens_21 : decode cX1_acceptsTens 21 = .ok (.iconst 0, 1) ∧ 21 + 1 = 22 := by decide +kernel
theorem e_X1_acceptsTens_22 : decode cX1_acceptsTens 22 = .ok (.istore_n 3, 1) ∧ 22 + 1 = 23 := by decide +kernel
theorem e_X1_acceptsTens_23 : decode cX1_acceptsTens 23 = .ok (.aload_n 0, 1) ∧ 23 + 1 = 24 := by decide +kernel
theorem e_X1_acceptsTens_24 : decode cX1_acceptsTens 24 = .ok (.bipush 10, 2) ∧ 24 + 2 = 26 := by decide +kernel
theorem e_X1_acceptsTens_26 : decode cX1_acceptsTens 26 = .ok (.iload_n 1, 1) ∧ 26 + 1 = 27 := by decide +kernel
theorem e_X1_acceptsTens_27 : decode cX1_acceptsTens 27 = .ok (.imul, 1) ∧ 27 + 1 = 28 := by decide +kernel
theorem e_X1_acceptsTens_28 : decode cX1_acceptsTens 28 = .ok (.putfield 28, 3) ∧ 28 + 3 = 31 := by decide +kernel
theorem e_X1_acceptsTens_31 : decode cX1_acceptsTens 31 = .ok (.iload_n 3, 1) ∧ 31 + 1 = 32 := by decide +kernel
theorem e_X1_acceptsTens_32 : decode cX1_acceptsTens 32 = .ok (.iload_n 2, 1) ∧ 32 + 1 = 33 := by decide +kernel
theorem e_X1_acceptsTens_33 : decode cX1_acceptsTens 33 = .ok (.iconst (-1), 1) ∧ 33 + 1 = 34 := by decide +kernel
theorem e_X1_acceptsTens_34 : decode cX1_acceptsTens 34 = .ok (.ixor, 1) ∧ 34 + 1 = 35 := by decide +kernel
theorem e_X1_acceptsTens_35 : decode cX1_acceptsTens 35 = .ok (.iand, 1) ∧ 35 + 1 = 36 := by decide +kernel
theorem e_X1_acceptsTens_36 : decode cX1_acceptsTens 36 = .ok (.ifCond .eq 7, 3) ∧ 36 + 3 = 39 ∧ ((36 : Nat) : Int) + (7) = ((43 : Nat) : Int) := by decide +kernel
theorem e_X1_acceptsTens_39 : decode cX1_acceptsTens 39 = .ok (.iconst 1, 1) ∧ 39 + 1 = 40 := by decide +kernel
theorem e_X1_acceptsTens_40 : decode cX1_acceptsTens 40 = .ok (.goto 4, 3) ∧ 40 + 3 = 43 ∧ ((40 : Nat) : Int) + (4) = ((44 : Nat) : Int) := by decide +kernel
theorem e_X1_acceptsTens_43 : decode cX1_acceptsTens 43 = .ok (.iconst 0, 1) ∧ 43 + 1 = 44 := by decide +kernel
theorem e_X1_acceptsTens_44 : decode cX1_acceptsTens 44 = .ok (.ireturn, 1) := by decide +kernel
theorem e_X1_acceptsOnes_0 : decode cX1_acceptsOnes 0 = .ok (.aload_n 0, 1) ∧ 0 + 1 = 1 := by decide +kernel
theorem e_X1_acceptsOnes_1 : decode cX1_acceptsOnes 1 = .ok (.dup, 1) ∧ 1 + 1 = 2 := by decide +kernel
theorem e_X1_acceptsOnes_2 : decode cX1_acceptsOnes 2 = .ok (.getfield 28, 3) ∧ 2 + 3 = 5 := by decide +kernel
theorem e_X1_acceptsOnes_5 : decode cX1_acceptsOnes 5 = .ok (.iload_n 1, 1) ∧ 5 + 1 = 6 := by decide +kernel
theorem e_X1_acceptsOnes_6 : decode cX1_acceptsOnes 6 = .ok (.iadd, 1) ∧ 6 + 1 = 7 := by decide +kernel
theorem e_X1_acceptsOnes_7 : decode cX1_acceptsOnes 7 = .ok (.putfield 28, 3) ∧ 7 + 3 = 10 := by decide +kernel
theorem e_X1_acceptsOnes_10 : decode cX1_acceptsOnes 10 = .ok (.iload_n 1, 1) ∧ 10 + 1 = 11 := by decide +kernel
theorem e_X1_acceptsOnes_11 : decode cX1_acceptsOnes 11 = .ok (.ifCond .lt 34, 3) ∧ 11 + 3 = 14 ∧ ((11 : Nat) : Int) + (34) = ((45 : Nat) : Int) := by decide +kernel
theorem e_X1_acceptsOnes_14 : decode cX1_acceptsOnes 14 = .ok (.iload_n 1, 1) ∧ 14 + 1 = 15 := by decide +kernel
theorem e_X1_acceptsOnes_15 : decode cX1_acceptsOnes 15 = .ok (.bipush 9, 2) ∧ 15 + 2 = 17 := by decide +kernel
theorem e_X1_acceptsOnes_17 : decode cX1_acceptsOnes 17 = .ok (.if_icmp .gt 28, 3) ∧ 17 + 3 = 20 ∧ ((17 : Nat) : Int) + (28) = ((45 : Nat) : Int) := by decide +kernel
theorem e_X1_acceptsOnes_20 : decode cX1_acceptsOnes 20 = .ok (.aload_n 0, 1) ∧ 20 + 1 = 21 := by decide +kernel
theorem e_X1_acceptsOnes_21 : decode cX1_acceptsOnes 21 = .ok (.getfield 28, 3) ∧ 21 + 3 = 24 := by decide +kernel
theorem e_X1_acceptsOnes_24 : decode cX1_acceptsOnes 24 = .ok (.invokestatic 81, 3) ∧ 24 + 3 = 27 := by decide +kernel
theorem e_X1_acceptsOnes_27 : decode cX1_acceptsOnes 27 = .ok (.ifCond .eq 18, 3) ∧ 27 + 3 = 30 ∧ ((27 : Nat) : Int) + (18) = ((45 : Nat) : Int) := by decide +kernel
theorem e_X1_acceptsOnes_30 : decode cX1_acceptsOnes 30 = .ok (.iload_n 2, 1) ∧ 30 + 1 = 31 := by decide +kernel
theorem e_X1_acceptsOnes_31 : decode cX1_acceptsOnes 31 = .ok (.aload_n 0, 1) ∧ 31 + 1 = 32 := by decide +kernel
theorem e_X1_acceptsOnes_32 : decode cX1_acceptsOnes 32 = .ok (.getfield 28, 3) ∧ 32 + 3 = 35 := by decide +kernel
theorem e_X1_acceptsOnes_35 : decode cX1_acceptsOnes 35 = .ok (.invokestatic 84, 3) ∧ 35 + 3 = 38 := by decide +kernel
theorem e_X1_acceptsOnes_38 : decode cX1_acceptsOnes 38 = .ok (.ifCond .ne 7, 3) ∧ 38 + 3 = 41 ∧ ((38 : Nat) : Int) + (7) = ((45 : Nat) : Int) := by decide +kernel
theorem e_X1_acceptsOnes_41 : decode cX1_acceptsOnes 41 = .ok (.iconst 1, 1) ∧ 41 + 1 = 42 := by decide +kernel
theorem e_X1_acceptsOnes_42 : decode cX1_acceptsOnes 42 = .ok (.goto 4, 3) ∧ 42 + 3 = 45 ∧ ((42 : Nat) : Int) + (4) = ((46 : Nat) : Int) := by decide +kernel
theorem e_X1_acceptsOnes_45 : decode cX1_acceptsOnes 45 = .ok (.iconst 0, 1) ∧ 45 + 1 = 46 := by decide +kernel
theorem e_X1_acceptsOnes_46 : decode cX1_acceptsOnes 46 = .ok (.ireturn, 1) := by decide +kernel
theorem e_X1_tell_0 : decode cX1_tell 0 = .ok (.aload_n 0, 1) ∧ 0 + 1 = 1 := by decide +kernel
theorem e_X1_tell_1 : decode cX1_tell 1 = .ok (.dup, 1) ∧ 1 + 1 = 2 := by decide +kernel
theorem e_X1_tell_2 : decode cX1_tell 2 = .ok (.getfield 25, 3) ∧ 2 + 3 = 5 := by decide +kernel
theorem e_X1_tell_5 : decode cX1_tell 5 = .ok (.iconst 1, 1) ∧ 5 + 1 = 6 := by decide +kernel
theorem e_X1_tell_6 : decode cX1_tell 6 = .ok (.aload_n 0, 1) ∧ 6 + 1 = 7 := by decide +kernel
theorem e_X1_tell_7 : decode cX1_tell 7 = .ok (.getfield 28, 3) ∧ 7 + 3 = 10 := by decide +kernel
theorem e_X1_tell_10 : decode cX1_tell 10 = .ok (.ishl, 1) ∧ 10 + 1 = 11 := by decide +kernel
theorem e_X1_tell_11 : decode cX1_tell 11 = .ok (.ior, 1) ∧ 11 + 1 = 12 := by decide +kernel
theorem e_X1_tell_12 : decode cX1_tell 12 = .ok (.putfield 25, 3) ∧ 12 + 3 = 15 := by decide +kernel
theorem e_X1_tell_15 : decode cX1_tell 15 = .ok (.aload_n 0, 1) ∧ 15 + 1 = 16 := by decide +kernel
theorem e_X1_tell_16 : decode cX1_tell 16 = .ok (.iconst 5, 1) ∧ 16 + 1 = 17 := by decide +kernel
theorem e_X1_tell_17 : decode cX1_tell 17 = .ok (.invokevirtual 31, 3) ∧ 17 + 3 = 20 := by decide +kernel
theorem e_X1_tell_20 : decode cX1_tell 20 = .ok (.ireturn, 1) := by decide +kernel
theorem e_X1_acceptsAmount_0 : decode cX1_acceptsAmount 0 = .ok (.iload_n 2, 1) ∧ 0 + 1 = 1 := by decide +kernel
theorem e_X1_acceptsAmount_1 : decode cX1_acceptsAmount 1 = .ok (.ifCond .lt 9, 3) ∧ 1 + 3 = 4 ∧ ((1 : Nat) : Int) + (9) = ((10 : Nat) : Int) := by decide +kernel
theorem e_X1_acceptsAmount_4 : decode cX1_acceptsAmount 4 = .ok (.iload_n 2, 1) ∧ 4 + 1 = 5 := by decide +kernel
theorem e_X1_acceptsAmount_5 : decode cX1_acceptsAmount 5 = .ok (.bipush 9, 2) ∧ 5 + 2 = 7 := by decide +kernel
theorem e_X1_acceptsAmount_7 : decode cX1_acceptsAmount 7 = .ok (.if_icmp .le 5, 3) ∧ 7 + 3 = 10 ∧ ((7 : Nat) : Int) + (5) = ((12 : Nat) : Int) := by decide +kernel
theorem e_X1_acceptsAmount_10 : decode cX1_acceptsAmount 10 = .ok (.iconst 0, 1) ∧ 10 + 1 = 11 := by decide +kernel
theorem e_X1_acceptsAmount_11 : decode cX1_acceptsAmount 11 = .ok (.ireturn, 1) := by decide +kernel
theorem e_X1_acceptsAmount_12 : decode cX1_acceptsAmount 12 = .ok (.aload_n 1, 1) ∧ 12 + 1 = 13 := by decide +kernel
theorem e_X1_acceptsAmount_13 : decode cX1_acceptsAmount 13 = .ok (.aload_n 0, 1) ∧ 13 + 1 = 14 := by decide +kernel
theorem e_X1_acceptsAmount_14 : decode cX1_acceptsAmount 14 = .ok (.getfield 28, 3) ∧ 14 + 3 = 17 := by decide +kernel
theorem e_X1_acceptsAmount_17 : decode cX1_acceptsAmount 17 = .ok (.iload_n 2, 1) ∧ 17 + 1 = 18 := by decide +kernel
theorem e_X1_acceptsAmount_18 : decode cX1_acceptsAmount 18 = .ok (.invokestatic 87, 3) ∧ 18 + 3 = 21 := by decide +kernel
theorem e_X1_acceptsAmount_21 : decode cX1_acceptsAmount 21 = .ok (.iconst 1, 1) ∧ 21 + 1 = 22 := by decide +kernel
theorem e_X1_acceptsAmount_22 : decode cX1_acceptsAmount 22 = .ok (.ireturn, 1) := by decide +kernel
theorem e_X1_acceptsSect_0 : decode cX1_acceptsSect 0 = .ok (.iload_n 1, 1) ∧ 0 + 1 = 1 := by decide +kernel
theorem e_X1_acceptsSect_1 : decode cX1_acceptsSect 1 = .ok (.ifCond .eq 10, 3) ∧ 1 + 3 = 4 ∧ ((1 : Nat) : Int) + (10) = ((11 : Nat) : Int) := by decide +kernel
theorem e_X1_acceptsSect_4 : decode cX1_acceptsSect 4 = .ok (.iload_n 1, 1) ∧ 4 + 1 = 5 := by decide +kernel
theorem e_X1_acceptsSect_5 : decode cX1_acceptsSect 5 = .ok (.iconst 1, 1) ∧ 5 + 1 = 6 := by decide +kernel
theorem e_X1_acceptsSect_6 : decode cX1_acceptsSect 6 = .ok (.if_icmp .eq 5, 3) ∧ 6 + 3 = 9 ∧ ((6 : Nat) : Int) + (5) = ((11 : Nat) : Int) := by decide +kernel
theorem e_X1_acceptsSect_9 : decode cX1_acceptsSect 9 = .ok (.iconst 0, 1) ∧ 9 + 1 = 10 := by decide +kernel
theorem e_X1_acceptsSect_10 : decode cX1_acceptsSect 10 = .ok (.ireturn, 1) := by decide +kernel
theorem e_X1_acceptsSect_11 : decode cX1_acceptsSect 11 = .ok (.aload_n 0, 1) ∧ 11 + 1 = 12 := by decide +kernel
theorem e_X1_acceptsSect_12 : decode cX1_acceptsSect 12 = .ok (.getfield 12, 3) ∧ 12 + 3 = 15 := by decide +kernel
theorem e_X1_acceptsSect_15 : decode cX1_acceptsSect 15 = .ok (.aload_n 0, 1) ∧ 15 + 1 = 16 := by decide +kernel
theorem e_X1_acceptsSect_16 : decode cX1_acceptsSect 16 = .ok (.getfield 28, 3) ∧ 16 + 3 = 19 := by decide +kernel
theorem e_X1_acceptsSect_19 : decode cX1_acceptsSect 19 = .ok (.iload_n 1, 1) ∧ 19 + 1 = 20 := by decide +kernel
theorem e_X1_acceptsSect_20 : decode cX1_acceptsSect 20 = .ok (.invokevirtual 91, 3) ∧ 20 + 3 = 23 := by decide +kernel
theorem e_X1_acceptsSect_23 : decode cX1_acceptsSect 23 = .ok (.aload_n 0, 1) ∧ 23 + 1 = 24 := by decide +kernel
theorem e_X1_acceptsSect_24 : decode cX1_acceptsSect 24 = .ok (.iconst 2, 1) ∧ 24 + 1 = 25 := by decide +kernel
theorem e_X1_acceptsSect_25 : decode cX1_acceptsSect 25 = .ok (.invokevirtual 31, 3) ∧ 25 + 3 = 28 := by decide +kernel
theorem e_X1_acceptsSect_28 : decode cX1_acceptsSect 28 = .ok (.ireturn, 1) := by decide +kernel
theorem e_X2_init_0 : decode cX2_init 0 = .ok (.aload_n 0, 1) ∧ 0 + 1 = 1 := by decide +kernel
theorem e_X2_init_1 : decode cX2_init 1 = .ok (.invokespecial 1, 3) ∧ 1 + 3 = 4 := by decide +kernel
theorem e_X2_init_4 : decode cX2_init 4 = .ok (.aload_n 0, 1) ∧ 4 + 1 = 5 := by decide +kernel
theorem e_X2_init_5 : decode cX2_init 5 = .ok (.bipush 72, 2) ∧ 5 + 2 = 7 := by decide +kernel
theorem e_X2_init_7 : decode cX2_init 7 = .ok (.newarray .int, 2) ∧ 7 + 2 = 9 := by decide +kernel
theorem e_X2_init_9 : decode cX2_init 9 = .ok (.putfield 9, 3) ∧ 9 + 3 = 12 := by decide +kernel
theorem e_X2_init_12 : decode cX2_init 12 = .ok (.aload_n 0, 1) ∧ 12 + 1 = 13 := by decide +kernel
theorem e_X2_init_13 : decode cX2_init 13 = .ok (.new 13, 3) ∧ 13 + 3 = 16 := by decide +kernel
theorem e_X2_init_16 : decode cX2_init 16 = .ok (.dup, 1) ∧ 16 + 1 = 17 := by decide +kernel
theorem e_X2_init_17 : decode cX2_init 17 = .ok (.invokespecial 15, 3) ∧ 17 + 3 = 20 := by decide +kernel
theorem e_X2_init_20 : decode cX2_init 20 = .ok (.putfield 16, 3) ∧ 20 + 3 = 23 := by decide +kernel
theorem e_X2_init_23 : decode cX2_init 23 = .ok (.aload_n 0, 1) ∧ 23 + 1 = 24 := by decide +kernel
theorem e_X2_init_24 : decode cX2_init 24 = .ok (.new 20, 3) ∧ 24 + 3 = 27 := by decide +kernel
theorem e_X2_init_27 : decode cX2_init 27 = .ok (.dup, 1) ∧ 27 + 1 = 28 := by decide +kernel
theorem e_X2_init_28 : decode cX2_init 28 = .ok (.invokespecial 22, 3) ∧ 28 + 3 = 31 := by decide +kernel
theorem e_X2_init_31 : decode cX2_init 31 = .ok (.putfield 23, 3) ∧ 31 + 3 = 34 := by decide +kernel
theorem e_X2_init_34 : decode cX2_init 34 = .ok (.aload_n 0, 1) ∧ 34 + 1 = 35 := by decide +kernel
theorem e_X2_init_35 : decode cX2_init 35 = .ok (.new 20, 3) ∧ 35 + 3 = 38 := by decide +kernel
theorem e_X2_init_38 : decode cX2_init 38 = .ok (.dup, 1) ∧ 38 + 1 = 39 := by decide +kernel
theorem e_X2_init_39 : decode cX2_init 39 = .ok (.invokespecial 22, 3) ∧ 39 + 3 = 42 := by decide +kernel
theorem e_X2_init_42 : decode cX2_init 42 = .ok (.putfield 27, 3) ∧ 42 + 3 = 45 := by decide +kernel
theorem e_X2_init_45 : decode cX2_init 45 = .ok (.aload_n 0, 1) ∧ 45 + 1 = 46 := by decide +kernel
theorem e_X2_init_46 : decode cX2_init 46 = .ok (.bipush 8, 2) ∧ 46 + 2 = 48 := by decide +kernel
theorem e_X2_init_48 : decode cX2_init 48 = .ok (.newarray .int, 2) ∧ 48 + 2 = 50 := by decide +kernel
theorem e_X2_init_50 : decode cX2_init 50 = .ok (.putfield 30, 3) ∧ 50 + 3 = 53 := by decide +kernel
theorem e_X2_init_53 : decode cX2_init 53 = .ok (.aload_n 0, 1) ∧ 53 + 1 = 54 := by decide +kernel
theorem e_X2_init_54 : decode cX2_init 54 = .ok (.bipush 14, 2) ∧ 54 + 2 = 56 := by decide +kernel
theorem e_X2_init_56 : decode cX2_init 56 = .ok (.anewarray 20, 3) ∧ 56 + 3 = 59 := by decide +kernel
theorem e_X2_init_59 : decode cX2_init 59 = .ok (.putfield 33, 3) ∧ 59 + 3 = 62 := by decide +kernel
theorem e_X2_init_62 : decode cX2_init 62 = .ok (.aload_n 0, 1) ∧ 62 + 1 = 63 := by decide +kernel
theorem e_X2_init_63 : decode cX2_init 63 = .ok (.iconst 2, 1) ∧ 63 + 1 = 64 := by decide +kernel
theorem e_X2_init_64 : decode cX2_init 64 = .ok (.anewarray 20, 3) ∧ 64 + 3 = 67 := by decide +kernel
theorem e_X2_init_67 : decode cX2_init 67 = .ok (.putfield 37, 3) ∧ 67 + 3 = 70 := by decide +kernel
theorem e_X2_init_70 : decode cX2_init 70 = .ok (.aload_n 0, 1) ∧ 70 + 1 = 71 := by decide +kernel
theorem e_X2_init_71 : decode cX2_init 71 = .ok (.bipush 6, 2) ∧ 71 + 2 = 73 := by decide +kernel
theorem e_X2_init_73 : decode cX2_init 73 = .ok (.newarray .int, 2) ∧ 73 + 2 = 75 := by decide +kernel
theorem e_X2_init_75 : decode cX2_init 75 = .ok (.putfield 40, 3) ∧ 75 + 3 = 78 := by decide +kernel
theorem e_X2_init_78 : decode cX2_init 78 = .ok (.aload_n 0, 1) ∧ 78 + 1 = 79 := by decide +kernel
theorem e_X2_init_79 : decode cX2_init 79 = .ok (.bipush 6, 2) ∧ 79 + 2 = 81 := by decide +kernel
theorem e_X2_init_81 : decode cX2_init 81 = .ok (.newarray .int, 2) ∧ 81 + 2 = 83 := by decide +kernel
theorem e_X2_init_83 : decode cX2_init 83 = .ok (.putfield 43, 3) ∧ 83 + 3 = 86 := by decide +kernel
theorem e_X2_init_86 : decode cX2_init 86 = .ok (.iconst 0, 1) ∧ 86 + 1 = 87 := by decide +kernel
theorem e_X2_init_87 : decode cX2_init 87 = .ok (.istore_n 1, 1) ∧ 87 + 1 = 88 := by decide +kernel
theorem e_X2_init_88 : decode cX2_init 88 = .ok (.iload_n 1, 1) ∧ 88 + 1 = 89 := by decide +kernel
theorem e_X2_init_89 : decode cX2_init 89 = .ok (.aload_n 0, 1) ∧ 89 + 1 = 90 := by decide +kernel
theorem e_X2_init_90 : decode cX2_init 90 = .ok (.getfield 33, 3) ∧ 90 + 3 = 93 := by decide +kernel
theorem e_X2_init_93 : decode cX2_init 93 = .ok (.arraylength, 1) ∧ 93 + 1 = 94 := by decide +kernel
theorem e_X2_init_94 : decode cX2_init 94 = .ok (.if_icmp .ge 22, 3) ∧ 94 + 3 = 97 ∧ ((94 : Nat) : Int) + (22) = ((116 : Nat) : Int) := by decide +kernel
theorem e_X2_init_97 : decode cX2_init 97 = .ok (.aload_n 0, 1) ∧ 97 + 1 = 98 := by decide +kernel
theorem e_X2_init_98 : decode cX2_init 98 = .ok (.getfield 33, 3) ∧ 98 + 3 = 101 := by decide +kernel
theorem e_X2_init_101 : decode cX2_init 101 = .ok (.iload_n 1, 1) ∧ 101 + 1 = 102 := by decide +kernel
theorem e_X2_init_102 : decode cX2_init 102 = .ok (.new 20, 3) ∧ 102 + 3 = 105 := by decide +kernel
theorem e_X2_init_105 : decode cX2_init 105 = .ok (.dup, 1) ∧ 105 + 1 = 106 := by decide +kernel
theorem e_X2_init_106 : decode cX2_init 106 = .ok (.invokespecial 22, 3) ∧ 106 + 3 = 109 := by decide +kernel
theorem e_X2_init_109 : decode cX2_init 109 = .ok (.aastore, 1) ∧ 109 + 1 = 110 := by decide +kernel
theorem e_X2_init_110 : decode cX2_init 110 = .ok (.iinc 1 1, 3) ∧ 110 + 3 = 113 := by decide +kernel
theorem e_X2_init_113 : decode cX2_init 113 = .ok (.goto (-25), 3) ∧ 113 + 3 = 116 ∧ ((113 : Nat) : Int) + (-25) = ((88 : Nat) : Int) := by decide +kernel
theorem e_X2_init_116 : decode cX2_init 116 = .ok (.iconst 0, 1) ∧ 116 + 1 = 117 := by decide +kernel
theorem e_X2_init_117 : decode cX2_init 117 = .ok (.istore_n 1, 1) ∧ 117 + 1 = 118 := by decide +kernel
theorem e_X2_init_118 : decode cX2_init 118 = .ok (.iload_n 1, 1) ∧ 118 + 1 = 119 := by decide +kernel
theorem e_X2_init_119 : decode cX2_init 119 = .ok (.aload_n 0, 1) ∧ 119 + 1 = 120 := by decide +kernel
theorem e_X2_init_120 : decode cX2_init 120 = .ok (.getfield 37, 3) ∧ 120 + 3 = 123 := by decide +kernel
theorem e_X2_init_123 : decode cX2_init 123 = .ok (.arraylength, 1) ∧ 123 + 1 = 124 := by decide +kernel
theorem e_X2_init_124 : decode cX2_init 124 = .ok (.if_icmp .ge 22, 3) ∧ 124 + 3 = 127 ∧ ((124 : Nat) : Int) + (22) = ((146 : Nat) : Int) := by decide +kernel
theorem e_X2_init_127 : decode cX2_init 127 = .ok (.aload_n 0, 1) ∧ 127 + 1 = 128 := by decide +kernel
theorem e_X2_init_128 : decode cX2_init 128 = .ok (.getfield 37, 3) ∧ 128 + 3 = 131 := by decide +kernel
theorem e_X2_init_131 : decode cX2_init 131 = .ok (.iload_n 1, 1) ∧ 131 + 1 = 132 := by decide +kernel
theorem e_X2_init_132 : decode cX2_init 132 = .ok (.new 20, 3) ∧ 132 + 3 = 135 := by decide +kernel
theorem e_X2_init_135 : decode cX2_init 135 = .ok (.dup, 1) ∧ 135 + 1 = 136 := by decide +kernel
theorem e_X2_init_136 : decode cX2_init 136 = .ok (.invokespecial 22, 3) ∧ 136 + 3 = 139 := by decide +kernel
theorem e_X2_init_139 : decode cX2_init 139 = .ok (.aastore, 1) ∧ 139 + 1 = 140 := by decide +kernel
theorem e_X2_init_140 : decode cX2_init 140 = .ok (.iinc 1 1, 3) ∧ 140 + 3 = 143 := by decide +kernel
theorem e_X2_init_143 : decode cX2_init 143 = .ok (.goto (-25), 3) ∧ 143 + 3 = 146 ∧ ((143 : Nat) : Int) + (-25) = ((118 : Nat) : Int) := by decide +kernel
theorem e_X2_init_146 : decode cX2_init 146 = .ok (.return_, 1) := by decide +kernel
theorem e_X2_write_0 : decode cX2_write 0 = .ok (.iload_n 1, 1) ∧ 0 + 1 = 1 := by decide +kernel
theorem e_X2_write_1 : decode cX2_write 1 = .ok (.iconst 1, 1) ∧ 1 + 1 = 2 := by decide +kernel
theorem e_X2_write_2 : decode cX2_write 2 = .ok (.if_icmp .lt 9, 3) ∧ 2 + 3 = 5 ∧ ((2 : Nat) : Int) + (9) = ((11 : Nat) : Int) := by decide +kernel
theorem e_X2_write_5 : decode cX2_write 5 = .ok (.iload_n 1, 1) ∧ 5 + 1 = 6 := by decide +kernel
theorem e_X2_write_6 : decode cX2_write 6 = .ok (.bipush 8, 2) ∧ 6 + 2 = 8 := by decide +kernel
theorem e_X2_write_8 : decode cX2_write 8 = .ok (.if_icmp .le 6, 3) ∧ 8 + 3 = 11 ∧ ((8 : Nat) : Int) + (6) = ((14 : Nat) : Int) := by decide +kernel
theorem e_X2_write_11 : decode cX2_write 11 = .ok (.bipush (-2), 2) ∧ 11 + 2 = 13 := by decide +kernel
theorem e_X2_write_13 : decode cX2_write 13 = .ok (.ireturn, 1) := by decide +kernel
theorem e_X2_write_14 : decode cX2_write 14 = .ok (.aload_n 0, 1) ∧ 14 + 1 = 15 := by decide +kernel
theorem e_X2_write_15 : decode cX2_write 15 = .ok (.getfield 46, 3) ∧ 15 + 3 = 18 := by decide +kernel
theorem e_X2_write_18 : decode cX2_write 18 = .ok (.iload_n 1, 1) ∧ 18 + 1 = 19 := by decide +kernel
theorem e_X2_write_19 : decode cX2_write 19 = .ok (.iadd, 1) ∧ 19 + 1 = 20 := by decide +kernel
theorem e_X2_write_20 : decode cX2_write 20 = .ok (.bipush 72, 2) ∧ 20 + 2 = 22 := by decide +kernel
theorem e_X2_write_22 : decode cX2_write 22 = .ok (.if_icmp .le 6, 3) ∧ 22 + 3 = 25 ∧ ((22 : Nat) : Int) + (6) = ((28 : Nat) : Int) := by decide +kernel
theorem e_X2_write_25 : decode cX2_write 25 = .ok (.bipush (-4), 2) ∧ 25 + 2 = 27 := by decide +kernel
theorem e_X2_write_27 : decode cX2_write 27 = .ok (.ireturn, 1) := by decide +kernel
theorem e_X2_write_28 : decode cX2_write 28 = .ok (.iload_n 1, 1) ∧ 28 + 1 = 29 := by decide +kernel
theorem e_X2_write_29 : decode cX2_write 29 = .ok (.iconst 1, 1) ∧ 29 + 1 = 30 := by decide +kernel
theorem e_X2_write_30 : decode cX2_write 30 = .ok (.isub, 1) ∧ 30 + 1 = 31 := by decide +kernel
theorem e_X2_write_31 : decode cX2_write 31 = .ok (.istore 4, 2) ∧ 31 + 2 = 33 := by decide +kernel
theorem e_X2_write_33 : decode cX2_write 33 = .ok (.iload 4, 2) ∧ 33 + 2 = 35 := by decide +kernel
theorem e_X2_write_35 : decode cX2_write 35 = .ok (.ifCond .lt 42, 3) ∧ 35 + 3 = 38 ∧ ((35 : Nat) : Int) + (42) = ((77 : Nat) : Int) := by decide +kernel
theorem e_X2_write_38 : decode cX2_write 38 = .ok (.aload_n 0, 1) ∧ 38 + 1 = 39 := by decide +kernel
theorem e_X2_write_39 : decode cX2_write 39 = .ok (.getfield 9, 3) ∧ 39 + 3 = 42 := by decide +kernel
theorem e_X2_write_42 : decode cX2_write 42 = .ok (.aload_n 0, 1) ∧ 42 + 1 = 43 := by decide +kernel
theorem e_X2_write_43 : decode cX2_write 43 = .ok (.getfield 46, 3) ∧ 43 + 3 = 46 := by decide +kernel
theorem e_X2_write_46 : decode cX2_write 46 = .ok (.lload_n 2, 1) ∧ 46 + 1 = 47 := by decide +kernel
theorem e_X2_write_47 : decode cX2_write 47 = .ok (.bipush 8, 2) ∧ 47 + 2 = 49 := by decide +kernel
theorem e_X2_write_49 : decode cX2_write 49 = .ok (.iload 4, 2) ∧ 49 + 2 = 51 := by decide +kernel
theorem e_X2_write_51 : decode cX2_write 51 = .ok (.imul, 1) ∧ 51 + 1 = 52 := by decide +kernel
theorem e_X2_write_52 : decode cX2_write 52 = .ok (.lushr, 1) ∧ 52 + 1 = 53 := by decide +kernel
theorem e_X2_write_53 : decode cX2_write 53 = .ok (.l2i, 1) ∧ 53 + 1 = 54 := by decide +kernel
theorem e_X2_write_54 : decode cX2_write 54 = .ok (.sipush 255, 3) ∧ 54 + 3 = 57 := by decide +kernel
theorem e_X2_write_57 : decode cX2_write 57 = .ok (.iand, 1) ∧ 57 + 1 = 58 := by decide +kernel
theorem e_X2_write_58 : decode cX2_write 58 = .ok (.invokestatic 50, 3) ∧ 58 + 3 = 61 := by decide +kernel
theorem e_X2_write_61 : decode cX2_write 61 = .ok (.aload_n 0, 1) ∧ 61 + 1 = 62 := by decide +kernel
theorem e_X2_write_62 : decode cX2_write 62 = .ok (.dup, 1) ∧ 62 + 1 = 63 := by decide +kernel
theorem e_X2_write_63 : decode cX2_write 63 = .ok (.getfield 46, 3) ∧ 63 + 3 = 66 := by decide +kernel
theorem e_X2_write_66 : decode cX2_write 66 = .ok (.iconst 1, 1) ∧ 66 + 1 = 67 := by decide +kernel
theorem e_X2_write_67 : decode cX2_write 67 = .ok (.iadd, 1) ∧ 67 + 1 = 68 := by decide +kernel
theorem e_X2_write_68 : decode cX2_write 68 = .ok (.putfield 46, 3) ∧ 68 + 3 = 71 := by decide +kernel
theorem e_X2_write_71 : decode cX2_write 71 = .ok (.iinc 4 (-1), 3) ∧ 71 + 3 = 74 := by decide +kernel
theorem e_X2_write_74 : decode cX2_write 74 = .ok (.goto (-41), 3) ∧ 74 + 3 = 77 ∧ ((74 : Nat) : Int) + (-41) = ((33 : Nat) : Int) := by decide +kernel
theorem e_X2_write_77 : decode cX2_write 77 = .ok (.aload_n 0, 1) ∧ 77 + 1 = 78 := by decide +kernel
theorem e_X2_write_78 : decode cX2_write 78 = .ok (.getfield 46, 3) ∧ 78 + 3 = 81 := by decide +kernel
theorem e_X2_write_81 : decode cX2_write 81 = .ok (.ireturn, 1) := by decide +kernel
theorem e_X2_wipe_0 : decode cX2_wipe 0 = .ok (.aload_n 0, 1) ∧ 0 + 1 = 1 := by decide +kernel
theorem e_X2_wipe_1 : decode cX2_wipe 1 = .ok (.getfield 46, 3) ∧ 1 + 3 = 4 := by decide +kernel
theorem e_X2_wipe_4 : decode cX2_wipe 4 = .ok (.istore_n 1, 1) ∧ 4 + 1 = 5 := by decide +kernel
theorem e_X2_wipe_5 : decode cX2_wipe 5 = .ok (.aload_n 0, 1) ∧ 5 + 1 = 6 := by decide +kernel
theorem e_X2_wipe_6 : decode cX2_wipe 6 = .ok (.iconst 0, 1) ∧ 6 + 1 = 7 := by decide +kernel
theorem e_X2_wipe_7 : decode cX2_wipe 7 = .ok (.putfield 46, 3) ∧ 7 + 3 = 10 := by decide +kernel
theorem e_X2_wipe_10 : decode cX2_wipe 10 = .ok (.iload_n 1, 1) ∧ 10 + 1 = 11 := by decide +kernel
theorem e_X2_wipe_11 : decode cX2_wipe 11 = .ok (.ireturn, 1) := by decide +kernel
theorem e_X2_fault_0 : decode cX2_fault 0 = .ok (.aload_n 0, 1) ∧ 0 + 1 = 1 := by decide +kernel
theorem e_X2_fault_1 : decode cX2_fault 1 = .ok (.invokevirtual 54, 3) ∧ 1 + 3 = 4 := by decide +kernel
theorem e_X2_fault_4 : decode cX2_fault 4 = .ok (.ireturn, 1) := by decide +kernel
theorem e_X2_mine_0 : decode cX2_mine 0 = .ok (.aload_n 0, 1) ∧ 0 + 1 = 1 := by decide +kernel
theorem e_X2_mine_1 : decode cX2_mine 1 = .ok (.invokevirtual 54, 3) ∧ 1 + 3 = 4 := by decide +kernel
theorem e_X2_mine_4 : decode cX2_mine 4 = .ok (.bipush (-9), 2) ∧ 4 + 2 = 6 := by decide +kernel
theorem e_X2_mine_6 : decode cX2_mine 6 = .ok (.if_icmp .eq 6, 3) ∧ 6 + 3 = 9 ∧ ((6 : Nat) : Int) + (6) = ((12 : Nat) : Int) := by decide +kernel
theorem e_X2_mine_9 : decode cX2_mine 9 = .ok (.bipush (-3), 2) ∧ 9 + 2 = 11 := by decide +kernel
theorem e_X2_mine_11 : decode cX2_mine 11 = .ok (.ireturn, 1) := by decide +kernel
theorem e_X2_mine_12 : decode cX2_mine 12 = .ok (.aload_n 0, 1) ∧ 12 + 1 = 13 := by decide +kernel
theorem e_X2_mine_13 : decode cX2_mine 13 = .ok (.getfield 23, 3) ∧ 13 + 3 = 16 := by decide +kernel
theorem e_X2_mine_16 : decode cX2_mine 16 = .ok (.aload_n 0, 1) ∧ 16 + 1 = 17 := by decide +kernel
theorem e_X2_mine_17 : decode cX2_mine 17 = .ok (.getfield 16, 3) ∧ 17 + 3 = 20 := by decide +kernel
theorem e_X2_mine_20 : decode cX2_mine 20 = .ok (.getfield 58, 3) ∧ 20 + 3 = 23 := by decide +kernel
theorem e_X2_mine_23 : decode cX2_mine 23 = .ok (.invokevirtual 61, 3) ∧ 23 + 3 = 26 := by decide +kernel
theorem e_X2_mine_26 : decode cX2_mine 26 = .ok (.aload_n 0, 1) ∧ 26 + 1 = 27 := by decide +kernel
theorem e_X2_mine_27 : decode cX2_mine 27 = .ok (.iconst 0, 1) ∧ 27 + 1 = 28 := by decide +kernel
theorem e_X2_mine_28 : decode cX2_mine 28 = .ok (.putfield 65, 3) ∧ 28 + 3 = 31 := by decide +kernel
theorem e_X2_mine_31 : decode cX2_mine 31 = .ok (.aload_n 0, 1) ∧ 31 + 1 = 32 := by decide +kernel
theorem e_X2_mine_32 : decode cX2_mine 32 = .ok (.iconst 0, 1) ∧ 32 + 1 = 33 := by decide +kernel
theorem e_X2_mine_33 : decode cX2_mine 33 = .ok (.putfield 68, 3) ∧ 33 + 3 = 36 := by decide +kernel
theorem e_X2_mine_36 : decode cX2_mine 36 = .ok (.aload_n 0, 1) ∧ 36 + 1 = 37 := by decide +kernel
theorem e_X2_mine_37 : decode cX2_mine 37 = .ok (.getfield 23, 3) ∧ 37 + 3 = 40 := by decide +kernel
theorem e_X2_mine_40 : decode cX2_mine 40 = .ok (.getfield 71, 3) ∧ 40 + 3 = 43 := by decide +kernel
theorem e_X2_mine_43 : decode cX2_mine 43 = .ok (.ireturn, 1) := by decide +kernel
theorem e_X2_about_0 : decode cX2_about 0 = .ok (.iload_n 1, 1) ∧ 0 + 1 = 1 := by decide +kernel
theorem e_X2_about_1 : decode cX2_about 1 = .ok (.tableswitch 126 0 9 #[55, 63, 71, 79, 87, 95, 103, 111, 116, 121], 55) := by decide +kernel
theorem e_X2_about_56 : decode cX2_about 56 = .ok (.aload_n 0, 1) ∧ 56 + 1 = 57 := by decide +kernel
theorem e_X2_about_57 : decode cX2_about 57 = .ok (.getfield 23, 3) ∧ 57 + 3 = 60 := by decide +kernel
theorem e_X2_about_60 : decode cX2_about 60 = .ok (.getfield 74, 3) ∧ 60 + 3 = 63 := by decide +kernel
theorem e_X2_about_63 : decode cX2_about 63 = .ok (.ireturn, 1) := by decide +kernel
theorem e_X2_about_64 : decode cX2_about 64 = .ok (.aload_n 0, 1) ∧ 64 + 1 = 65 := by decide +kernel
theorem e_X2_about_65 : decode cX2_about 65 = .ok (.getfield 23, 3) ∧ 65 + 3 = 68 := by decide +kernel
theorem e_X2_about_68 : decode cX2_about 68 = .ok (.getfield 71, 3) ∧ 68 + 3 = 71 := by decide +kernel
theorem e_X2_about_71 : decode cX2_about 71 = .ok (.ireturn, 1) := by decide +kernel
theorem e_X2_about_72 : decode cX2_about 72 = .ok (.aload_n 0, 1) ∧ 72 + 1 = 73 := by decide +kernel
theorem e_X2_about_73 : decode cX2_about 73 = .ok (.getfield 23, 3) ∧ 73 + 3 = 76 := by decide +kernel
theorem e_X2_about_76 : decode cX2_about 76 = .ok (.getfield 77, 3) ∧ 76 + 3 = 79 := by decide +kernel
theorem e_X2_about_79 : decode cX2_about 79 = .ok (.ireturn, 1) := by decide +kernel
theorem e_X2_about_80 : decode cX2_about 80 = .ok (.aload_n 0, 1) ∧ 80 + 1 = 81 := by decide +kernel
theorem e_X2_about_81 : decode cX2_about 81 = .ok (.getfield 23, 3) ∧ 81 + 3 = 84 := by decide +kernel
theorem e_X2_about_84 : decode cX2_about 84 = .ok (.getfield 80, 3) ∧ 84 + 3 = 87 := by decide +kernel
theorem e_X2_about_87 : decode cX2_about 87 = .ok (.ireturn, 1) := by decide +kernel
theorem e_X2_about_88 : decode cX2_about 88 = .ok (.aload_n 0, 1) ∧ 88 + 1 = 89 := by decide +kernel
theorem e_X2_about_89 : decode cX2_about 89 = .ok (.getfield 23, 3) ∧ 89 + 3 = 92 := by decide +kernel
theorem e_X2_about_92 : decode cX2_about 92 = .ok (.getfield 83, 3) ∧ 92 + 3 = 95 := by decide +kernel
theorem e_X2_about_95 : decode cX2_about 95 = .ok (.ireturn, 1) := by decide +kernel
theorem e_X2_about_96 : decode cX2_about 96 = .ok (.aload_n 0, 1) ∧ 96 + 1 = 97 := by decide +kernel
theorem e_X2_about_97 : decode cX2_about 97 = .ok (.getfield 23, 3) ∧ 97 + 3 = 100 := by decide +kernel
theorem e_X2_about_100 : decode cX2_about 100 = .ok (.getfield 86, 3) ∧ 100 + 3 = 103 := by decide +kernel
theorem e_X2_about_103 : decode cX2_about 103 = .ok (.ireturn, 1) := by decide +kernel
theorem e_X2_about_104 : decode cX2_about 104 = .ok (.aload_n 0, 1) ∧ 104 + 1 = 105 := by decide +kernel
theorem e_X2_about_105 : decode cX2_about 105 = .ok (.getfield 23, 3) ∧ 105 + 3 = 108 := by decide +kernel
theorem e_X2_about_108 : decode cX2_about 108 = .ok (.invokevirtual 89, 3) ∧ 108 + 3 = 111 := by decide +kernel
theorem e_X2_about_111 : decode cX2_about 111 = .ok (.ireturn, 1) := by decide +kernel
theorem e_X2_about_112 : decode cX2_about 112 = .ok (.aload_n 0, 1) ∧ 112 + 1 = 113 := by decide +kernel
theorem e_X2_about_113 : decode cX2_about 113 = .ok (.getfield 65, 3) ∧ 113 + 3 = 116 := by decide +kernel
theorem e_X2_about_116 : decode cX2_about 116 = .ok (.ireturn, 1) := by decide +kernel
theorem e_X2_about_117 : decode cX2_about 117 = .ok (.aload_n 0, 1) ∧ 117 + 1 = 118 := by decide +kernel
theorem e_X2_about_118 : decode cX2_about 118 = .ok (.getfield 92, 3) ∧ 118 + 3 = 121 := by decide +kernel
theorem e_X2_about_121 : decode cX2_about 121 = .ok (.ireturn, 1) := by decide +kernel
theorem e_X2_about_122 : decode cX2_about 122 = .ok (.aload_n 0, 1) ∧ 122 + 1 = 123 := by decide +kernel
theorem e_X2_about_123 : decode cX2_about 123 = .ok (.getfield 46, 3) ∧ 123 + 3 = 126 := by decide +kernel
theorem e_X2_about_126 : decode cX2_about 126 = .ok (.ireturn, 1) := by decide +kernel
theorem e_X2_about_127 : decode cX2_about 127 = .ok (.bipush (-2), 2) ∧ 127 + 2 = 129 := by decide +kernel
theorem e_X2_about_129 : decode cX2_about 129 = .ok (.ireturn, 1) := by decide +kernel
theorem e_X2_cell_0 : decode cX2_cell 0 = .ok (.iload_n 1, 1) ∧ 0 + 1 = 1 := by decide +kernel
theorem e_X2_cell_1 : decode cX2_cell 1 = .ok (.invokestatic 95, 3) ∧ 1 + 3 = 4 := by decide +kernel
theorem e_X2_cell_4 : decode cX2_cell 4 = .ok (.ifCond .ne 5, 3) ∧ 4 + 3 = 7 ∧ ((4 : Nat) : Int) + (5) = ((9 : Nat) : Int) := by decide +kernel
theorem e_X2_cell_7 : decode cX2_cell 7 = .ok (.iconst (-1), 1) ∧ 7 + 1 = 8 := by decide +kernel
theorem e_X2_cell_8 : decode cX2_cell 8 = .ok (.ireturn, 1) := by decide +kernel
theorem e_X2_cell_9 : decode cX2_cell 9 = .ok (.iload_n 2, 1) ∧ 9 + 1 = 10 := by decide +kernel
theorem e_X2_cell_10 : decode cX2_cell 10 = .ok (.tableswitch 114 0 5 #[38, 50, 62, 74, 86, 103], 38) := by decide +kernel
theorem e_X2_cell_48 : decode cX2_cell 48 = .ok (.aload_n 0, 1) ∧ 48 + 1 = 49 := by decide +kernel
theorem e_X2_cell_49 : decode cX2_cell 49 = .ok (.getfield 23, 3) ∧ 49 + 3 = 52 := by decide +kernel
theorem e_X2_cell_52 : decode cX2_cell 52 = .ok (.getfield 99, 3) ∧ 52 + 3 = 55 := by decide +kernel
theorem e_X2_cell_55 : decode cX2_cell 55 = .ok (.iload_n 1, 1) ∧ 55 + 1 = 56 := by decide +kernel
theorem e_X2_cell_56 : decode cX2_cell 56 = .ok (.invokestatic 102, 3) ∧ 56 + 3 = 59 := by decide +kernel
theorem e_X2_cell_59 : decode cX2_cell 59 = .ok (.ireturn, 1) := by decide +kernel
theorem e_X2_cell_60 : decode cX2_cell 60 = .ok (.aload_n 0, 1) ∧ 60 + 1 = 61 := by decide +kernel
theorem e_X2_cell_61 : decode cX2_cell 61 = .ok (.getfield 23, 3) ∧ 61 + 3 = 64 := by decide +kernel
theorem e_X2_cell_64 : decode cX2_cell 64 = .ok (.getfield 106, 3) ∧ 64 + 3 = 67 := by decide +kernel
theorem e_X2_cell_67 : decode cX2_cell 67 = .ok (.iload_n 1, 1) ∧ 67 + 1 = 68 := by decide +kernel
theorem e_X2_cell_68 : decode cX2_cell 68 = .ok (.invokestatic 102, 3) ∧ 68 + 3 = 71 := by decide +kernel
theorem e_X2_cell_71 : decode cX2_cell 71 = .ok (.ireturn, 1) := by decide +kernel
theorem e_X2_cell_72 : decode cX2_cell 72 = .ok (.aload_n 0, 1) ∧ 72 + 1 = 73 := by decide +kernel
theorem e_X2_cell_73 : decode cX2_cell 73 = .ok (.getfield 23, 3) ∧ 73 + 3 = 76 := by decide +kernel
theorem e_X2_cell_76 : decode cX2_cell 76 = .ok (.getfield 109, 3) ∧ 76 + 3 = 79 := by decide +kernel
theorem e_X2_cell_79 : decode cX2_cell 79 = .ok (.iload_n 1, 1) ∧ 79 + 1 = 80 := by decide +kernel
theorem e_X2_cell_80 : decode cX2_cell 80 = .ok (.invokestatic 102, 3) ∧ 80 + 3 = 83 := by decide +kernel
theorem e_X2_cell_83 : decode cX2_cell 83 = .ok (.ireturn, 1) := by decide +kernel
theorem e_X2_cell_84 : decode cX2_cell 84 = .ok (.aload_n 0, 1) ∧ 84 + 1 = 85 := by decide +kernel
theorem e_X2_cell_85 : decode cX2_cell 85 = .ok (.getfield 23, 3) ∧ 85 + 3 = 88 := by decide +kernel
theorem e_X2_cell_88 : decode cX2_cell 88 = .ok (.getfield 112, 3) ∧ 88 + 3 = 91 := by decide +kernel
theorem e_X2_cell_91 : decode cX2_cell 91 = .ok (.iload_n 1, 1) ∧ 91 + 1 = 92 := by decide +kernel
theorem e_X2_cell_92 : decode cX2_cell 92 = .ok (.invokestatic 102, 3) ∧ 92 + 3 = 95 := by decide +kernel
theorem e_X2_cell_95 : decode cX2_cell 95 = .ok (.ireturn, 1) := by decide +kernel
theorem e_X2_cell_96 : decode cX2_cell 96 = .ok (.aload_n 0, 1) ∧ 96 + 1 = 97 := by decide +kernel
theorem e_X2_cell_97 : decode cX2_cell 97 = .ok (.getfield 23, 3) ∧ 97 + 3 = 100 := by decide +kernel
theorem e_X2_cell_100 : decode cX2_cell 100 = .ok (.iload_n 1, 1) ∧ 100 + 1 = 101 := by decide +kernel
theorem e_X2_cell_101 : decode cX2_cell 101 = .ok (.invokevirtual 115, 3) ∧ 101 + 3 = 104 := by decide +kernel
theorem e_X2_cell_104 : decode cX2_cell 104 = .ok (.ifCond .eq 7, 3) ∧ 104 + 3 = 107 ∧ ((104 : Nat) : Int) + (7) = ((111 : Nat) : Int) := by decide +kernel
theorem e_X2_cell_107 : decode cX2_cell 107 = .ok (.iconst 1, 1) ∧ 107 + 1 = 108 := by decide +kernel
theorem e_X2_cell_108 : decode cX2_cell 108 = .ok (.goto 4, 3) ∧ 108 + 3 = 111 ∧ ((108 : Nat) : Int) + (4) = ((112 : Nat) : Int) := by decide +kernel
theorem e_X2_cell_111 : decode cX2_cell 111 = .ok (.iconst 0, 1) ∧ 111 + 1 = 112 := by decide +kernel
theorem e_X2_cell_112 : decode cX2_cell 112 = .ok (.ireturn, 1) := by decide +kernel
theorem e_X2_cell_113 : decode cX2_cell 113 = .ok (.aload_n 0, 1) ∧ 113 + 1 = 114 := by decide +kernel
theorem e_X2_cell_114 : decode cX2_cell 114 = .ok (.getfield 23, 3) ∧ 114 + 3 = 117 := by decide +kernel
theorem e_X2_cell_117 : decode cX2_cell 117 = .ok (.iconst 1, 1) ∧ 117 + 1 = 118 := by decide +kernel
theorem e_X2_cell_118 : decode cX2_cell 118 = .ok (.iload_n 1, 1) ∧ 118 + 1 = 119 := by decide +kernel
theorem e_X2_cell_119 : decode cX2_cell 119 = .ok (.ishl, 1) ∧ 119 + 1 = 120 := by decide +kernel
theorem e_X2_cell_120 : decode cX2_cell 120 = .ok (.invokevirtual 118, 3) ∧ 120 + 3 = 123 := by decide +kernel
theorem e_X2_cell_123 : decode cX2_cell 123 = .ok (.ireturn, 1) := by decide +kernel
theorem e_X2_cell_124 : decode cX2_cell 124 = .ok (.bipush (-2), 2) ∧ 124 + 2 = 126 := by decide +kernel
theorem e_X2_cell_126 : decode cX2_cell 126 = .ok (.ireturn, 1) := by decide +kernel
theorem e_X2_monk_0 : decode cX2_monk 0 = .ok (.aload_n 0, 1) ∧ 0 + 1 = 1 := by decide +kernel
theorem e_X2_monk_1 : decode cX2_monk 1 = .ok (.getfield 23, 3) ∧ 1 + 3 = 4 := by decide +kernel
theorem e_X2_monk_4 : decode cX2_monk 4 = .ok (.iload_n 1, 1) ∧ 4 + 1 = 5 := by decide +kernel
theorem e_X2_monk_5 : decode cX2_monk 5 = .ok (.invokevirtual 122, 3) ∧ 5 + 3 = 8 := by decide +kernel
theorem e_X2_monk_8 : decode cX2_monk 8 = .ok (.ifCond .ne 5, 3) ∧ 8 + 3 = 11 ∧ ((8 : Nat) : Int) + (5) = ((13 : Nat) : Int) := by decide +kernel
theorem e_X2_monk_11 : decode cX2_monk 11 = .ok (.iconst (-1), 1) ∧ 11 + 1 = 12 := by decide +kernel
theorem e_X2_monk_12 : decode cX2_monk 12 = .ok (.ireturn, 1) := by decide +kernel
theorem e_X2_monk_13 : decode cX2_monk 13 = .ok (.iload_n 2, 1) ∧ 13 + 1 = 14 := by decide +kernel
theorem e_X2_monk_14 : decode cX2_monk 14 = .ok (.tableswitch 72 0 3 #[30, 39, 51, 63], 30) := by decide +kernel
theorem e_X2_monk_44 : decode cX2_monk 44 = .ok (.aload_n 0, 1) ∧ 44 + 1 = 45 := by decide +kernel
theorem e_X2_monk_45 : decode cX2_monk 45 = .ok (.getfield 23, 3) ∧ 45 + 3 = 48 := by decide +kernel
theorem e_X2_monk_48 : decode cX2_monk 48 = .ok (.iload_n 1, 1) ∧ 48 + 1 = 49 := by decide +kernel
theorem e_X2_monk_49 : decode cX2_monk 49 = .ok (.invokevirtual 125, 3) ∧ 49 + 3 = 52 := by decide +kernel
theorem e_X2_monk_52 : decode cX2_monk 52 = .ok (.ireturn, 1) := by decide +kernel
theorem e_X2_monk_53 : decode cX2_monk 53 = .ok (.aload_n 0, 1) ∧ 53 + 1 = 54 := by decide +kernel
theorem e_X2_monk_54 : decode cX2_monk 54 = .ok (.getfield 23, 3) ∧ 54 + 3 = 57 := by decide +kernel
theorem e_X2_monk_57 : decode cX2_monk 57 = .ok (.getfield 128, 3) ∧ 57 + 3 = 60 := by decide +kernel
theorem e_X2_monk_60 : decode cX2_monk 60 = .ok (.iload_n 1, 1) ∧ 60 + 1 = 61 := by decide +kernel
theorem e_X2_monk_61 : decode cX2_monk 61 = .ok (.ishr, 1) ∧ 61 + 1 = 62 := by decide +kernel
theorem e_X2_monk_62 : decode cX2_monk 62 = .ok (.iconst 1, 1) ∧ 62 + 1 = 63 := by decide +kernel
theorem e_X2_monk_63 : decode cX2_monk 63 = .ok (.iand, 1) ∧ 63 + 1 = 64 := by decide +kernel
theorem e_X2_monk_64 : decode cX2_monk 64 = .ok (.ireturn, 1) := by decide +kernel
theorem e_X2_monk_65 : decode cX2_monk 65 = .ok (.aload_n 0, 1) ∧ 65 + 1 = 66 := by decide +kernel
theorem e_X2_monk_66 : decode cX2_monk 66 = .ok (.getfield 23, 3) ∧ 66 + 3 = 69 := by decide +kernel
theorem e_X2_monk_69 : decode cX2_monk 69 = .ok (.getfield 86, 3) ∧ 69 + 3 = 72 := by decide +kernel
theorem e_X2_monk_72 : decode cX2_monk 72 = .ok (.iload_n 1, 1) ∧ 72 + 1 = 73 := by decide +kernel
theorem e_X2_monk_73 : decode cX2_monk 73 = .ok (.ishr, 1) ∧ 73 + 1 = 74 := by decide +kernel
theorem e_X2_monk_74 : decode cX2_monk 74 = .ok (.iconst 1, 1) ∧ 74 + 1 = 75 := by decide +kernel
theorem e_X2_monk_75 : decode cX2_monk 75 = .ok (.iand, 1) ∧ 75 + 1 = 76 := by decide +kernel
theorem e_X2_monk_76 : decode cX2_monk 76 = .ok (.ireturn, 1) := by decide +kernel
theorem e_X2_monk_77 : decode cX2_monk 77 = .ok (.aload_n 0, 1) ∧ 77 + 1 = 78 := by decide +kernel
theorem e_X2_monk_78 : decode cX2_monk 78 = .ok (.getfield 23, 3) ∧ 78 + 3 = 81 := by decide +kernel
theorem e_X2_monk_81 : decode cX2_monk 81 = .ok (.iload_n 1, 1) ∧ 81 + 1 = 82 := by decide +kernel
theorem e_X2_monk_82 : decode cX2_monk 82 = .ok (.invokevirtual 131, 3) ∧ 82 + 3 = 85 := by decide +kernel
theorem e_X2_monk_85 : decode cX2_monk 85 = .ok (.ireturn, 1) := by decide +kernel
theorem e_X2_monk_86 : decode cX2_monk 86 = .ok (.bipush (-2), 2) ∧ 86 + 2 = 88 := by decide +kernel
theorem e_X2_monk_88 : decode cX2_monk 88 = .ok (.ireturn, 1) := by decide +kernel
theorem e_X2_pray_0 : decode cX2_pray 0 = .ok (.aload_n 0, 1) ∧ 0 + 1 = 1 := by decide +kernel
theorem e_X2_pray_1 : decode cX2_pray 1 = .ok (.getfield 23, 3) ∧ 1 + 3 = 4 := by decide +kernel
theorem e_X2_pray_4 : decode cX2_pray 4 = .ok (.iload_n 1, 1) ∧ 4 + 1 = 5 := by decide +kernel
theorem e_X2_pray_5 : decode cX2_pray 5 = .ok (.invokevirtual 122, 3) ∧ 5 + 3 = 8 := by decide +kernel
theorem e_X2_pray_8 : decode cX2_pray 8 = .ok (.ifCond .ne 5, 3) ∧ 8 + 3 = 11 ∧ ((8 : Nat) : Int) + (5) = ((13 : Nat) : Int) := by decide +kernel
theorem e_X2_pray_11 : decode cX2_pray 11 = .ok (.iconst (-1), 1) ∧ 11 + 1 = 12 := by decide +kernel
theorem e_X2_pray_12 : decode cX2_pray 12 = .ok (.ireturn, 1) := by decide +kernel
theorem e_X2_pray_13 : decode cX2_pray 13 = .ok (.aload_n 0, 1) ∧ 13 + 1 = 14 := by decide +kernel
theorem e_X2_pray_14 : decode cX2_pray 14 = .ok (.getfield 23, 3) ∧ 14 + 3 = 17 := by decide +kernel
theorem e_X2_pray_17 : decode cX2_pray 17 = .ok (.iload_n 1, 1) ∧ 17 + 1 = 18 := by decide +kernel
theorem e_X2_pray_18 : decode cX2_pray 18 = .ok (.invokevirtual 134, 3) ∧ 18 + 3 = 21 := by decide +kernel
theorem e_X2_pray_21 : decode cX2_pray 21 = .ok (.ifCond .ne 6, 3) ∧ 21 + 3 = 24 ∧ ((21 : Nat) : Int) + (6) = ((27 : Nat) : Int) := by decide +kernel
theorem e_X2_pray_24 : decode cX2_pray 24 = .ok (.bipush (-3), 2) ∧ 24 + 2 = 26 := by decide +kernel
theorem e_X2_pray_26 : decode cX2_pray 26 = .ok (.ireturn, 1) := by decide +kernel
theorem e_X2_pray_27 : decode cX2_pray 27 = .ok (.aload_n 0, 1) ∧ 27 + 1 = 28 := by decide +kernel
theorem e_X2_pray_28 : decode cX2_pray 28 = .ok (.invokevirtual 137, 3) ∧ 28 + 3 = 31 := by decide +kernel
theorem e_X2_pray_31 : decode cX2_pray 31 = .ok (.aload_n 0, 1) ∧ 31 + 1 = 32 := by decide +kernel
theorem e_X2_pray_32 : decode cX2_pray 32 = .ok (.getfield 23, 3) ∧ 32 + 3 = 35 := by decide +kernel
theorem e_X2_pray_35 : decode cX2_pray 35 = .ok (.iload_n 1, 1) ∧ 35 + 1 = 36 := by decide +kernel
theorem e_X2_pray_36 : decode cX2_pray 36 = .ok (.invokevirtual 140, 3) ∧ 36 + 3 = 39 := by decide +kernel
theorem e_X2_pray_39 : decode cX2_pray 39 = .ok (.ireturn, 1) := by decide +kernel
theorem e_X2_oath_0 : decode cX2_oath 0 = .ok (.aload_n 0, 1) ∧ 0 + 1 = 1 := by decide +kernel
theorem e_X2_oath_1 : decode cX2_oath 1 = .ok (.getfield 23, 3) ∧ 1 + 3 = 4 := by decide +kernel
theorem e_X2_oath_4 : decode cX2_oath 4 = .ok (.iload_n 1, 1) ∧ 4 + 1 = 5 := by decide +kernel
theorem e_X2_oath_5 : decode cX2_oath 5 = .ok (.invokevirtual 122, 3) ∧ 5 + 3 = 8 := by decide +kernel
theorem e_X2_oath_8 : decode cX2_oath 8 = .ok (.ifCond .ne 5, 3) ∧ 8 + 3 = 11 ∧ ((8 : Nat) : Int) + (5) = ((13 : Nat) : Int) := by decide +kernel
theorem e_X2_oath_11 : decode cX2_oath 11 = .ok (.iconst (-1), 1) ∧ 11 + 1 = 12 := by decide +kernel
theorem e_X2_oath_12 : decode cX2_oath 12 = .ok (.ireturn, 1) := by decide +kernel
theorem e_X2_oath_13 : decode cX2_oath 13 = .ok (.aload_n 0, 1) ∧ 13 + 1 = 14 := by decide +kernel
theorem e_X2_oath_14 : decode cX2_oath 14 = .ok (.getfield 23, 3) ∧ 14 + 3 = 17 := by decide +kernel
theorem e_X2_oath_17 : decode cX2_oath 17 = .ok (.iload_n 1, 1) ∧ 17 + 1 = 18 := by decide +kernel
theorem e_X2_oath_18 : decode cX2_oath 18 = .ok (.invokevirtual 125, 3) ∧ 18 + 3 = 21 := by decide +kernel
theorem e_X2_oath_21 : decode cX2_oath 21 = .ok (.istore_n 2, 1) ∧ 21 + 1 = 22 := by decide +kernel
theorem e_X2_oath_22 : decode cX2_oath 22 = .ok (.aload_n 0, 1) ∧ 22 + 1 = 23 := by decide +kernel
theorem e_X2_oath_23 : decode cX2_oath 23 = .ok (.getfield 23, 3) ∧ 23 + 3 = 26 := by decide +kernel
theorem e_X2_oath_26 : decode cX2_oath 26 = .ok (.iload_n 1, 1) ∧ 26 + 1 = 27 := by decide +kernel
theorem e_X2_oath_27 : decode cX2_oath 27 = .ok (.invokevirtual 134, 3) ∧ 27 + 3 = 30 := by decide +kernel
theorem e_X2_oath_30 : decode cX2_oath 30 = .ok (.ifCond .eq 14, 3) ∧ 30 + 3 = 33 ∧ ((30 : Nat) : Int) + (14) = ((44 : Nat) : Int) := by decide +kernel
theorem e_X2_oath_33 : decode cX2_oath 33 = .ok (.aload_n 0, 1) ∧ 33 + 1 = 34 := by decide +kernel
theorem e_X2_oath_34 : decode cX2_oath 34 = .ok (.getfield 23, 3) ∧ 34 + 3 = 37 := by decide +kernel
theorem e_X2_oath_37 : decode cX2_oath 37 = .ok (.iload_n 2, 1) ∧ 37 + 1 = 38 := by decide +kernel
theorem e_X2_oath_38 : decode cX2_oath 38 = .ok (.invokevirtual 115, 3) ∧ 38 + 3 = 41 := by decide +kernel
theorem e_X2_oath_41 : decode cX2_oath 41 = .ok (.ifCond .eq 6, 3) ∧ 41 + 3 = 44 ∧ ((41 : Nat) : Int) + (6) = ((47 : Nat) : Int) := by decide +kernel
theorem e_X2_oath_44 : decode cX2_oath 44 = .ok (.bipush (-3), 2) ∧ 44 + 2 = 46 := by decide +kernel
theorem e_X2_oath_46 : decode cX2_oath 46 = .ok (.ireturn, 1) := by decide +kernel
theorem e_X2_oath_47 : decode cX2_oath 47 = .ok (.aload_n 0, 1) ∧ 47 + 1 = 48 := by decide +kernel
theorem e_X2_oath_48 : decode cX2_oath 48 = .ok (.getfield 23, 3) ∧ 48 + 3 = 51 := by decide +kernel
theorem e_X2_oath_51 : decode cX2_oath 51 = .ok (.getfield 109, 3) ∧ 51 + 3 = 54 := by decide +kernel
theorem e_X2_oath_54 : decode cX2_oath 54 = .ok (.iload_n 2, 1) ∧ 54 + 1 = 55 := by decide +kernel
theorem e_X2_oath_55 : decode cX2_oath 55 = .ok (.invokestatic 102, 3) ∧ 55 + 3 = 58 := by decide +kernel
theorem e_X2_oath_58 : decode cX2_oath 58 = .ok (.istore_n 3, 1) ∧ 58 + 1 = 59 := by decide +kernel
theorem e_X2_oath_59 : decode cX2_oath 59 = .ok (.iload_n 3, 1) ∧ 59 + 1 = 60 := by decide +kernel
theorem e_X2_oath_60 : decode cX2_oath 60 = .ok (.bipush 9, 2) ∧ 60 + 2 = 62 := by decide +kernel
theorem e_X2_oath_62 : decode cX2_oath 62 = .ok (.if_icmp .lt 6, 3) ∧ 62 + 3 = 65 ∧ ((62 : Nat) : Int) + (6) = ((68 : Nat) : Int) := by decide +kernel
theorem e_X2_oath_65 : decode cX2_oath 65 = .ok (.bipush (-4), 2) ∧ 65 + 2 = 67 := by decide +kernel
theorem e_X2_oath_67 : decode cX2_oath 67 = .ok (.ireturn, 1) := by decide +kernel
theorem e_X2_oath_68 : decode cX2_oath 68 = .ok (.aload_n 0, 1) ∧ 68 + 1 = 69 := by decide +kernel
theorem e_X2_oath_69 : decode cX2_oath 69 = .ok (.invokevirtual 137, 3) ∧ 69 + 3 = 72 := by decide +kernel
theorem e_X2_oath_72 : decode cX2_oath 72 = .ok (.aload_n 0, 1) ∧ 72 + 1 = 73 := by decide +kernel
theorem e_X2_oath_73 : decode cX2_oath 73 = .ok (.getfield 23, 3) ∧ 73 + 3 = 76 := by decide +kernel
theorem e_X2_oath_76 : decode cX2_oath 76 = .ok (.getfield 109, 3) ∧ 76 + 3 = 79 := by decide +kernel
theorem e_X2_oath_79 : decode cX2_oath 79 = .ok (.iload_n 2, 1) ∧ 79 + 1 = 80 := by decide +kernel
theorem e_X2_oath_80 : decode cX2_oath 80 = .ok (.iload_n 3, 1) ∧ 80 + 1 = 81 := by decide +kernel
theorem e_X2_oath_81 : decode cX2_oath 81 = .ok (.iconst 1, 1) ∧ 81 + 1 = 82 := by decide +kernel
theorem e_X2_oath_82 : decode cX2_oath 82 = .ok (.iadd, 1) ∧ 82 + 1 = 83 := by decide +kernel
theorem e_X2_oath_83 : decode cX2_oath 83 = .ok (.invokestatic 50, 3) ∧ 83 + 3 = 86 := by decide +kernel
theorem e_X2_oath_86 : decode cX2_oath 86 = .ok (.iload_n 3, 1) ∧ 86 + 1 = 87 := by decide +kernel
theorem e_X2_oath_87 : decode cX2_oath 87 = .ok (.iconst 1, 1) ∧ 87 + 1 = 88 := by decide +kernel
theorem e_X2_oath_88 : decode cX2_oath 88 = .ok (.iadd, 1) ∧ 88 + 1 = 89 := by decide +kernel
theorem e_X2_oath_89 : decode cX2_oath 89 = .ok (.ireturn, 1) := by decide +kernel
theorem e_X2_doubt_0 : decode cX2_doubt 0 = .ok (.aload_n 0, 1) ∧ 0 + 1 = 1 := by decide +kernel
theorem e_X2_doubt_1 : decode cX2_doubt 1 = .ok (.getfield 23, 3) ∧ 1 + 3 = 4 := by decide +kernel
theorem e_X2_doubt_4 : decode cX2_doubt 4 = .ok (.iload_n 1, 1) ∧ 4 + 1 = 5 := by decide +kernel
theorem e_X2_doubt_5 : decode cX2_doubt 5 = .ok (.invokevirtual 122, 3) ∧ 5 + 3 = 8 := by decide +kernel
theorem e_X2_doubt_8 : decode cX2_doubt 8 = .ok (.ifCond .ne 5, 3) ∧ 8 + 3 = 11 ∧ ((8 : Nat) : Int) + (5) = ((13 : Nat) : Int) := by decide +kernel
theorem e_X2_doubt_11 : decode cX2_doubt 11 = .ok (.iconst (-1), 1) ∧ 11 + 1 = 12 := by decide +kernel
theorem e_X2_doubt_12 : decode cX2_doubt 12 = .ok (.ireturn, 1) := by decide +kernel
theorem e_X2_doubt_13 : decode cX2_doubt 13 = .ok (.aload_n 0, 1) ∧ 13 + 1 = 14 := by decide +kernel
theorem e_X2_doubt_14 : decode cX2_doubt 14 = .ok (.getfield 23, 3) ∧ 14 + 3 = 17 := by decide +kernel
theorem e_X2_doubt_17 : decode cX2_doubt 17 = .ok (.iload_n 1, 1) ∧ 17 + 1 = 18 := by decide +kernel
theorem e_X2_doubt_18 : decode cX2_doubt 18 = .ok (.invokevirtual 134, 3) ∧ 18 + 3 = 21 := by decide +kernel
theorem e_X2_doubt_21 : decode cX2_doubt 21 = .ok (.ifCond .ne 6, 3) ∧ 21 + 3 = 24 ∧ ((21 : Nat) : Int) + (6) = ((27 : Nat) : Int) := by decide +kernel
theorem e_X2_doubt_24 : decode cX2_doubt 24 = .ok (.bipush (-3), 2) ∧ 24 + 2 = 26 := by decide +kernel
theorem e_X2_doubt_26 : decode cX2_doubt 26 = .ok (.ireturn, 1) := by decide +kernel
theorem e_X2_doubt_27 : decode cX2_doubt 27 = .ok (.aload_n 0, 1) ∧ 27 + 1 = 28 := by decide +kernel
theorem e_X2_doubt_28 : decode cX2_doubt 28 = .ok (.invokevirtual 137, 3) ∧ 28 + 3 = 31 := by decide +kernel
theorem e_X2_doubt_31 : decode cX2_doubt 31 = .ok (.aload_n 0, 1) ∧ 31 + 1 = 32 := by decide +kernel
theorem e_X2_doubt_32 : decode cX2_doubt 32 = .ok (.getfield 23, 3) ∧ 32 + 3 = 35 := by decide +kernel
theorem e_X2_doubt_35 : decode cX2_doubt 35 = .ok (.iload_n 1, 1) ∧ 35 + 1 = 36 := by decide +kernel
theorem e_X2_doubt_36 : decode cX2_doubt 36 = .ok (.invokevirtual 125, 3) ∧ 36 + 3 = 39 := by decide +kernel
theorem e_X2_doubt_39 : decode cX2_doubt 39 = .ok (.istore_n 2, 1) ∧ 39 + 1 = 40 := by decide +kernel
theorem e_X2_doubt_40 : decode cX2_doubt 40 = .ok (.iconst 0, 1) ∧ 40 + 1 = 41 := by decide +kernel
theorem e_X2_doubt_41 : decode cX2_doubt 41 = .ok (.aload_n 0, 1) ∧ 41 + 1 = 42 := by decide +kernel
theorem e_X2_doubt_42 : decode cX2_doubt 42 = .ok (.getfield 23, 3) ∧ 42 + 3 = 45 := by decide +kernel
theorem e_X2_doubt_45 : decode cX2_doubt 45 = .ok (.getfield 106, 3) ∧ 45 + 3 = 48 := by decide +kernel
theorem e_X2_doubt_48 : decode cX2_doubt 48 = .ok (.iload_n 2, 1) ∧ 48 + 1 = 49 := by decide +kernel
theorem e_X2_doubt_49 : decode cX2_doubt 49 = .ok (.invokestatic 102, 3) ∧ 49 + 3 = 52 := by decide +kernel
theorem e_X2_doubt_52 : decode cX2_doubt 52 = .ok (.iconst 1, 1) ∧ 52 + 1 = 53 := by decide +kernel
theorem e_X2_doubt_53 : decode cX2_doubt 53 = .ok (.isub, 1) ∧ 53 + 1 = 54 := by decide +kernel
theorem e_X2_doubt_54 : decode cX2_doubt 54 = .ok (.invokestatic 143, 3) ∧ 54 + 3 = 57 := by decide +kernel
theorem e_X2_doubt_57 : decode cX2_doubt 57 = .ok (.istore_n 3, 1) ∧ 57 + 1 = 58 := by decide +kernel
theorem e_X2_doubt_58 : decode cX2_doubt 58 = .ok (.aload_n 0, 1) ∧ 58 + 1 = 59 := by decide +kernel
theorem e_X2_doubt_59 : decode cX2_doubt 59 = .ok (.getfield 23, 3) ∧ 59 + 3 = 62 := by decide +kernel
theorem e_X2_doubt_62 : decode cX2_doubt 62 = .ok (.getfield 106, 3) ∧ 62 + 3 = 65 := by decide +kernel
theorem e_X2_doubt_65 : decode cX2_doubt 65 = .ok (.iload_n 2, 1) ∧ 65 + 1 = 66 := by decide +kernel
theorem e_X2_doubt_66 : decode cX2_doubt 66 = .ok (.iload_n 3, 1) ∧ 66 + 1 = 67 := by decide +kernel
theorem e_X2_doubt_67 : decode cX2_doubt 67 = .ok (.invokestatic 50, 3) ∧ 67 + 3 = 70 := by decide +kernel
theorem e_X2_doubt_70 : decode cX2_doubt 70 = .ok (.iload_n 3, 1) ∧ 70 + 1 = 71 := by decide +kernel
theorem e_X2_doubt_71 : decode cX2_doubt 71 = .ok (.ireturn, 1) := by decide +kernel
theorem e_X2_walk_0 : decode cX2_walk 0 = .ok (.aload_n 0, 1) ∧ 0 + 1 = 1 := by decide +kernel
theorem e_X2_walk_1 : decode cX2_walk 1 = .ok (.getfield 23, 3) ∧ 1 + 3 = 4 := by decide +kernel
theorem e_X2_walk_4 : decode cX2_walk 4 = .ok (.iload_n 1, 1) ∧ 4 + 1 = 5 := by decide +kernel
theorem e_X2_walk_5 : decode cX2_walk 5 = .ok (.invokevirtual 122, 3) ∧ 5 + 3 = 8 := by decide +kernel
theorem e_X2_walk_8 : decode cX2_walk 8 = .ok (.ifCond .eq 10, 3) ∧ 8 + 3 = 11 ∧ ((8 : Nat) : Int) + (10) = ((18 : Nat) : Int) := by decide +kernel
theorem e_X2_walk_11 : decode cX2_walk 11 = .ok (.iload_n 2, 1) ∧ 11 + 1 = 12 := by decide +kernel
theorem e_X2_walk_12 : decode cX2_walk 12 = .ok (.invokestatic 95, 3) ∧ 12 + 3 = 15 := by decide +kernel
theorem e_X2_walk_15 : decode cX2_walk 15 = .ok (.ifCond .ne 5, 3) ∧ 15 + 3 = 18 ∧ ((15 : Nat) : Int) + (5) = ((20 : Nat) : Int) := by decide +kernel
theorem e_X2_walk_18 : decode cX2_walk 18 = .ok (.iconst (-1), 1) ∧ 18 + 1 = 19 := by decide +kernel
theorem e_X2_walk_19 : decode cX2_walk 19 = .ok (.ireturn, 1) := by decide +kernel
theorem e_X2_walk_20 : decode cX2_walk 20 = .ok (.aload_n 0, 1) ∧ 20 + 1 = 21 := by decide +kernel
theorem e_X2_walk_21 : decode cX2_walk 21 = .ok (.getfield 23, 3) ∧ 21 + 3 = 24 := by decide +kernel
theorem e_X2_walk_24 : decode cX2_walk 24 = .ok (.iload_n 1, 1) ∧ 24 + 1 = 25 := by decide +kernel
theorem e_X2_walk_25 : decode cX2_walk 25 = .ok (.invokevirtual 134, 3) ∧ 25 + 3 = 28 := by decide +kernel
theorem e_X2_walk_28 : decode cX2_walk 28 = .ok (.ifCond .eq 24, 3) ∧ 28 + 3 = 31 ∧ ((28 : Nat) : Int) + (24) = ((52 : Nat) : Int) := by decide +kernel
theorem e_X2_walk_31 : decode cX2_walk 31 = .ok (.getstatic 149, 3) ∧ 31 + 3 = 34 := by decide +kernel
theorem e_X2_walk_34 : decode cX2_walk 34 = .ok (.aload_n 0, 1) ∧ 34 + 1 = 35 := by decide +kernel
theorem e_X2_walk_35 : decode cX2_walk 35 = .ok (.getfield 23, 3) ∧ 35 + 3 = 38 := by decide +kernel
theorem e_X2_walk_38 : decode cX2_walk 38 = .ok (.iload_n 1, 1) ∧ 38 + 1 = 39 := by decide +kernel
theorem e_X2_walk_39 : decode cX2_walk 39 = .ok (.invokevirtual 125, 3) ∧ 39 + 3 = 42 := by decide +kernel
theorem e_X2_walk_42 : decode cX2_walk 42 = .ok (.invokestatic 102, 3) ∧ 42 + 3 = 45 := by decide +kernel
theorem e_X2_walk_45 : decode cX2_walk 45 = .ok (.iload_n 2, 1) ∧ 45 + 1 = 46 := by decide +kernel
theorem e_X2_walk_46 : decode cX2_walk 46 = .ok (.invokestatic 152, 3) ∧ 46 + 3 = 49 := by decide +kernel
theorem e_X2_walk_49 : decode cX2_walk 49 = .ok (.ifCond .ne 6, 3) ∧ 49 + 3 = 52 ∧ ((49 : Nat) : Int) + (6) = ((55 : Nat) : Int) := by decide +kernel
theorem e_X2_walk_52 : decode cX2_walk 52 = .ok (.bipush (-3), 2) ∧ 52 + 2 = 54 := by decide +kernel
theorem e_X2_walk_54 : decode cX2_walk 54 = .ok (.ireturn, 1) := by decide +kernel
theorem e_X2_walk_55 : decode cX2_walk 55 = .ok (.aload_n 0, 1) ∧ 55 + 1 = 56 := by decide +kernel
theorem e_X2_walk_56 : decode cX2_walk 56 = .ok (.invokevirtual 137, 3) ∧ 56 + 3 = 59 := by decide +kernel
theorem e_X2_walk_59 : decode cX2_walk 59 = .ok (.aload_n 0, 1) ∧ 59 + 1 = 60 := by decide +kernel
theorem e_X2_walk_60 : decode cX2_walk 60 = .ok (.getfield 23, 3) ∧ 60 + 3 = 63 := by decide +kernel
theorem e_X2_walk_63 : decode cX2_walk 63 = .ok (.getfield 156, 3) ∧ 63 + 3 = 66 := by decide +kernel
theorem e_X2_walk_66 : decode cX2_walk 66 = .ok (.iload_n 1, 1) ∧ 66 + 1 = 67 := by decide +kernel
theorem e_X2_walk_67 : decode cX2_walk 67 = .ok (.iload_n 2, 1) ∧ 67 + 1 = 68 := by decide +kernel
theorem e_X2_walk_68 : decode cX2_walk 68 = .ok (.invokestatic 50, 3) ∧ 68 + 3 = 71 := by decide +kernel
theorem e_X2_walk_71 : decode cX2_walk 71 = .ok (.aload_n 0, 1) ∧ 71 + 1 = 72 := by decide +kernel
theorem e_X2_walk_72 : decode cX2_walk 72 = .ok (.getfield 23, 3) ∧ 72 + 3 = 75 := by decide +kernel
theorem e_X2_walk_75 : decode cX2_walk 75 = .ok (.iconst 1, 1) ∧ 75 + 1 = 76 := by decide +kernel
theorem e_X2_walk_76 : decode cX2_walk 76 = .ok (.iload_n 2, 1) ∧ 76 + 1 = 77 := by decide +kernel
theorem e_X2_walk_77 : decode cX2_walk 77 = .ok (.ishl, 1) ∧ 77 + 1 = 78 := by decide +kernel
theorem e_X2_walk_78 : decode cX2_walk 78 = .ok (.invokevirtual 118, 3) ∧ 78 + 3 = 81 := by decide +kernel
theorem e_X2_walk_81 : decode cX2_walk 81 = .ok (.aload_n 0, 1) ∧ 81 + 1 = 82 := by decide +kernel
theorem e_X2_walk_82 : decode cX2_walk 82 = .ok (.getfield 23, 3) ∧ 82 + 3 = 85 := by decide +kernel
theorem e_X2_walk_85 : decode cX2_walk 85 = .ok (.invokevirtual 159, 3) ∧ 85 + 3 = 88 := by decide +kernel
theorem e_X2_walk_88 : decode cX2_walk 88 = .ok (.iand, 1) ∧ 88 + 1 = 89 := by decide +kernel
theorem e_X2_walk_89 : decode cX2_walk 89 = .ok (.iconst 1, 1) ∧ 89 + 1 = 90 := by decide +kernel
theorem e_X2_walk_90 : decode cX2_walk 90 = .ok (.iload_n 1, 1) ∧ 90 + 1 = 91 := by decide +kernel
theorem e_X2_walk_91 : decode cX2_walk 91 = .ok (.ishl, 1) ∧ 91 + 1 = 92 := by decide +kernel
theorem e_X2_walk_92 : decode cX2_walk 92 = .ok (.iconst (-1), 1) ∧ 92 + 1 = 93 := by decide +kernel
theorem e_X2_walk_93 : decode cX2_walk 93 = .ok (.ixor, 1) ∧ 93 + 1 = 94 := by decide +kernel
theorem e_X2_walk_94 : decode cX2_walk 94 = .ok (.iand, 1) ∧ 94 + 1 = 95 := by decide +kernel
theorem e_X2_walk_95 : decode cX2_walk 95 = .ok (.ireturn, 1) := by decide +kernel
theorem e_X2_day_0 : decode cX2_day 0 = .ok (.aload_n 0, 1) ∧ 0 + 1 = 1 := by decide +kernel
theorem e_X2_day_1 : decode cX2_day 1 = .ok (.invokevirtual 137, 3) ∧ 1 + 3 = 4 := by decide +kernel
theorem e_X2_day_4 : decode cX2_day 4 = .ok (.aload_n 0, 1) ∧ 4 + 1 = 5 := by decide +kernel
theorem e_X2_day_5 : decode cX2_day 5 = .ok (.getfield 23, 3) ∧ 5 + 3 = 8 := by decide +kernel
theorem e_X2_day_8 : decode cX2_day 8 = .ok (.invokevirtual 162, 3) ∧ 8 + 3 = 11 := by decide +kernel
theorem e_X2_day_11 : decode cX2_day 11 = .ok (.ireturn, 1) := by decide +kernel
theorem e_X2_undo_0 : decode cX2_undo 0 = .ok (.aload_n 0, 1) ∧ 0 + 1 = 1 := by decide +kernel
theorem e_X2_undo_1 : decode cX2_undo 1 = .ok (.getfield 65, 3) ∧ 1 + 3 = 4 := by decide +kernel
theorem e_X2_undo_4 : decode cX2_undo 4 = .ok (.iconst 1, 1) ∧ 4 + 1 = 5 := by decide +kernel
theorem e_X2_undo_5 : decode cX2_undo 5 = .ok (.if_icmp .lt 15, 3) ∧ 5 + 3 = 8 ∧ ((5 : Nat) : Int) + (15) = ((20 : Nat) : Int) := by decide +kernel
theorem e_X2_undo_8 : decode cX2_undo 8 = .ok (.aload_n 0, 1) ∧ 8 + 1 = 9 := by decide +kernel
theorem e_X2_undo_9 : decode cX2_undo 9 = .ok (.getfield 65, 3) ∧ 9 + 3 = 12 := by decide +kernel
theorem e_X2_undo_12 : decode cX2_undo 12 = .ok (.aload_n 0, 1) ∧ 12 + 1 = 13 := by decide +kernel
theorem e_X2_undo_13 : decode cX2_undo 13 = .ok (.getfield 33, 3) ∧ 13 + 3 = 16 := by decide +kernel
theorem e_X2_undo_16 : decode cX2_undo 16 = .ok (.arraylength, 1) ∧ 16 + 1 = 17 := by decide +kernel
theorem e_X2_undo_17 : decode cX2_undo 17 = .ok (.if_icmp .le 6, 3) ∧ 17 + 3 = 20 ∧ ((17 : Nat) : Int) + (6) = ((23 : Nat) : Int) := by decide +kernel
theorem e_X2_undo_20 : decode cX2_undo 20 = .ok (.bipush (-3), 2) ∧ 20 + 2 = 22 := by decide +kernel
theorem e_X2_undo_22 : decode cX2_undo 22 = .ok (.ireturn, 1) := by decide +kernel
theorem e_X2_undo_23 : decode cX2_undo 23 = .ok (.aload_n 0, 1) ∧ 23 + 1 = 24 := by decide +kernel
theorem e_X2_undo_24 : decode cX2_undo 24 = .ok (.dup, 1) ∧ 24 + 1 = 25 := by decide +kernel
theorem e_X2_undo_25 : decode cX2_undo 25 = .ok (.getfield 65, 3) ∧ 25 + 3 = 28 := by decide +kernel
theorem e_X2_undo_28 : decode cX2_undo 28 = .ok (.iconst 1, 1) ∧ 28 + 1 = 29 := by decide +kernel
theorem e_X2_undo_29 : decode cX2_undo 29 = .ok (.isub, 1) ∧ 29 + 1 = 30 := by decide +kernel
theorem e_X2_undo_30 : decode cX2_undo 30 = .ok (.putfield 65, 3) ∧ 30 + 3 = 33 := by decide +kernel
theorem e_X2_undo_33 : decode cX2_undo 33 = .ok (.aload_n 0, 1) ∧ 33 + 1 = 34 := by decide +kernel
theorem e_X2_undo_34 : decode cX2_undo 34 = .ok (.getfield 23, 3) ∧ 34 + 3 = 37 := by decide +kernel
theorem e_X2_undo_37 : decode cX2_undo 37 = .ok (.aload_n 0, 1) ∧ 37 + 1 = 38 := by decide +kernel
theorem e_X2_undo_38 : decode cX2_undo 38 = .ok (.getfield 33, 3) ∧ 38 + 3 = 41 := by decide +kernel
theorem e_X2_undo_41 : decode cX2_undo 41 = .ok (.aload_n 0, 1) ∧ 41 + 1 = 42 := by decide +kernel
theorem e_X2_undo_42 : decode cX2_undo 42 = .ok (.getfield 65, 3) ∧ 42 + 3 = 45 := by decide +kernel
theorem e_X2_undo_45 : decode cX2_undo 45 = .ok (.aaload, 1) ∧ 45 + 1 = 46 := by decide +kernel
theorem e_X2_undo_46 : decode cX2_undo 46 = .ok (.invokevirtual 61, 3) ∧ 46 + 3 = 49 := by decide +kernel
theorem e_X2_undo_49 : decode cX2_undo 49 = .ok (.aload_n 0, 1) ∧ 49 + 1 = 50 := by decide +kernel
theorem e_X2_undo_50 : decode cX2_undo 50 = .ok (.getfield 65, 3) ∧ 50 + 3 = 53 := by decide +kernel
theorem e_X2_undo_53 : decode cX2_undo 53 = .ok (.ireturn, 1) := by decide +kernel
theorem e_X2_falls_0 : decode cX2_falls 0 = .ok (.aload_n 0, 1) ∧ 0 + 1 = 1 := by decide +kernel
theorem e_X2_falls_1 : decode cX2_falls 1 = .ok (.getfield 23, 3) ∧ 1 + 3 = 4 := by decide +kernel
theorem e_X2_falls_4 : decode cX2_falls 4 = .ok (.iload_n 1, 1) ∧ 4 + 1 = 5 := by decide +kernel
theorem e_X2_falls_5 : decode cX2_falls 5 = .ok (.invokevirtual 122, 3) ∧ 5 + 3 = 8 := by decide +kernel
theorem e_X2_falls_8 : decode cX2_falls 8 = .ok (.ifCond .ne 5, 3) ∧ 8 + 3 = 11 ∧ ((8 : Nat) : Int) + (5) = ((13 : Nat) : Int) := by decide +kernel
theorem e_X2_falls_11 : decode cX2_falls 11 = .ok (.iconst (-1), 1) ∧ 11 + 1 = 12 := by decide +kernel
theorem e_X2_falls_12 : decode cX2_falls 12 = .ok (.ireturn, 1) := by decide +kernel
theorem e_X2_falls_13 : decode cX2_falls 13 = .ok (.aload_n 0, 1) ∧ 13 + 1 = 14 := by decide +kernel
theorem e_X2_falls_14 : decode cX2_falls 14 = .ok (.getfield 23, 3) ∧ 14 + 3 = 17 := by decide +kernel
theorem e_X2_falls_17 : decode cX2_falls 17 = .ok (.iload_n 1, 1) ∧ 17 + 1 = 18 := by decide +kernel
theorem e_X2_falls_18 : decode cX2_falls 18 = .ok (.invokevirtual 134, 3) ∧ 18 + 3 = 21 := by decide +kernel
theorem e_X2_falls_21 : decode cX2_falls 21 = .ok (.ifCond .ne 6, 3) ∧ 21 + 3 = 24 ∧ ((21 : Nat) : Int) + (6) = ((27 : Nat) : Int) := by decide +kernel
theorem e_X2_falls_24 : decode cX2_falls 24 = .ok (.bipush (-3), 2) ∧ 24 + 2 = 26 := by decide +kernel
theorem e_X2_falls_26 : decode cX2_falls 26 = .ok (.ireturn, 1) := by decide +kernel
theorem e_X2_falls_27 : decode cX2_falls 27 = .ok (.aload_n 0, 1) ∧ 27 + 1 = 28 := by decide +kernel
theorem e_X2_falls_28 : decode cX2_falls 28 = .ok (.getfield 27, 3) ∧ 28 + 3 = 31 := by decide +kernel
theorem e_X2_falls_31 : decode cX2_falls 31 = .ok (.aload_n 0, 1) ∧ 31 + 1 = 32 := by decide +kernel
theorem e_X2_falls_32 : decode cX2_falls 32 = .ok (.getfield 23, 3) ∧ 32 + 3 = 35 := by decide +kernel
theorem e_X2_falls_35 : decode cX2_falls 35 = .ok (.invokevirtual 61, 3) ∧ 35 + 3 = 38 := by decide +kernel
theorem e_X2_falls_38 : decode cX2_falls 38 = .ok (.aload_n 0, 1) ∧ 38 + 1 = 39 := by decide +kernel
theorem e_X2_falls_39 : decode cX2_falls 39 = .ok (.getfield 27, 3) ∧ 39 + 3 = 42 := by decide +kernel
theorem e_X2_falls_42 : decode cX2_falls 42 = .ok (.iload_n 1, 1) ∧ 42 + 1 = 43 := by decide +kernel
theorem e_X2_falls_43 : decode cX2_falls 43 = .ok (.invokevirtual 140, 3) ∧ 43 + 3 = 46 := by decide +kernel
theorem e_X2_falls_46 : decode cX2_falls 46 = .ok (.ireturn, 1) := by decide +kernel
theorem e_X2_psalm_0 : decode cX2_psalm 0 = .ok (.iload_n 1, 1) ∧ 0 + 1 = 1 := by decide +kernel
theorem e_X2_psalm_1 : decode cX2_psalm 1 = .ok (.iconst 1, 1) ∧ 1 + 1 = 2 := by decide +kernel
theorem e_X2_psalm_2 : decode cX2_psalm 2 = .ok (.if_icmp .lt 13, 3) ∧ 2 + 3 = 5 ∧ ((2 : Nat) : Int) + (13) = ((15 : Nat) : Int) := by decide +kernel
theorem e_X2_psalm_5 : decode cX2_psalm 5 = .ok (.iload_n 1, 1) ∧ 5 + 1 = 6 := by decide +kernel
theorem e_X2_psalm_6 : decode cX2_psalm 6 = .ok (.bipush 8, 2) ∧ 6 + 2 = 8 := by decide +kernel
theorem e_X2_psalm_8 : decode cX2_psalm 8 = .ok (.if_icmp .gt 7, 3) ∧ 8 + 3 = 11 ∧ ((8 : Nat) : Int) + (7) = ((15 : Nat) : Int) := by decide +kernel
theorem e_X2_psalm_11 : decode cX2_psalm 11 = .ok (.iload_n 2, 1) ∧ 11 + 1 = 12 := by decide +kernel
theorem e_X2_psalm_12 : decode cX2_psalm 12 = .ok (.ifCond .ge 6, 3) ∧ 12 + 3 = 15 ∧ ((12 : Nat) : Int) + (6) = ((18 : Nat) : Int) := by decide +kernel
theorem e_X2_psalm_15 : decode cX2_psalm 15 = .ok (.bipush (-2), 2) ∧ 15 + 2 = 17 := by decide +kernel
theorem e_X2_psalm_17 : decode cX2_psalm 17 = .ok (.ireturn, 1) := by decide +kernel
theorem e_X2_psalm_18 : decode cX2_psalm 18 = .ok (.iload_n 2, 1) ∧ 18 + 1 = 19 := by decide +kernel
theorem e_X2_psalm_19 : decode cX2_psalm 19 = .ok (.istore_n 3, 1) ∧ 19 + 1 = 20 := by decide +kernel
theorem e_X2_psalm_20 : decode cX2_psalm 20 = .ok (.iload_n 1, 1) ∧ 20 + 1 = 21 := by decide +kernel
theorem e_X2_psalm_21 : decode cX2_psalm 21 = .ok (.iconst 1, 1) ∧ 21 + 1 = 22 := by decide +kernel
theorem e_X2_psalm_22 : decode cX2_psalm 22 = .ok (.isub, 1) ∧ 22 + 1 = 23 := by decide +kernel
theorem e_X2_psalm_23 : decode cX2_psalm 23 = .ok (.istore 4, 2) ∧ 23 + 2 = 25 := by decide +kernel
theorem e_X2_psalm_25 : decode cX2_psalm 25 = .ok (.iload 4, 2) ∧ 25 + 2 = 27 := by decide +kernel
theorem e_X2_psalm_27 : decode cX2_psalm 27 = .ok (.ifCond .lt 27, 3) ∧ 27 + 3 = 30 ∧ ((27 : Nat) : Int) + (27) = ((54 : Nat) : Int) := by decide +kernel
theorem e_X2_psalm_30 : decode cX2_psalm 30 = .ok (.aload_n 0, 1) ∧ 30 + 1 = 31 := by decide +kernel
theorem e_X2_psalm_31 : decode cX2_psalm 31 = .ok (.getfield 30, 3) ∧ 31 + 3 = 34 := by decide +kernel
theorem e_X2_psalm_34 : decode cX2_psalm 34 = .ok (.iload 4, 2) ∧ 34 + 2 = 36 := by decide +kernel
theorem e_X2_psalm_36 : decode cX2_psalm 36 = .ok (.iload_n 3, 1) ∧ 36 + 1 = 37 := by decide +kernel
theorem e_X2_psalm_37 : decode cX2_psalm 37 = .ok (.bipush 10, 2) ∧ 37 + 2 = 39 := by decide +kernel
theorem e_X2_psalm_39 : decode cX2_psalm 39 = .ok (.irem, 1) ∧ 39 + 1 = 40 := by decide +kernel
theorem e_X2_psalm_40 : decode cX2_psalm 40 = .ok (.invokestatic 50, 3) ∧ 40 + 3 = 43 := by decide +kernel
theorem e_X2_psalm_43 : decode cX2_psalm 43 = .ok (.iload_n 3, 1) ∧ 43 + 1 = 44 := by decide +kernel
theorem e_X2_psalm_44 : decode cX2_psalm 44 = .ok (.bipush 10, 2) ∧ 44 + 2 = 46 := by decide +kernel
theorem e_X2_psalm_46 : decode cX2_psalm 46 = .ok (.idiv, 1) ∧ 46 + 1 = 47 := by decide +kernel
theorem e_X2_psalm_47 : decode cX2_psalm 47 = .ok (.istore_n 3, 1) ∧ 47 + 1 = 48 := by decide +kernel
theorem e_X2_psalm_48 : decode cX2_psalm 48 = .ok (.iinc 4 (-1), 3) ∧ 48 + 3 = 51 := by decide +kernel
theorem e_X2_psalm_51 : decode cX2_psalm 51 = .ok (.goto (-26), 3) ∧ 51 + 3 = 54 ∧ ((51 : Nat) : Int) + (-26) = ((25 : Nat) : Int) := by decide +kernel
theorem e_X2_psalm_54 : decode cX2_psalm 54 = .ok (.iload_n 3, 1) ∧ 54 + 1 = 55 := by decide +kernel
theorem e_X2_psalm_55 : decode cX2_psalm 55 = .ok (.ifCond .eq 8, 3) ∧ 55 + 3 = 58 ∧ ((55 : Nat) : Int) + (8) = ((63 : Nat) : Int) := by decide +kernel
theorem e_X2_psalm_58 : decode cX2_psalm 58 = .ok (.bipush (-2), 2) ∧ 58 + 2 = 60 := by decide +kernel
theorem e_X2_psalm_60 : decode cX2_psalm 60 = .ok (.goto 8, 3) ∧ 60 + 3 = 63 ∧ ((60 : Nat) : Int) + (8) = ((68 : Nat) : Int) := by decide +kernel
theorem e_X2_psalm_63 : decode cX2_psalm 63 = .ok (.aload_n 0, 1) ∧ 63 + 1 = 64 := by decide +kernel
theorem e_X2_psalm_64 : decode cX2_psalm 64 = .ok (.iload_n 1, 1) ∧ 64 + 1 = 65 := by decide +kernel
theorem e_X2_psalm_65 : decode cX2_psalm 65 = .ok (.invokevirtual 165, 3) ∧ 65 + 3 = 68 := by decide +kernel
theorem e_X2_psalm_68 : decode cX2_psalm 68 = .ok (.ireturn, 1) := by decide +kernel
theorem e_X2_best_0 : decode cX2_best 0 = .ok (.iload_n 1, 1) ∧ 0 + 1 = 1 := by decide +kernel
theorem e_X2_best_1 : decode cX2_best 1 = .ok (.iconst 1, 1) ∧ 1 + 1 = 2 := by decide +kernel
theorem e_X2_best_2 : decode cX2_best 2 = .ok (.if_icmp .lt 8, 3) ∧ 2 + 3 = 5 ∧ ((2 : Nat) : Int) + (8) = ((10 : Nat) : Int) := by decide +kernel
theorem e_X2_best_5 : decode cX2_best 5 = .ok (.iload_n 1, 1) ∧ 5 + 1 = 6 := by decide +kernel
theorem e_X2_best_6 : decode cX2_best 6 = .ok (.iconst 3, 1) ∧ 6 + 1 = 7 := by decide +kernel
theorem e_X2_best_7 : decode cX2_best 7 = .ok (.if_icmp .le 6, 3) ∧ 7 + 3 = 10 ∧ ((7 : Nat) : Int) + (6) = ((13 : Nat) : Int) := by decide +kernel
theorem e_X2_best_10 : decode cX2_best 10 = .ok (.bipush (-2), 2) ∧ 10 + 2 = 12 := by decide +kernel
theorem e_X2_best_12 : decode cX2_best 12 = .ok (.ireturn, 1) := by decide +kernel
theorem e_X2_best_13 : decode cX2_best 13 = .ok (.aload_n 0, 1) ∧ 13 + 1 = 14 := by decide +kernel
theorem e_X2_best_14 : decode cX2_best 14 = .ok (.iload_n 1, 1) ∧ 14 + 1 = 15 := by decide +kernel
theorem e_X2_best_15 : decode cX2_best 15 = .ok (.invokevirtual 168, 3) ∧ 15 + 3 = 18 := by decide +kernel
theorem e_X2_best_18 : decode cX2_best 18 = .ok (.istore_n 2, 1) ∧ 18 + 1 = 19 := by decide +kernel
theorem e_X2_best_19 : decode cX2_best 19 = .ok (.iload_n 2, 1) ∧ 19 + 1 = 20 := by decide +kernel
theorem e_X2_best_20 : decode cX2_best 20 = .ok (.bipush (-9), 2) ∧ 20 + 2 = 22 := by decide +kernel
theorem e_X2_best_22 : decode cX2_best 22 = .ok (.if_icmp .ne 6, 3) ∧ 22 + 3 = 25 ∧ ((22 : Nat) : Int) + (6) = ((28 : Nat) : Int) := by decide +kernel
theorem e_X2_best_25 : decode cX2_best 25 = .ok (.bipush (-9), 2) ∧ 25 + 2 = 27 := by decide +kernel
theorem e_X2_best_27 : decode cX2_best 27 = .ok (.ireturn, 1) := by decide +kernel
theorem e_X2_best_28 : decode cX2_best 28 = .ok (.aload_n 0, 1) ∧ 28 + 1 = 29 := by decide +kernel
theorem e_X2_best_29 : decode cX2_best 29 = .ok (.iload_n 1, 1) ∧ 29 + 1 = 30 := by decide +kernel
theorem e_X2_best_30 : decode cX2_best 30 = .ok (.iload_n 2, 1) ∧ 30 + 1 = 31 := by decide +kernel
theorem e_X2_best_31 : decode cX2_best 31 = .ok (.invokevirtual 171, 3) ∧ 31 + 3 = 34 := by decide +kernel
theorem e_X2_best_34 : decode cX2_best 34 = .ok (.aload_n 0, 1) ∧ 34 + 1 = 35 := by decide +kernel
theorem e_X2_best_35 : decode cX2_best 35 = .ok (.iload_n 1, 1) ∧ 35 + 1 = 36 := by decide +kernel
theorem e_X2_best_36 : decode cX2_best 36 = .ok (.invokevirtual 165, 3) ∧ 36 + 3 = 39 := by decide +kernel
theorem e_X2_best_39 : decode cX2_best 39 = .ok (.pop, 1) ∧ 39 + 1 = 40 := by decide +kernel
theorem e_X2_best_40 : decode cX2_best 40 = .ok (.aload_n 0, 1) ∧ 40 + 1 = 41 := by decide +kernel
theorem e_X2_best_41 : decode cX2_best 41 = .ok (.getfield 27, 3) ∧ 41 + 3 = 44 := by decide +kernel
theorem e_X2_best_44 : decode cX2_best 44 = .ok (.getfield 80, 3) ∧ 44 + 3 = 47 := by decide +kernel
theorem e_X2_best_47 : decode cX2_best 47 = .ok (.aload_n 0, 1) ∧ 47 + 1 = 48 := by decide +kernel
theorem e_X2_best_48 : decode cX2_best 48 = .ok (.getfield 23, 3) ∧ 48 + 3 = 51 := by decide +kernel
theorem e_X2_best_51 : decode cX2_best 51 = .ok (.getfield 80, 3) ∧ 51 + 3 = 54 := by decide +kernel
theorem e_X2_best_54 : decode cX2_best 54 = .ok (.isub, 1) ∧ 54 + 1 = 55 := by decide +kernel
theorem e_X2_best_55 : decode cX2_best 55 = .ok (.ireturn, 1) := by decide +kernel
theorem e_X2_bestAt_0 : decode cX2_bestAt 0 = .ok (.iload_n 1, 1) ∧ 0 + 1 = 1 := by decide +kernel
theorem e_X2_bestAt_1 : decode cX2_bestAt 1 = .ok (.iconst 1, 1) ∧ 1 + 1 = 2 := by decide +kernel
theorem e_X2_bestAt_2 : decode cX2_bestAt 2 = .ok (.if_icmp .lt 8, 3) ∧ 2 + 3 = 5 ∧ ((2 : Nat) : Int) + (8) = ((10 : Nat) : Int) := by decide +kernel
theorem e_X2_bestAt_5 : decode cX2_bestAt 5 = .ok (.iload_n 1, 1) ∧ 5 + 1 = 6 := by decide +kernel
theorem e_X2_bestAt_6 : decode cX2_bestAt 6 = .ok (.iconst 3, 1) ∧ 6 + 1 = 7 := by decide +kernel
theorem e_X2_bestAt_7 : decode cX2_bestAt 7 = .ok (.if_icmp .le 6, 3) ∧ 7 + 3 = 10 ∧ ((7 : Nat) : Int) + (6) = ((13 : Nat) : Int) := by decide +kernel
theorem e_X2_bestAt_10 : decode cX2_bestAt 10 = .ok (.bipush (-2), 2) ∧ 10 + 2 = 12 := by decide +kernel
theorem e_X2_bestAt_12 : decode cX2_bestAt 12 = .ok (.ireturn, 1) := by decide +kernel
theorem e_X2_bestAt_13 : decode cX2_bestAt 13 = .ok (.iload_n 2, 1) ∧ 13 + 1 = 14 := by decide +kernel
theorem e_X2_bestAt_14 : decode cX2_bestAt 14 = .ok (.ifCond .lt 8, 3) ∧ 14 + 3 = 17 ∧ ((14 : Nat) : Int) + (8) = ((22 : Nat) : Int) := by decide +kernel
theorem e_X2_bestAt_17 : decode cX2_bestAt 17 = .ok (.iload_n 2, 1) ∧ 17 + 1 = 18 := by decide +kernel
theorem e_X2_bestAt_18 : decode cX2_bestAt 18 = .ok (.iload_n 1, 1) ∧ 18 + 1 = 19 := by decide +kernel
theorem e_X2_bestAt_19 : decode cX2_bestAt 19 = .ok (.if_icmp .lt 6, 3) ∧ 19 + 3 = 22 ∧ ((19 : Nat) : Int) + (6) = ((25 : Nat) : Int) := by decide +kernel
theorem e_X2_bestAt_22 : decode cX2_bestAt 22 = .ok (.bipush (-9), 2) ∧ 22 + 2 = 24 := by decide +kernel
theorem e_X2_bestAt_24 : decode cX2_bestAt 24 = .ok (.ireturn, 1) := by decide +kernel
theorem e_X2_bestAt_25 : decode cX2_bestAt 25 = .ok (.aload_n 0, 1) ∧ 25 + 1 = 26 := by decide +kernel
theorem e_X2_bestAt_26 : decode cX2_bestAt 26 = .ok (.iload_n 1, 1) ∧ 26 + 1 = 27 := by decide +kernel
theorem e_X2_bestAt_27 : decode cX2_bestAt 27 = .ok (.invokevirtual 168, 3) ∧ 27 + 3 = 30 := by decide +kernel
theorem e_X2_bestAt_30 : decode cX2_bestAt 30 = .ok (.istore_n 3, 1) ∧ 30 + 1 = 31 := by decide +kernel
theorem e_X2_bestAt_31 : decode cX2_bestAt 31 = .ok (.iload_n 3, 1) ∧ 31 + 1 = 32 := by decide +kernel
theorem e_X2_bestAt_32 : decode cX2_bestAt 32 = .ok (.bipush (-9), 2) ∧ 32 + 2 = 34 := by decide +kernel
theorem e_X2_bestAt_34 : decode cX2_bestAt 34 = .ok (.if_icmp .ne 8, 3) ∧ 34 + 3 = 37 ∧ ((34 : Nat) : Int) + (8) = ((42 : Nat) : Int) := by decide +kernel
theorem e_X2_bestAt_37 : decode cX2_bestAt 37 = .ok (.bipush (-9), 2) ∧ 37 + 2 = 39 := by decide +kernel
theorem e_X2_bestAt_39 : decode cX2_bestAt 39 = .ok (.goto 9, 3) ∧ 39 + 3 = 42 ∧ ((39 : Nat) : Int) + (9) = ((48 : Nat) : Int) := by decide +kernel
theorem e_X2_bestAt_42 : decode cX2_bestAt 42 = .ok (.iload_n 1, 1) ∧ 42 + 1 = 43 := by decide +kernel
theorem e_X2_bestAt_43 : decode cX2_bestAt 43 = .ok (.iload_n 3, 1) ∧ 43 + 1 = 44 := by decide +kernel
theorem e_X2_bestAt_44 : decode cX2_bestAt 44 = .ok (.iload_n 2, 1) ∧ 44 + 1 = 45 := by decide +kernel
theorem e_X2_bestAt_45 : decode cX2_bestAt 45 = .ok (.invokestatic 175, 3) ∧ 45 + 3 = 48 := by decide +kernel
theorem e_X2_bestAt_48 : decode cX2_bestAt 48 = .ok (.ireturn, 1) := by decide +kernel
theorem e_X2_oaths_0 : decode cX2_oaths 0 = .ok (.aload_n 0, 1) ∧ 0 + 1 = 1 := by decide +kernel
theorem e_X2_oaths_1 : decode cX2_oaths 1 = .ok (.getfield 23, 3) ∧ 1 + 3 = 4 := by decide +kernel
theorem e_X2_oaths_4 : decode cX2_oaths 4 = .ok (.invokevirtual 159, 3) ∧ 4 + 3 = 7 := by decide +kernel
theorem e_X2_oaths_7 : decode cX2_oaths 7 = .ok (.istore_n 1, 1) ∧ 7 + 1 = 8 := by decide +kernel
theorem e_X2_oaths_8 : decode cX2_oaths 8 = .ok (.iload_n 1, 1) ∧ 8 + 1 = 9 := by decide +kernel
theorem e_X2_oaths_9 : decode cX2_oaths 9 = .ok (.ifCond .ne 5, 3) ∧ 9 + 3 = 12 ∧ ((9 : Nat) : Int) + (5) = ((14 : Nat) : Int) := by decide +kernel
theorem e_X2_oaths_12 : decode cX2_oaths 12 = .ok (.iconst 0, 1) ∧ 12 + 1 = 13 := by decide +kernel
theorem e_X2_oaths_13 : decode cX2_oaths 13 = .ok (.ireturn, 1) := by decide +kernel
theorem e_X2_oaths_14 : decode cX2_oaths 14 = .ok (.aload_n 0, 1) ∧ 14 + 1 = 15 := by decide +kernel
theorem e_X2_oaths_15 : decode cX2_oaths 15 = .ok (.getfield 27, 3) ∧ 15 + 3 = 18 := by decide +kernel
theorem e_X2_oaths_18 : decode cX2_oaths 18 = .ok (.aload_n 0, 1) ∧ 18 + 1 = 19 := by decide +kernel
theorem e_X2_oaths_19 : decode cX2_oaths 19 = .ok (.getfield 23, 3) ∧ 19 + 3 = 22 := by decide +kernel
theorem e_X2_oaths_22 : decode cX2_oaths 22 = .ok (.invokevirtual 61, 3) ∧ 22 + 3 = 25 := by decide +kernel
theorem e_X2_oaths_25 : decode cX2_oaths 25 = .ok (.iconst 0, 1) ∧ 25 + 1 = 26 := by decide +kernel
theorem e_X2_oaths_26 : decode cX2_oaths 26 = .ok (.istore_n 2, 1) ∧ 26 + 1 = 27 := by decide +kernel
theorem e_X2_oaths_27 : decode cX2_oaths 27 = .ok (.iload_n 2, 1) ∧ 27 + 1 = 28 := by decide +kernel
theorem e_X2_oaths_28 : decode cX2_oaths 28 = .ok (.iconst 4, 1) ∧ 28 + 1 = 29 := by decide +kernel
theorem e_X2_oaths_29 : decode cX2_oaths 29 = .ok (.if_icmp .ge 25, 3) ∧ 29 + 3 = 32 ∧ ((29 : Nat) : Int) + (25) = ((54 : Nat) : Int) := by decide +kernel
theorem e_X2_oaths_32 : decode cX2_oaths 32 = .ok (.iload_n 1, 1) ∧ 32 + 1 = 33 := by decide +kernel
theorem e_X2_oaths_33 : decode cX2_oaths 33 = .ok (.iload_n 2, 1) ∧ 33 + 1 = 34 := by decide +kernel
theorem e_X2_oaths_34 : decode cX2_oaths 34 = .ok (.invokestatic 152, 3) ∧ 34 + 3 = 37 := by decide +kernel
theorem e_X2_oaths_37 : decode cX2_oaths 37 = .ok (.ifCond .eq 11, 3) ∧ 37 + 3 = 40 ∧ ((37 : Nat) : Int) + (11) = ((48 : Nat) : Int) := by decide +kernel
theorem e_X2_oaths_40 : decode cX2_oaths 40 = .ok (.aload_n 0, 1) ∧ 40 + 1 = 41 := by decide +kernel
theorem e_X2_oaths_41 : decode cX2_oaths 41 = .ok (.getfield 27, 3) ∧ 41 + 3 = 44 := by decide +kernel
theorem e_X2_oaths_44 : decode cX2_oaths 44 = .ok (.iload_n 2, 1) ∧ 44 + 1 = 45 := by decide +kernel
theorem e_X2_oaths_45 : decode cX2_oaths 45 = .ok (.invokevirtual 179, 3) ∧ 45 + 3 = 48 := by decide +kernel
theorem e_X2_oaths_48 : decode cX2_oaths 48 = .ok (.iinc 2 1, 3) ∧ 48 + 3 = 51 := by decide +kernel
theorem e_X2_oaths_51 : decode cX2_oaths 51 = .ok (.goto (-24), 3) ∧ 51 + 3 = 54 ∧ ((51 : Nat) : Int) + (-24) = ((27 : Nat) : Int) := by decide +kernel
theorem e_X2_oaths_54 : decode cX2_oaths 54 = .ok (.aload_n 0, 1) ∧ 54 + 1 = 55 := by decide +kernel
theorem e_X2_oaths_55 : decode cX2_oaths 55 = .ok (.getfield 27, 3) ∧ 55 + 3 = 58 := by decide +kernel
theorem e_X2_oaths_58 : decode cX2_oaths 58 = .ok (.invokevirtual 183, 3) ∧ 58 + 3 = 61 := by decide +kernel
theorem e_X2_oaths_61 : decode cX2_oaths 61 = .ok (.ireturn, 1) := by decide +kernel
theorem e_X2_down_0 : decode cX2_down 0 = .ok (.iload_n 1, 1) ∧ 0 + 1 = 1 := by decide +kernel
theorem e_X2_down_1 : decode cX2_down 1 = .ok (.invokestatic 95, 3) ∧ 1 + 3 = 4 := by decide +kernel
theorem e_X2_down_4 : decode cX2_down 4 = .ok (.ifCond .ne 5, 3) ∧ 4 + 3 = 7 ∧ ((4 : Nat) : Int) + (5) = ((9 : Nat) : Int) := by decide +kernel
theorem e_X2_down_7 : decode cX2_down 7 = .ok (.iconst (-1), 1) ∧ 7 + 1 = 8 := by decide +kernel
theorem e_X2_down_8 : decode cX2_down 8 = .ok (.ireturn, 1) := by decide +kernel
theorem e_X2_down_9 : decode cX2_down 9 = .ok (.aload_n 0, 1) ∧ 9 + 1 = 10 := by decide +kernel
theorem e_X2_down_10 : decode cX2_down 10 = .ok (.getfield 27, 3) ∧ 10 + 3 = 13 := by decide +kernel
theorem e_X2_down_13 : decode cX2_down 13 = .ok (.aload_n 0, 1) ∧ 13 + 1 = 14 := by decide +kernel
theorem e_X2_down_14 : decode cX2_down 14 = .ok (.getfield 23, 3) ∧ 14 + 3 = 17 := by decide +kernel
theorem e_X2_down_17 : decode cX2_down 17 = .ok (.invokevirtual 61, 3) ∧ 17 + 3 = 20 := by decide +kernel
theorem e_X2_down_20 : decode cX2_down 20 = .ok (.iconst 0, 1) ∧ 20 + 1 = 21 := by decide +kernel
theorem e_X2_down_21 : decode cX2_down 21 = .ok (.istore_n 2, 1) ∧ 21 + 1 = 22 := by decide +kernel
theorem e_X2_down_22 : decode cX2_down 22 = .ok (.iload_n 2, 1) ∧ 22 + 1 = 23 := by decide +kernel
theorem e_X2_down_23 : decode cX2_down 23 = .ok (.bipush 30, 2) ∧ 23 + 2 = 25 := by decide +kernel
theorem e_X2_down_25 : decode cX2_down 25 = .ok (.if_icmp .gt 39, 3) ∧ 25 + 3 = 28 ∧ ((25 : Nat) : Int) + (39) = ((64 : Nat) : Int) := by decide +kernel
theorem e_X2_down_28 : decode cX2_down 28 = .ok (.aload_n 0, 1) ∧ 28 + 1 = 29 := by decide +kernel
theorem e_X2_down_29 : decode cX2_down 29 = .ok (.getfield 27, 3) ∧ 29 + 3 = 32 := by decide +kernel
theorem e_X2_down_32 : decode cX2_down 32 = .ok (.iload_n 1, 1) ∧ 32 + 1 = 33 := by decide +kernel
theorem e_X2_down_33 : decode cX2_down 33 = .ok (.invokevirtual 115, 3) ∧ 33 + 3 = 36 := by decide +kernel
theorem e_X2_down_36 : decode cX2_down 36 = .ok (.ifCond .eq 5, 3) ∧ 36 + 3 = 39 ∧ ((36 : Nat) : Int) + (5) = ((41 : Nat) : Int) := by decide +kernel
theorem e_X2_down_39 : decode cX2_down 39 = .ok (.iload_n 2, 1) ∧ 39 + 1 = 40 := by decide +kernel
theorem e_X2_down_40 : decode cX2_down 40 = .ok (.ireturn, 1) := by decide +kernel
theorem e_X2_down_41 : decode cX2_down 41 = .ok (.aload_n 0, 1) ∧ 41 + 1 = 42 := by decide +kernel
theorem e_X2_down_42 : decode cX2_down 42 = .ok (.getfield 27, 3) ∧ 42 + 3 = 45 := by decide +kernel
theorem e_X2_down_45 : decode cX2_down 45 = .ok (.bipush 15, 2) ∧ 45 + 2 = 47 := by decide +kernel
theorem e_X2_down_47 : decode cX2_down 47 = .ok (.invokevirtual 186, 3) ∧ 47 + 3 = 50 := by decide +kernel
theorem e_X2_down_50 : decode cX2_down 50 = .ok (.aload_n 0, 1) ∧ 50 + 1 = 51 := by decide +kernel
theorem e_X2_down_51 : decode cX2_down 51 = .ok (.getfield 27, 3) ∧ 51 + 3 = 54 := by decide +kernel
theorem e_X2_down_54 : decode cX2_down 54 = .ok (.invokevirtual 162, 3) ∧ 54 + 3 = 57 := by decide +kernel
theorem e_X2_down_57 : decode cX2_down 57 = .ok (.pop, 1) ∧ 57 + 1 = 58 := by decide +kernel
theorem e_X2_down_58 : decode cX2_down 58 = .ok (.iinc 2 1, 3) ∧ 58 + 3 = 61 := by decide +kernel
theorem e_X2_down_61 : decode cX2_down 61 = .ok (.goto (-39), 3) ∧ 61 + 3 = 64 ∧ ((61 : Nat) : Int) + (-39) = ((22 : Nat) : Int) := by decide +kernel
theorem e_X2_down_64 : decode cX2_down 64 = .ok (.bipush (-9), 2) ∧ 64 + 2 = 66 := by decide +kernel
theorem e_X2_down_66 : decode cX2_down 66 = .ok (.ireturn, 1) := by decide +kernel
theorem e_X2_see_0 : decode cX2_see 0 = .ok (.iload_n 1, 1) ∧ 0 + 1 = 1 := by decide +kernel
theorem e_X2_see_1 : decode cX2_see 1 = .ok (.invokestatic 95, 3) ∧ 1 + 3 = 4 := by decide +kernel
theorem e_X2_see_4 : decode cX2_see 4 = .ok (.ifCond .ne 5, 3) ∧ 4 + 3 = 7 ∧ ((4 : Nat) : Int) + (5) = ((9 : Nat) : Int) := by decide +kernel
theorem e_X2_see_7 : decode cX2_see 7 = .ok (.iconst (-1), 1) ∧ 7 + 1 = 8 := by decide +kernel
theorem e_X2_see_8 : decode cX2_see 8 = .ok (.ireturn, 1) := by decide +kernel
theorem e_X2_see_9 : decode cX2_see 9 = .ok (.iload_n 2, 1) ∧ 9 + 1 = 10 := by decide +kernel
theorem e_X2_see_10 : decode cX2_see 10 = .ok (.ifCond .lt 9, 3) ∧ 10 + 3 = 13 ∧ ((10 : Nat) : Int) + (9) = ((19 : Nat) : Int) := by decide +kernel
theorem e_X2_see_13 : decode cX2_see 13 = .ok (.iload_n 2, 1) ∧ 13 + 1 = 14 := by decide +kernel
theorem e_X2_see_14 : decode cX2_see 14 = .ok (.bipush 100, 2) ∧ 14 + 2 = 16 := by decide +kernel
theorem e_X2_see_16 : decode cX2_see 16 = .ok (.if_icmp .le 6, 3) ∧ 16 + 3 = 19 ∧ ((16 : Nat) : Int) + (6) = ((22 : Nat) : Int) := by decide +kernel
theorem e_X2_see_19 : decode cX2_see 19 = .ok (.bipush (-2), 2) ∧ 19 + 2 = 21 := by decide +kernel
theorem e_X2_see_21 : decode cX2_see 21 = .ok (.ireturn, 1) := by decide +kernel
theorem e_X2_see_22 : decode cX2_see 22 = .ok (.aload_n 0, 1) ∧ 22 + 1 = 23 := by decide +kernel
theorem e_X2_see_23 : decode cX2_see 23 = .ok (.getfield 92, 3) ∧ 23 + 3 = 26 := by decide +kernel
theorem e_X2_see_26 : decode cX2_see 26 = .ok (.bipush 6, 2) ∧ 26 + 2 = 28 := by decide +kernel
theorem e_X2_see_28 : decode cX2_see 28 = .ok (.if_icmp .lt 6, 3) ∧ 28 + 3 = 31 ∧ ((28 : Nat) : Int) + (6) = ((34 : Nat) : Int) := by decide +kernel
theorem e_X2_see_31 : decode cX2_see 31 = .ok (.bipush (-4), 2) ∧ 31 + 2 = 33 := by decide +kernel
theorem e_X2_see_33 : decode cX2_see 33 = .ok (.ireturn, 1) := by decide +kernel
theorem e_X2_see_34 : decode cX2_see 34 = .ok (.aload_n 0, 1) ∧ 34 + 1 = 35 := by decide +kernel
theorem e_X2_see_35 : decode cX2_see 35 = .ok (.getfield 40, 3) ∧ 35 + 3 = 38 := by decide +kernel
theorem e_X2_see_38 : decode cX2_see 38 = .ok (.aload_n 0, 1) ∧ 38 + 1 = 39 := by decide +kernel
theorem e_X2_see_39 : decode cX2_see 39 = .ok (.getfield 92, 3) ∧ 39 + 3 = 42 := by decide +kernel
theorem e_X2_see_42 : decode cX2_see 42 = .ok (.iload_n 1, 1) ∧ 42 + 1 = 43 := by decide +kernel
theorem e_X2_see_43 : decode cX2_see 43 = .ok (.invokestatic 50, 3) ∧ 43 + 3 = 46 := by decide +kernel
theorem e_X2_see_46 : decode cX2_see 46 = .ok (.aload_n 0, 1) ∧ 46 + 1 = 47 := by decide +kernel
theorem e_X2_see_47 : decode cX2_see 47 = .ok (.getfield 43, 3) ∧ 47 + 3 = 50 := by decide +kernel
theorem e_X2_see_50 : decode cX2_see 50 = .ok (.aload_n 0, 1) ∧ 50 + 1 = 51 := by decide +kernel
theorem e_X2_see_51 : decode cX2_see 51 = .ok (.getfield 92, 3) ∧ 51 + 3 = 54 := by decide +kernel
theorem e_X2_see_54 : decode cX2_see 54 = .ok (.iload_n 2, 1) ∧ 54 + 1 = 55 := by decide +kernel
theorem e_X2_see_55 : decode cX2_see 55 = .ok (.invokestatic 50, 3) ∧ 55 + 3 = 58 := by decide +kernel
theorem e_X2_see_58 : decode cX2_see 58 = .ok (.aload_n 0, 1) ∧ 58 + 1 = 59 := by decide +kernel
theorem e_X2_see_59 : decode cX2_see 59 = .ok (.dup, 1) ∧ 59 + 1 = 60 := by decide +kernel
theorem e_X2_see_60 : decode cX2_see 60 = .ok (.getfield 92, 3) ∧ 60 + 3 = 63 := by decide +kernel
theorem e_X2_see_63 : decode cX2_see 63 = .ok (.iconst 1, 1) ∧ 63 + 1 = 64 := by decide +kernel
theorem e_X2_see_64 : decode cX2_see 64 = .ok (.iadd, 1) ∧ 64 + 1 = 65 := by decide +kernel
theorem e_X2_see_65 : decode cX2_see 65 = .ok (.putfield 92, 3) ∧ 65 + 3 = 68 := by decide +kernel
theorem e_X2_see_68 : decode cX2_see 68 = .ok (.aload_n 0, 1) ∧ 68 + 1 = 69 := by decide +kernel
theorem e_X2_see_69 : decode cX2_see 69 = .ok (.getfield 92, 3) ∧ 69 + 3 = 72 := by decide +kernel
theorem e_X2_see_72 : decode cX2_see 72 = .ok (.ireturn, 1) := by decide +kernel
theorem e_X2_unsee_0 : decode cX2_unsee 0 = .ok (.aload_n 0, 1) ∧ 0 + 1 = 1 := by decide +kernel
theorem e_X2_unsee_1 : decode cX2_unsee 1 = .ok (.getfield 92, 3) ∧ 1 + 3 = 4 := by decide +kernel
theorem e_X2_unsee_4 : decode cX2_unsee 4 = .ok (.istore_n 1, 1) ∧ 4 + 1 = 5 := by decide +kernel
theorem e_X2_unsee_5 : decode cX2_unsee 5 = .ok (.aload_n 0, 1) ∧ 5 + 1 = 6 := by decide +kernel
theorem e_X2_unsee_6 : decode cX2_unsee 6 = .ok (.iconst 0, 1) ∧ 6 + 1 = 7 := by decide +kernel
theorem e_X2_unsee_7 : decode cX2_unsee 7 = .ok (.putfield 92, 3) ∧ 7 + 3 = 10 := by decide +kernel
theorem e_X2_unsee_10 : decode cX2_unsee 10 = .ok (.iload_n 1, 1) ∧ 10 + 1 = 11 := by decide +kernel
theorem e_X2_unsee_11 : decode cX2_unsee 11 = .ok (.ireturn, 1) := by decide +kernel
theorem e_X2_silent_0 : decode cX2_silent 0 = .ok (.iload_n 1, 1) ∧ 0 + 1 = 1 := by decide +kernel
theorem e_X2_silent_1 : decode cX2_silent 1 = .ok (.ifCond .eq 11, 3) ∧ 1 + 3 = 4 ∧ ((1 : Nat) : Int) + (11) = ((12 : Nat) : Int) := by decide +kernel
theorem e_X2_silent_4 : decode cX2_silent 4 = .ok (.iload_n 1, 1) ∧ 4 + 1 = 5 := by decide +kernel
theorem e_X2_silent_5 : decode cX2_silent 5 = .ok (.iconst 1, 1) ∧ 5 + 1 = 6 := by decide +kernel
theorem e_X2_silent_6 : decode cX2_silent 6 = .ok (.if_icmp .eq 6, 3) ∧ 6 + 3 = 9 ∧ ((6 : Nat) : Int) + (6) = ((12 : Nat) : Int) := by decide +kernel
theorem e_X2_silent_9 : decode cX2_silent 9 = .ok (.bipush (-2), 2) ∧ 9 + 2 = 11 := by decide +kernel
theorem e_X2_silent_11 : decode cX2_silent 11 = .ok (.ireturn, 1) := by decide +kernel
theorem e_X2_silent_12 : decode cX2_silent 12 = .ok (.aload_n 0, 1) ∧ 12 + 1 = 13 := by decide +kernel
theorem e_X2_silent_13 : decode cX2_silent 13 = .ok (.getfield 23, 3) ∧ 13 + 3 = 16 := by decide +kernel
theorem e_X2_silent_16 : decode cX2_silent 16 = .ok (.invokevirtual 159, 3) ∧ 16 + 3 = 19 := by decide +kernel
theorem e_X2_silent_19 : decode cX2_silent 19 = .ok (.istore_n 2, 1) ∧ 19 + 1 = 20 := by decide +kernel
theorem e_X2_silent_20 : decode cX2_silent 20 = .ok (.iconst 0, 1) ∧ 20 + 1 = 21 := by decide +kernel
theorem e_X2_silent_21 : decode cX2_silent 21 = .ok (.istore_n 3, 1) ∧ 21 + 1 = 22 := by decide +kernel
theorem e_X2_silent_22 : decode cX2_silent 22 = .ok (.iload_n 2, 1) ∧ 22 + 1 = 23 := by decide +kernel
theorem e_X2_silent_23 : decode cX2_silent 23 = .ok (.istore 4, 2) ∧ 23 + 2 = 25 := by decide +kernel
theorem e_X2_silent_25 : decode cX2_silent 25 = .ok (.iconst 0, 1) ∧ 25 + 1 = 26 := by decide +kernel
theorem e_X2_silent_26 : decode cX2_silent 26 = .ok (.istore 5, 2) ∧ 26 + 2 = 28 := by decide +kernel
theorem e_X2_silent_28 : decode cX2_silent 28 = .ok (.iload 5, 2) ∧ 28 + 2 = 30 := by decide +kernel
theorem e_X2_silent_30 : decode cX2_silent 30 = .ok (.bipush 16, 2) ∧ 30 + 2 = 32 := by decide +kernel
theorem e_X2_silent_32 : decode cX2_silent 32 = .ok (.if_icmp .ge 37, 3) ∧ 32 + 3 = 35 ∧ ((32 : Nat) : Int) + (37) = ((69 : Nat) : Int) := by decide +kernel
theorem e_X2_silent_35 : decode cX2_silent 35 = .ok (.iload 5, 2) ∧ 35 + 2 = 37 := by decide +kernel
theorem e_X2_silent_37 : decode cX2_silent 37 = .ok (.iload_n 2, 1) ∧ 37 + 1 = 38 := by decide +kernel
theorem e_X2_silent_38 : decode cX2_silent 38 = .ok (.iconst (-1), 1) ∧ 38 + 1 = 39 := by decide +kernel
theorem e_X2_silent_39 : decode cX2_silent 39 = .ok (.ixor, 1) ∧ 39 + 1 = 40 := by decide +kernel
theorem e_X2_silent_40 : decode cX2_silent 40 = .ok (.iand, 1) ∧ 40 + 1 = 41 := by decide +kernel
theorem e_X2_silent_41 : decode cX2_silent 41 = .ok (.ifCond .ne 22, 3) ∧ 41 + 3 = 44 ∧ ((41 : Nat) : Int) + (22) = ((63 : Nat) : Int) := by decide +kernel
theorem e_X2_silent_44 : decode cX2_silent 44 = .ok (.aload_n 0, 1) ∧ 44 + 1 = 45 := by decide +kernel
theorem e_X2_silent_45 : decode cX2_silent 45 = .ok (.iload 5, 2) ∧ 45 + 2 = 47 := by decide +kernel
theorem e_X2_silent_47 : decode cX2_silent 47 = .ok (.invokevirtual 189, 3) ∧ 47 + 3 = 50 := by decide +kernel
theorem e_X2_silent_50 : decode cX2_silent 50 = .ok (.ifCond .eq 13, 3) ∧ 50 + 3 = 53 ∧ ((50 : Nat) : Int) + (13) = ((63 : Nat) : Int) := by decide +kernel
theorem e_X2_silent_53 : decode cX2_silent 53 = .ok (.iinc 3 1, 3) ∧ 53 + 3 = 56 := by decide +kernel
theorem e_X2_silent_56 : decode cX2_silent 56 = .ok (.iload 4, 2) ∧ 56 + 2 = 58 := by decide +kernel
theorem e_X2_silent_58 : decode cX2_silent 58 = .ok (.iload 5, 2) ∧ 58 + 2 = 60 := by decide +kernel
theorem e_X2_silent_60 : decode cX2_silent 60 = .ok (.iand, 1) ∧ 60 + 1 = 61 := by decide +kernel
theorem e_X2_silent_61 : decode cX2_silent 61 = .ok (.istore 4, 2) ∧ 61 + 2 = 63 := by decide +kernel
theorem e_X2_silent_63 : decode cX2_silent 63 = .ok (.iinc 5 1, 3) ∧ 63 + 3 = 66 := by decide +kernel
theorem e_X2_silent_66 : decode cX2_silent 66 = .ok (.goto (-38), 3) ∧ 66 + 3 = 69 ∧ ((66 : Nat) : Int) + (-38) = ((28 : Nat) : Int) := by decide +kernel
theorem e_X2_silent_69 : decode cX2_silent 69 = .ok (.iload_n 1, 1) ∧ 69 + 1 = 70 := by decide +kernel
theorem e_X2_silent_70 : decode cX2_silent 70 = .ok (.ifCond .ne 5, 3) ∧ 70 + 3 = 73 ∧ ((70 : Nat) : Int) + (5) = ((75 : Nat) : Int) := by decide +kernel
theorem e_X2_silent_73 : decode cX2_silent 73 = .ok (.iload_n 3, 1) ∧ 73 + 1 = 74 := by decide +kernel
theorem e_X2_silent_74 : decode cX2_silent 74 = .ok (.ireturn, 1) := by decide +kernel
theorem e_X2_silent_75 : decode cX2_silent 75 = .ok (.iload_n 3, 1) ∧ 75 + 1 = 76 := by decide +kernel
theorem e_X2_silent_76 : decode cX2_silent 76 = .ok (.ifCond .ne 8, 3) ∧ 76 + 3 = 79 ∧ ((76 : Nat) : Int) + (8) = ((84 : Nat) : Int) := by decide +kernel
theorem e_X2_silent_79 : decode cX2_silent 79 = .ok (.bipush (-9), 2) ∧ 79 + 2 = 81 := by decide +kernel
theorem e_X2_silent_81 : decode cX2_silent 81 = .ok (.goto 5, 3) ∧ 81 + 3 = 84 ∧ ((81 : Nat) : Int) + (5) = ((86 : Nat) : Int) := by decide +kernel
theorem e_X2_silent_84 : decode cX2_silent 84 = .ok (.iload 4, 2) ∧ 84 + 2 = 86 := by decide +kernel
theorem e_X2_silent_86 : decode cX2_silent 86 = .ok (.ireturn, 1) := by decide +kernel
theorem e_X2_chance_0 : decode cX2_chance 0 = .ok (.iload_n 1, 1) ∧ 0 + 1 = 1 := by decide +kernel
theorem e_X2_chance_1 : decode cX2_chance 1 = .ok (.invokestatic 95, 3) ∧ 1 + 3 = 4 := by decide +kernel
theorem e_X2_chance_4 : decode cX2_chance 4 = .ok (.ifCond .ne 5, 3) ∧ 4 + 3 = 7 ∧ ((4 : Nat) : Int) + (5) = ((9 : Nat) : Int) := by decide +kernel
theorem e_X2_chance_7 : decode cX2_chance 7 = .ok (.iconst (-1), 1) ∧ 7 + 1 = 8 := by decide +kernel
theorem e_X2_chance_8 : decode cX2_chance 8 = .ok (.ireturn, 1) := by decide +kernel
theorem e_X2_chance_9 : decode cX2_chance 9 = .ok (.iload_n 2, 1) ∧ 9 + 1 = 10 := by decide +kernel
theorem e_X2_chance_10 : decode cX2_chance 10 = .ok (.ifCond .lt 9, 3) ∧ 10 + 3 = 13 ∧ ((10 : Nat) : Int) + (9) = ((19 : Nat) : Int) := by decide +kernel
theorem e_X2_chance_13 : decode cX2_chance 13 = .ok (.iload_n 2, 1) ∧ 13 + 1 = 14 := by decide +kernel
theorem e_X2_chance_14 : decode cX2_chance 14 = .ok (.bipush 10, 2) ∧ 14 + 2 = 16 := by decide +kernel
theorem e_X2_chance_16 : decode cX2_chance 16 = .ok (.if_icmp .le 6, 3) ∧ 16 + 3 = 19 ∧ ((16 : Nat) : Int) + (6) = ((22 : Nat) : Int) := by decide +kernel
theorem e_X2_chance_19 : decode cX2_chance 19 = .ok (.bipush (-2), 2) ∧ 19 + 2 = 21 := by decide +kernel
theorem e_X2_chance_21 : decode cX2_chance 21 = .ok (.ireturn, 1) := by decide +kernel
theorem e_X2_chance_22 : decode cX2_chance 22 = .ok (.aload_n 0, 1) ∧ 22 + 1 = 23 := by decide +kernel
theorem e_X2_chance_23 : decode cX2_chance 23 = .ok (.getfield 23, 3) ∧ 23 + 3 = 26 := by decide +kernel
theorem e_X2_chance_26 : decode cX2_chance 26 = .ok (.invokevirtual 159, 3) ∧ 26 + 3 = 29 := by decide +kernel
theorem e_X2_chance_29 : decode cX2_chance 29 = .ok (.istore 4, 2) ∧ 29 + 2 = 31 := by decide +kernel
theorem e_X2_chance_31 : decode cX2_chance 31 = .ok (.iconst 0, 1) ∧ 31 + 1 = 32 := by decide +kernel
theorem e_X2_chance_32 : decode cX2_chance 32 = .ok (.istore 5, 2) ∧ 32 + 2 = 34 := by decide +kernel
theorem e_X2_chance_34 : decode cX2_chance 34 = .ok (.iconst 0, 1) ∧ 34 + 1 = 35 := by decide +kernel
theorem e_X2_chance_35 : decode cX2_chance 35 = .ok (.istore 6, 2) ∧ 35 + 2 = 37 := by decide +kernel
theorem e_X2_chance_37 : decode cX2_chance 37 = .ok (.iconst 0, 1) ∧ 37 + 1 = 38 := by decide +kernel
theorem e_X2_chance_38 : decode cX2_chance 38 = .ok (.istore 7, 2) ∧ 38 + 2 = 40 := by decide +kernel
theorem e_X2_chance_40 : decode cX2_chance 40 = .ok (.iload 7, 2) ∧ 40 + 2 = 42 := by decide +kernel
theorem e_X2_chance_42 : decode cX2_chance 42 = .ok (.bipush 16, 2) ∧ 42 + 2 = 44 := by decide +kernel
theorem e_X2_chance_44 : decode cX2_chance 44 = .ok (.if_icmp .ge 78, 3) ∧ 44 + 3 = 47 ∧ ((44 : Nat) : Int) + (78) = ((122 : Nat) : Int) := by decide +kernel
theorem e_X2_chance_47 : decode cX2_chance 47 = .ok (.iload 7, 2) ∧ 47 + 2 = 49 := by decide +kernel
theorem e_X2_chance_49 : decode cX2_chance 49 = .ok (.iload 4, 2) ∧ 49 + 2 = 51 := by decide +kernel
theorem e_X2_chance_51 : decode cX2_chance 51 = .ok (.iconst (-1), 1) ∧ 51 + 1 = 52 := by decide +kernel
theorem e_X2_chance_52 : decode cX2_chance 52 = .ok (.ixor, 1) ∧ 52 + 1 = 53 := by decide +kernel
theorem e_X2_chance_53 : decode cX2_chance 53 = .ok (.iand, 1) ∧ 53 + 1 = 54 := by decide +kernel
theorem e_X2_chance_54 : decode cX2_chance 54 = .ok (.ifCond .ne 62, 3) ∧ 54 + 3 = 57 ∧ ((54 : Nat) : Int) + (62) = ((116 : Nat) : Int) := by decide +kernel
theorem e_X2_chance_57 : decode cX2_chance 57 = .ok (.iload 7, 2) ∧ 57 + 2 = 59 := by decide +kernel
theorem e_X2_chance_59 : decode cX2_chance 59 = .ok (.iload 4, 2) ∧ 59 + 2 = 61 := by decide +kernel
theorem e_X2_chance_61 : decode cX2_chance 61 = .ok (.iload_n 2, 1) ∧ 61 + 1 = 62 := by decide +kernel
theorem e_X2_chance_62 : decode cX2_chance 62 = .ok (.invokestatic 192, 3) ∧ 62 + 3 = 65 := by decide +kernel
theorem e_X2_chance_65 : decode cX2_chance 65 = .ok (.istore 8, 2) ∧ 65 + 2 = 67 := by decide +kernel
theorem e_X2_chance_67 : decode cX2_chance 67 = .ok (.iload 6, 2) ∧ 67 + 2 = 69 := by decide +kernel
theorem e_X2_chance_69 : decode cX2_chance 69 = .ok (.iload 8, 2) ∧ 69 + 2 = 71 := by decide +kernel
theorem e_X2_chance_71 : decode cX2_chance 71 = .ok (.iadd, 1) ∧ 71 + 1 = 72 := by decide +kernel
theorem e_X2_chance_72 : decode cX2_chance 72 = .ok (.istore 6, 2) ∧ 72 + 2 = 74 := by decide +kernel
theorem e_X2_chance_74 : decode cX2_chance 74 = .ok (.aload_n 0, 1) ∧ 74 + 1 = 75 := by decide +kernel
theorem e_X2_chance_75 : decode cX2_chance 75 = .ok (.getfield 27, 3) ∧ 75 + 3 = 78 := by decide +kernel
theorem e_X2_chance_78 : decode cX2_chance 78 = .ok (.aload_n 0, 1) ∧ 78 + 1 = 79 := by decide +kernel
theorem e_X2_chance_79 : decode cX2_chance 79 = .ok (.getfield 23, 3) ∧ 79 + 3 = 82 := by decide +kernel
theorem e_X2_chance_82 : decode cX2_chance 82 = .ok (.invokevirtual 61, 3) ∧ 82 + 3 = 85 := by decide +kernel
theorem e_X2_chance_85 : decode cX2_chance 85 = .ok (.aload_n 0, 1) ∧ 85 + 1 = 86 := by decide +kernel
theorem e_X2_chance_86 : decode cX2_chance 86 = .ok (.getfield 27, 3) ∧ 86 + 3 = 89 := by decide +kernel
theorem e_X2_chance_89 : decode cX2_chance 89 = .ok (.iload 7, 2) ∧ 89 + 2 = 91 := by decide +kernel
theorem e_X2_chance_91 : decode cX2_chance 91 = .ok (.invokevirtual 186, 3) ∧ 91 + 3 = 94 := by decide +kernel
theorem e_X2_chance_94 : decode cX2_chance 94 = .ok (.iload 5, 2) ∧ 94 + 2 = 96 := by decide +kernel
theorem e_X2_chance_96 : decode cX2_chance 96 = .ok (.aload_n 0, 1) ∧ 96 + 1 = 97 := by decide +kernel
theorem e_X2_chance_97 : decode cX2_chance 97 = .ok (.getfield 27, 3) ∧ 97 + 3 = 100 := by decide +kernel
theorem e_X2_chance_100 : decode cX2_chance 100 = .ok (.iload_n 1, 1) ∧ 100 + 1 = 101 := by decide +kernel
theorem e_X2_chance_101 : decode cX2_chance 101 = .ok (.invokevirtual 115, 3) ∧ 101 + 3 = 104 := by decide +kernel
theorem e_X2_chance_104 : decode cX2_chance 104 = .ok (.ifCond .eq 8, 3) ∧ 104 + 3 = 107 ∧ ((104 : Nat) : Int) + (8) = ((112 : Nat) : Int) := by decide +kernel
theorem e_X2_chance_107 : decode cX2_chance 107 = .ok (.iload 8, 2) ∧ 107 + 2 = 109 := by decide +kernel
theorem e_X2_chance_109 : decode cX2_chance 109 = .ok (.goto 4, 3) ∧ 109 + 3 = 112 ∧ ((109 : Nat) : Int) + (4) = ((113 : Nat) : Int) := by decide +kernel
theorem e_X2_chance_112 : decode cX2_chance 112 = .ok (.iconst 0, 1) ∧ 112 + 1 = 113 := by decide +kernel
theorem e_X2_chance_113 : decode cX2_chance 113 = .ok (.iadd, 1) ∧ 113 + 1 = 114 := by decide +kernel
theorem e_X2_chance_114 : decode cX2_chance 114 = .ok (.istore 5, 2) ∧ 114 + 2 = 116 := by decide +kernel
theorem e_X2_chance_116 : decode cX2_chance 116 = .ok (.iinc 7 1, 3) ∧ 116 + 3 = 119 := by decide +kernel
theorem e_X2_chance_119 : decode cX2_chance 119 = .ok (.goto (-79), 3) ∧ 119 + 3 = 122 ∧ ((119 : Nat) : Int) + (-79) = ((40 : Nat) : Int) := by decide +kernel
theorem e_X2_chance_122 : decode cX2_chance 122 = .ok (.iload 5, 2) ∧ 122 + 2 = 124 := by decide +kernel
theorem e_X2_chance_124 : decode cX2_chance 124 = .ok (.iload 6, 2) ∧ 124 + 2 = 126 := by decide +kernel
theorem e_X2_chance_126 : decode cX2_chance 126 = .ok (.invokestatic 195, 3) ∧ 126 + 3 = 129 := by decide +kernel
theorem e_X2_chance_129 : decode cX2_chance 129 = .ok (.istore 7, 2) ∧ 129 + 2 = 131 := by decide +kernel
theorem e_X2_chance_131 : decode cX2_chance 131 = .ok (.iload 7, 2) ∧ 131 + 2 = 133 := by decide +kernel
theorem e_X2_chance_133 : decode cX2_chance 133 = .ok (.ifCond .ne 5, 3) ∧ 133 + 3 = 136 ∧ ((133 : Nat) : Int) + (5) = ((138 : Nat) : Int) := by decide +kernel
theorem e_X2_chance_136 : decode cX2_chance 136 = .ok (.iconst 0, 1) ∧ 136 + 1 = 137 := by decide +kernel
theorem e_X2_chance_137 : decode cX2_chance 137 = .ok (.ireturn, 1) := by decide +kernel
theorem e_X2_chance_138 : decode cX2_chance 138 = .ok (.iload_n 3, 1) ∧ 138 + 1 = 139 := by decide +kernel
theorem e_X2_chance_139 : decode cX2_chance 139 = .ok (.ifCond .eq 8, 3) ∧ 139 + 3 = 142 ∧ ((139 : Nat) : Int) + (8) = ((147 : Nat) : Int) := by decide +kernel
theorem e_X2_chance_142 : decode cX2_chance 142 = .ok (.iload 5, 2) ∧ 142 + 2 = 144 := by decide +kernel
theorem e_X2_chance_144 : decode cX2_chance 144 = .ok (.goto 5, 3) ∧ 144 + 3 = 147 ∧ ((144 : Nat) : Int) + (5) = ((149 : Nat) : Int) := by decide +kernel
theorem e_X2_chance_147 : decode cX2_chance 147 = .ok (.iload 6, 2) ∧ 147 + 2 = 149 := by decide +kernel
theorem e_X2_chance_149 : decode cX2_chance 149 = .ok (.iload 7, 2) ∧ 149 + 2 = 151 := by decide +kernel
theorem e_X2_chance_151 : decode cX2_chance 151 = .ok (.idiv, 1) ∧ 151 + 1 = 152 := by decide +kernel
theorem e_X2_chance_152 : decode cX2_chance 152 = .ok (.ireturn, 1) := by decide +kernel
theorem e_X2_seed_0 : decode cX2_seed 0 = .ok (.aload_n 0, 1) ∧ 0 + 1 = 1 := by decide +kernel
theorem e_X2_seed_1 : decode cX2_seed 1 = .ok (.getfield 198, 3) ∧ 1 + 3 = 4 := by decide +kernel
theorem e_X2_seed_4 : decode cX2_seed 4 = .ok (.lstore_n 3, 1) ∧ 4 + 1 = 5 := by decide +kernel
theorem e_X2_seed_5 : decode cX2_seed 5 = .ok (.aload_n 0, 1) ∧ 5 + 1 = 6 := by decide +kernel
theorem e_X2_seed_6 : decode cX2_seed 6 = .ok (.lload_n 1, 1) ∧ 6 + 1 = 7 := by decide +kernel
theorem e_X2_seed_7 : decode cX2_seed 7 = .ok (.putfield 198, 3) ∧ 7 + 3 = 10 := by decide +kernel
theorem e_X2_seed_10 : decode cX2_seed 10 = .ok (.lload_n 3, 1) ∧ 10 + 1 = 11 := by decide +kernel
theorem e_X2_seed_11 : decode cX2_seed 11 = .ok (.lreturn, 1) := by decide +kernel
theorem e_X2_month_0 : decode cX2_month 0 = .ok (.iload_n 1, 1) ∧ 0 + 1 = 1 := by decide +kernel
theorem e_X2_month_1 : decode cX2_month 1 = .ok (.iconst 1, 1) ∧ 1 + 1 = 2 := by decide +kernel
theorem e_X2_month_2 : decode cX2_month 2 = .ok (.if_icmp .lt 19, 3) ∧ 2 + 3 = 5 ∧ ((2 : Nat) : Int) + (19) = ((21 : Nat) : Int) := by decide +kernel
theorem e_X2_month_5 : decode cX2_month 5 = .ok (.iload_n 1, 1) ∧ 5 + 1 = 6 := by decide +kernel
theorem e_X2_month_6 : decode cX2_month 6 = .ok (.bipush 30, 2) ∧ 6 + 2 = 8 := by decide +kernel
theorem e_X2_month_8 : decode cX2_month 8 = .ok (.if_icmp .gt 13, 3) ∧ 8 + 3 = 11 ∧ ((8 : Nat) : Int) + (13) = ((21 : Nat) : Int) := by decide +kernel
theorem e_X2_month_11 : decode cX2_month 11 = .ok (.iload_n 2, 1) ∧ 11 + 1 = 12 := by decide +kernel
theorem e_X2_month_12 : decode cX2_month 12 = .ok (.ifCond .lt 9, 3) ∧ 12 + 3 = 15 ∧ ((12 : Nat) : Int) + (9) = ((21 : Nat) : Int) := by decide +kernel
theorem e_X2_month_15 : decode cX2_month 15 = .ok (.iload_n 2, 1) ∧ 15 + 1 = 16 := by decide +kernel
theorem e_X2_month_16 : decode cX2_month 16 = .ok (.bipush 10, 2) ∧ 16 + 2 = 18 := by decide +kernel
theorem e_X2_month_18 : decode cX2_month 18 = .ok (.if_icmp .le 6, 3) ∧ 18 + 3 = 21 ∧ ((18 : Nat) : Int) + (6) = ((24 : Nat) : Int) := by decide +kernel
theorem e_X2_month_21 : decode cX2_month 21 = .ok (.bipush (-2), 2) ∧ 21 + 2 = 23 := by decide +kernel
theorem e_X2_month_23 : decode cX2_month 23 = .ok (.ireturn, 1) := by decide +kernel
theorem e_X2_month_24 : decode cX2_month 24 = .ok (.aload_n 0, 1) ∧ 24 + 1 = 25 := by decide +kernel
theorem e_X2_month_25 : decode cX2_month 25 = .ok (.getfield 27, 3) ∧ 25 + 3 = 28 := by decide +kernel
theorem e_X2_month_28 : decode cX2_month 28 = .ok (.aload_n 0, 1) ∧ 28 + 1 = 29 := by decide +kernel
theorem e_X2_month_29 : decode cX2_month 29 = .ok (.getfield 23, 3) ∧ 29 + 3 = 32 := by decide +kernel
theorem e_X2_month_32 : decode cX2_month 32 = .ok (.invokevirtual 61, 3) ∧ 32 + 3 = 35 := by decide +kernel
theorem e_X2_month_35 : decode cX2_month 35 = .ok (.iconst 0, 1) ∧ 35 + 1 = 36 := by decide +kernel
theorem e_X2_month_36 : decode cX2_month 36 = .ok (.istore_n 3, 1) ∧ 36 + 1 = 37 := by decide +kernel
theorem e_X2_month_37 : decode cX2_month 37 = .ok (.iload_n 3, 1) ∧ 37 + 1 = 38 := by decide +kernel
theorem e_X2_month_38 : decode cX2_month 38 = .ok (.iload_n 1, 1) ∧ 38 + 1 = 39 := by decide +kernel
theorem e_X2_month_39 : decode cX2_month 39 = .ok (.if_icmp .ge 62, 3) ∧ 39 + 3 = 42 ∧ ((39 : Nat) : Int) + (62) = ((101 : Nat) : Int) := by decide +kernel
theorem e_X2_month_42 : decode cX2_month 42 = .ok (.iconst 0, 1) ∧ 42 + 1 = 43 := by decide +kernel
theorem e_X2_month_43 : decode cX2_month 43 = .ok (.istore 4, 2) ∧ 43 + 2 = 45 := by decide +kernel
theorem e_X2_month_45 : decode cX2_month 45 = .ok (.iload 4, 2) ∧ 45 + 2 = 47 := by decide +kernel
theorem e_X2_month_47 : decode cX2_month 47 = .ok (.iconst 4, 1) ∧ 47 + 1 = 48 := by decide +kernel
theorem e_X2_month_48 : decode cX2_month 48 = .ok (.if_icmp .ge 39, 3) ∧ 48 + 3 = 51 ∧ ((48 : Nat) : Int) + (39) = ((87 : Nat) : Int) := by decide +kernel
theorem e_X2_month_51 : decode cX2_month 51 = .ok (.aload_n 0, 1) ∧ 51 + 1 = 52 := by decide +kernel
theorem e_X2_month_52 : decode cX2_month 52 = .ok (.getfield 27, 3) ∧ 52 + 3 = 55 := by decide +kernel
theorem e_X2_month_55 : decode cX2_month 55 = .ok (.iload 4, 2) ∧ 55 + 2 = 57 := by decide +kernel
theorem e_X2_month_57 : decode cX2_month 57 = .ok (.invokevirtual 134, 3) ∧ 57 + 3 = 60 := by decide +kernel
theorem e_X2_month_60 : decode cX2_month 60 = .ok (.ifCond .eq 21, 3) ∧ 60 + 3 = 63 ∧ ((60 : Nat) : Int) + (21) = ((81 : Nat) : Int) := by decide +kernel
theorem e_X2_month_63 : decode cX2_month 63 = .ok (.aload_n 0, 1) ∧ 63 + 1 = 64 := by decide +kernel
theorem e_X2_month_64 : decode cX2_month 64 = .ok (.invokevirtual 202, 3) ∧ 64 + 3 = 67 := by decide +kernel
theorem e_X2_month_67 : decode cX2_month 67 = .ok (.iload_n 2, 1) ∧ 67 + 1 = 68 := by decide +kernel
theorem e_X2_month_68 : decode cX2_month 68 = .ok (.if_icmp .ge 13, 3) ∧ 68 + 3 = 71 ∧ ((68 : Nat) : Int) + (13) = ((81 : Nat) : Int) := by decide +kernel
theorem e_X2_month_71 : decode cX2_month 71 = .ok (.aload_n 0, 1) ∧ 71 + 1 = 72 := by decide +kernel
theorem e_X2_month_72 : decode cX2_month 72 = .ok (.getfield 27, 3) ∧ 72 + 3 = 75 := by decide +kernel
theorem e_X2_month_75 : decode cX2_month 75 = .ok (.iload 4, 2) ∧ 75 + 2 = 77 := by decide +kernel
theorem e_X2_month_77 : decode cX2_month 77 = .ok (.invokevirtual 140, 3) ∧ 77 + 3 = 80 := by decide +kernel
theorem e_X2_month_80 : decode cX2_month 80 = .ok (.pop, 1) ∧ 80 + 1 = 81 := by decide +kernel
theorem e_X2_month_81 : decode cX2_month 81 = .ok (.iinc 4 1, 3) ∧ 81 + 3 = 84 := by decide +kernel
theorem e_X2_month_84 : decode cX2_month 84 = .ok (.goto (-39), 3) ∧ 84 + 3 = 87 ∧ ((84 : Nat) : Int) + (-39) = ((45 : Nat) : Int) := by decide +kernel
theorem e_X2_month_87 : decode cX2_month 87 = .ok (.aload_n 0, 1) ∧ 87 + 1 = 88 := by decide +kernel
theorem e_X2_month_88 : decode cX2_month 88 = .ok (.getfield 27, 3) ∧ 88 + 3 = 91 := by decide +kernel
theorem e_X2_month_91 : decode cX2_month 91 = .ok (.invokevirtual 162, 3) ∧ 91 + 3 = 94 := by decide +kernel
theorem e_X2_month_94 : decode cX2_month 94 = .ok (.pop, 1) ∧ 94 + 1 = 95 := by decide +kernel
theorem e_X2_month_95 : decode cX2_month 95 = .ok (.iinc 3 1, 3) ∧ 95 + 3 = 98 := by decide +kernel
theorem e_X2_month_98 : decode cX2_month 98 = .ok (.goto (-61), 3) ∧ 98 + 3 = 101 ∧ ((98 : Nat) : Int) + (-61) = ((37 : Nat) : Int) := by decide +kernel
theorem e_X2_month_101 : decode cX2_month 101 = .ok (.aload_n 0, 1) ∧ 101 + 1 = 102 := by decide +kernel
theorem e_X2_month_102 : decode cX2_month 102 = .ok (.getfield 27, 3) ∧ 102 + 3 = 105 := by decide +kernel
theorem e_X2_month_105 : decode cX2_month 105 = .ok (.getfield 80, 3) ∧ 105 + 3 = 108 := by decide +kernel
theorem e_X2_month_108 : decode cX2_month 108 = .ok (.ireturn, 1) := by decide +kernel
theorem e_X2_keep_0 : decode cX2_keep 0 = .ok (.iload_n 1, 1) ∧ 0 + 1 = 1 := by decide +kernel
theorem e_X2_keep_1 : decode cX2_keep 1 = .ok (.ifCond .lt 12, 3) ∧ 1 + 3 = 4 ∧ ((1 : Nat) : Int) + (12) = ((13 : Nat) : Int) := by decide +kernel
theorem e_X2_keep_4 : decode cX2_keep 4 = .ok (.iload_n 1, 1) ∧ 4 + 1 = 5 := by decide +kernel
theorem e_X2_keep_5 : decode cX2_keep 5 = .ok (.aload_n 0, 1) ∧ 5 + 1 = 6 := by decide +kernel
theorem e_X2_keep_6 : decode cX2_keep 6 = .ok (.getfield 37, 3) ∧ 6 + 3 = 9 := by decide +kernel
theorem e_X2_keep_9 : decode cX2_keep 9 = .ok (.arraylength, 1) ∧ 9 + 1 = 10 := by decide +kernel
theorem e_X2_keep_10 : decode cX2_keep 10 = .ok (.if_icmp .lt 5, 3) ∧ 10 + 3 = 13 ∧ ((10 : Nat) : Int) + (5) = ((15 : Nat) : Int) := by decide +kernel
theorem e_X2_keep_13 : decode cX2_keep 13 = .ok (.iconst (-1), 1) ∧ 13 + 1 = 14 := by decide +kernel
theorem e_X2_keep_14 : decode cX2_keep 14 = .ok (.ireturn, 1) := by decide +kernel
theorem e_X2_keep_15 : decode cX2_keep 15 = .ok (.aload_n 0, 1) ∧ 15 + 1 = 16 := by decide +kernel
theorem e_X2_keep_16 : decode cX2_keep 16 = .ok (.getfield 37, 3) ∧ 16 + 3 = 19 := by decide +kernel
theorem e_X2_keep_19 : decode cX2_keep 19 = .ok (.iload_n 1, 1) ∧ 19 + 1 = 20 := by decide +kernel
theorem e_X2_keep_20 : decode cX2_keep 20 = .ok (.aaload, 1) ∧ 20 + 1 = 21 := by decide +kernel
theorem e_X2_keep_21 : decode cX2_keep 21 = .ok (.astore_n 2, 1) ∧ 21 + 1 = 22 := by decide +kernel
theorem e_X2_keep_22 : decode cX2_keep 22 = .ok (.aload_n 2, 1) ∧ 22 + 1 = 23 := by decide +kernel
theorem e_X2_keep_23 : decode cX2_keep 23 = .ok (.ifnull 11, 3) ∧ 23 + 3 = 26 ∧ ((23 : Nat) : Int) + (11) = ((34 : Nat) : Int) := by decide +kernel
theorem e_X2_keep_26 : decode cX2_keep 26 = .ok (.aload_n 2, 1) ∧ 26 + 1 = 27 := by decide +kernel
theorem e_X2_keep_27 : decode cX2_keep 27 = .ok (.aload_n 0, 1) ∧ 27 + 1 = 28 := by decide +kernel
theorem e_X2_keep_28 : decode cX2_keep 28 = .ok (.getfield 23, 3) ∧ 28 + 3 = 31 := by decide +kernel
theorem e_X2_keep_31 : decode cX2_keep 31 = .ok (.invokevirtual 61, 3) ∧ 31 + 3 = 34 := by decide +kernel
theorem e_X2_keep_34 : decode cX2_keep 34 = .ok (.aload_n 0, 1) ∧ 34 + 1 = 35 := by decide +kernel
theorem e_X2_keep_35 : decode cX2_keep 35 = .ok (.dup, 1) ∧ 35 + 1 = 36 := by decide +kernel
theorem e_X2_keep_36 : decode cX2_keep 36 = .ok (.getfield 68, 3) ∧ 36 + 3 = 39 := by decide +kernel
theorem e_X2_keep_39 : decode cX2_keep 39 = .ok (.iconst 1, 1) ∧ 39 + 1 = 40 := by decide +kernel
theorem e_X2_keep_40 : decode cX2_keep 40 = .ok (.iload_n 1, 1) ∧ 40 + 1 = 41 := by decide +kernel
theorem e_X2_keep_41 : decode cX2_keep 41 = .ok (.ishl, 1) ∧ 41 + 1 = 42 := by decide +kernel
theorem e_X2_keep_42 : decode cX2_keep 42 = .ok (.ior, 1) ∧ 42 + 1 = 43 := by decide +kernel
theorem e_X2_keep_43 : decode cX2_keep 43 = .ok (.putfield 68, 3) ∧ 43 + 3 = 46 := by decide +kernel
theorem e_X2_keep_46 : decode cX2_keep 46 = .ok (.aload_n 0, 1) ∧ 46 + 1 = 47 := by decide +kernel
theorem e_X2_keep_47 : decode cX2_keep 47 = .ok (.getfield 23, 3) ∧ 47 + 3 = 50 := by decide +kernel
theorem e_X2_keep_50 : decode cX2_keep 50 = .ok (.getfield 77, 3) ∧ 50 + 3 = 53 := by decide +kernel
theorem e_X2_keep_53 : decode cX2_keep 53 = .ok (.ireturn, 1) := by decide +kernel
theorem e_X2_again_0 : decode cX2_again 0 = .ok (.iload_n 1, 1) ∧ 0 + 1 = 1 := by decide +kernel
theorem e_X2_again_1 : decode cX2_again 1 = .ok (.ifCond .lt 12, 3) ∧ 1 + 3 = 4 ∧ ((1 : Nat) : Int) + (12) = ((13 : Nat) : Int) := by decide +kernel
theorem e_X2_again_4 : decode cX2_again 4 = .ok (.iload_n 1, 1) ∧ 4 + 1 = 5 := by decide +kernel
theorem e_X2_again_5 : decode cX2_again 5 = .ok (.aload_n 0, 1) ∧ 5 + 1 = 6 := by decide +kernel
theorem e_X2_again_6 : decode cX2_again 6 = .ok (.getfield 37, 3) ∧ 6 + 3 = 9 := by decide +kernel
theorem e_X2_again_9 : decode cX2_again 9 = .ok (.arraylength, 1) ∧ 9 + 1 = 10 := by decide +kernel
theorem e_X2_again_10 : decode cX2_again 10 = .ok (.if_icmp .lt 5, 3) ∧ 10 + 3 = 13 ∧ ((10 : Nat) : Int) + (5) = ((15 : Nat) : Int) := by decide +kernel
theorem e_X2_again_13 : decode cX2_again 13 = .ok (.iconst (-1), 1) ∧ 13 + 1 = 14 := by decide +kernel
theorem e_X2_again_14 : decode cX2_again 14 = .ok (.ireturn, 1) := by decide +kernel
theorem e_X2_again_15 : decode cX2_again 15 = .ok (.aload_n 0, 1) ∧ 15 + 1 = 16 := by decide +kernel
theorem e_X2_again_16 : decode cX2_again 16 = .ok (.getfield 68, 3) ∧ 16 + 3 = 19 := by decide +kernel
theorem e_X2_again_19 : decode cX2_again 19 = .ok (.iload_n 1, 1) ∧ 19 + 1 = 20 := by decide +kernel
theorem e_X2_again_20 : decode cX2_again 20 = .ok (.invokestatic 152, 3) ∧ 20 + 3 = 23 := by decide +kernel
theorem e_X2_again_23 : decode cX2_again 23 = .ok (.ifCond .ne 6, 3) ∧ 23 + 3 = 26 ∧ ((23 : Nat) : Int) + (6) = ((29 : Nat) : Int) := by decide +kernel
theorem e_X2_again_26 : decode cX2_again 26 = .ok (.bipush (-3), 2) ∧ 26 + 2 = 28 := by decide +kernel
theorem e_X2_again_28 : decode cX2_again 28 = .ok (.ireturn, 1) := by decide +kernel
theorem e_X2_again_29 : decode cX2_again 29 = .ok (.aload_n 0, 1) ∧ 29 + 1 = 30 := by decide +kernel
theorem e_X2_again_30 : decode cX2_again 30 = .ok (.getfield 23, 3) ∧ 30 + 3 = 33 := by decide +kernel
theorem e_X2_again_33 : decode cX2_again 33 = .ok (.aload_n 0, 1) ∧ 33 + 1 = 34 := by decide +kernel
theorem e_X2_again_34 : decode cX2_again 34 = .ok (.getfield 37, 3) ∧ 34 + 3 = 37 := by decide +kernel
theorem e_X2_again_37 : decode cX2_again 37 = .ok (.iload_n 1, 1) ∧ 37 + 1 = 38 := by decide +kernel
theorem e_X2_again_38 : decode cX2_again 38 = .ok (.aaload, 1) ∧ 38 + 1 = 39 := by decide +kernel
theorem e_X2_again_39 : decode cX2_again 39 = .ok (.invokevirtual 61, 3) ∧ 39 + 3 = 42 := by decide +kernel
theorem e_X2_again_42 : decode cX2_again 42 = .ok (.aload_n 0, 1) ∧ 42 + 1 = 43 := by decide +kernel
theorem e_X2_again_43 : decode cX2_again 43 = .ok (.iconst 0, 1) ∧ 43 + 1 = 44 := by decide +kernel
theorem e_X2_again_44 : decode cX2_again 44 = .ok (.putfield 65, 3) ∧ 44 + 3 = 47 := by decide +kernel
theorem e_X2_again_47 : decode cX2_again 47 = .ok (.aload_n 0, 1) ∧ 47 + 1 = 48 := by decide +kernel
theorem e_X2_again_48 : decode cX2_again 48 = .ok (.getfield 23, 3) ∧ 48 + 3 = 51 := by decide +kernel
theorem e_X2_again_51 : decode cX2_again 51 = .ok (.getfield 77, 3) ∧ 51 + 3 = 54 := by decide +kernel
theorem e_X2_again_54 : decode cX2_again 54 = .ok (.ireturn, 1) := by decide +kernel
theorem e_X2_isCell_0 : decode cX2_isCell 0 = .ok (.iload_n 0, 1) ∧ 0 + 1 = 1 := by decide +kernel
theorem e_X2_isCell_1 : decode cX2_isCell 1 = .ok (.ifCond .lt 13, 3) ∧ 1 + 3 = 4 ∧ ((1 : Nat) : Int) + (13) = ((14 : Nat) : Int) := by decide +kernel
theorem e_X2_isCell_4 : decode cX2_isCell 4 = .ok (.iload_n 0, 1) ∧ 4 + 1 = 5 := by decide +kernel
theorem e_X2_isCell_5 : decode cX2_isCell 5 = .ok (.bipush 12, 2) ∧ 5 + 2 = 7 := by decide +kernel
theorem e_X2_isCell_7 : decode cX2_isCell 7 = .ok (.if_icmp .ge 7, 3) ∧ 7 + 3 = 10 ∧ ((7 : Nat) : Int) + (7) = ((14 : Nat) : Int) := by decide +kernel
theorem e_X2_isCell_10 : decode cX2_isCell 10 = .ok (.iconst 1, 1) ∧ 10 + 1 = 11 := by decide +kernel
theorem e_X2_isCell_11 : decode cX2_isCell 11 = .ok (.goto 4, 3) ∧ 11 + 3 = 14 ∧ ((11 : Nat) : Int) + (4) = ((15 : Nat) : Int) := by decide +kernel
theorem e_X2_isCell_14 : decode cX2_isCell 14 = .ok (.iconst 0, 1) ∧ 14 + 1 = 15 := by decide +kernel
theorem e_X2_isCell_15 : decode cX2_isCell 15 = .ok (.ireturn, 1) := by decide +kernel
theorem e_X2_has_0 : decode cX2_has 0 = .ok (.iload_n 0, 1) ∧ 0 + 1 = 1 := by decide +kernel
theorem e_X2_has_1 : decode cX2_has 1 = .ok (.iload_n 1, 1) ∧ 1 + 1 = 2 := by decide +kernel
theorem e_X2_has_2 : decode cX2_has 2 = .ok (.ishr, 1) ∧ 2 + 1 = 3 := by decide +kernel
theorem e_X2_has_3 : decode cX2_has 3 = .ok (.iconst 1, 1) ∧ 3 + 1 = 4 := by decide +kernel
theorem e_X2_has_4 : decode cX2_has 4 = .ok (.iand, 1) ∧ 4 + 1 = 5 := by decide +kernel
theorem e_X2_has_5 : decode cX2_has 5 = .ok (.ifCond .eq 7, 3) ∧ 5 + 3 = 8 ∧ ((5 : Nat) : Int) + (7) = ((12 : Nat) : Int) := by decide +kernel
theorem e_X2_has_8 : decode cX2_has 8 = .ok (.iconst 1, 1) ∧ 8 + 1 = 9 := by decide +kernel
theorem e_X2_has_9 : decode cX2_has 9 = .ok (.goto 4, 3) ∧ 9 + 3 = 12 ∧ ((9 : Nat) : Int) + (4) = ((13 : Nat) : Int) := by decide +kernel
theorem e_X2_has_12 : decode cX2_has 12 = .ok (.iconst 0, 1) ∧ 12 + 1 = 13 := by decide +kernel
theorem e_X2_has_13 : decode cX2_has 13 = .ok (.ireturn, 1) := by decide +kernel
theorem e_X2_at_0 : decode cX2_at 0 = .ok (.iload_n 1, 1) ∧ 0 + 1 = 1 := by decide +kernel
theorem e_X2_at_1 : decode cX2_at 1 = .ok (.ifCond .lt 15, 3) ∧ 1 + 3 = 4 ∧ ((1 : Nat) : Int) + (15) = ((16 : Nat) : Int) := by decide +kernel
theorem e_X2_at_4 : decode cX2_at 4 = .ok (.iload_n 1, 1) ∧ 4 + 1 = 5 := by decide +kernel
theorem e_X2_at_5 : decode cX2_at 5 = .ok (.aload_n 0, 1) ∧ 5 + 1 = 6 := by decide +kernel
theorem e_X2_at_6 : decode cX2_at 6 = .ok (.arraylength, 1) ∧ 6 + 1 = 7 := by decide +kernel
theorem e_X2_at_7 : decode cX2_at 7 = .ok (.if_icmp .ge 9, 3) ∧ 7 + 3 = 10 ∧ ((7 : Nat) : Int) + (9) = ((16 : Nat) : Int) := by decide +kernel
theorem e_X2_at_10 : decode cX2_at 10 = .ok (.aload_n 0, 1) ∧ 10 + 1 = 11 := by decide +kernel
theorem e_X2_at_11 : decode cX2_at 11 = .ok (.iload_n 1, 1) ∧ 11 + 1 = 12 := by decide +kernel
theorem e_X2_at_12 : decode cX2_at 12 = .ok (.iaload, 1) ∧ 12 + 1 = 13 := by decide +kernel
theorem e_X2_at_13 : decode cX2_at 13 = .ok (.goto 4, 3) ∧ 13 + 3 = 16 ∧ ((13 : Nat) : Int) + (4) = ((17 : Nat) : Int) := by decide +kernel
theorem e_X2_at_16 : decode cX2_at 16 = .ok (.iconst 0, 1) ∧ 16 + 1 = 17 := by decide +kernel
theorem e_X2_at_17 : decode cX2_at 17 = .ok (.ireturn, 1) := by decide +kernel
theorem e_X2_put_0 : decode cX2_put 0 = .ok (.iload_n 1, 1) ∧ 0 + 1 = 1 := by decide +kernel
theorem e_X2_put_1 : decode cX2_put 1 = .ok (.ifCond .lt 13, 3) ∧ 1 + 3 = 4 ∧ ((1 : Nat) : Int) + (13) = ((14 : Nat) : Int) := by decide +kernel
theorem e_X2_put_4 : decode cX2_put 4 = .ok (.iload_n 1, 1) ∧ 4 + 1 = 5 := by decide +kernel
theorem e_X2_put_5 : decode cX2_put 5 = .ok (.aload_n 0, 1) ∧ 5 + 1 = 6 := by decide +kernel
theorem e_X2_put_6 : decode cX2_put 6 = .ok (.arraylength, 1) ∧ 6 + 1 = 7 := by decide +kernel
theorem e_X2_put_7 : decode cX2_put 7 = .ok (.if_icmp .ge 7, 3) ∧ 7 + 3 = 10 ∧ ((7 : Nat) : Int) + (7) = ((14 : Nat) : Int) := by decide +kernel
theorem e_X2_put_10 : decode cX2_put 10 = .ok (.aload_n 0, 1) ∧ 10 + 1 = 11 := by decide +kernel
theorem e_X2_put_11 : decode cX2_put 11 = .ok (.iload_n 1, 1) ∧ 11 + 1 = 12 := by decide +kernel
theorem e_X2_put_12 : decode cX2_put 12 = .ok (.iload_n 2, 1) ∧ 12 + 1 = 13 := by decide +kernel
theorem e_X2_put_13 : decode cX2_put 13 = .ok (.iastore, 1) ∧ 13 + 1 = 14 := by decide +kernel
theorem e_X2_put_14 : decode cX2_put 14 = .ok (.return_, 1) := by decide +kernel
theorem e_X2_readText_0 : decode cX2_readText 0 = .ok (.aload_n 0, 1) ∧ 0 + 1 = 1 := by decide +kernel
theorem e_X2_readText_1 : decode cX2_readText 1 = .ok (.getfield 16, 3) ∧ 1 + 3 = 4 := by decide +kernel
theorem e_X2_readText_4 : decode cX2_readText 4 = .ok (.invokevirtual 205, 3) ∧ 4 + 3 = 7 := by decide +kernel
theorem e_X2_readText_7 : decode cX2_readText 7 = .ok (.iconst 0, 1) ∧ 7 + 1 = 8 := by decide +kernel
theorem e_X2_readText_8 : decode cX2_readText 8 = .ok (.istore_n 1, 1) ∧ 8 + 1 = 9 := by decide +kernel
theorem e_X2_readText_9 : decode cX2_readText 9 = .ok (.iload_n 1, 1) ∧ 9 + 1 = 10 := by decide +kernel
theorem e_X2_readText_10 : decode cX2_readText 10 = .ok (.aload_n 0, 1) ∧ 10 + 1 = 11 := by decide +kernel
theorem e_X2_readText_11 : decode cX2_readText 11 = .ok (.getfield 46, 3) ∧ 11 + 3 = 14 := by decide +kernel
theorem e_X2_readText_14 : decode cX2_readText 14 = .ok (.if_icmp .ge 29, 3) ∧ 14 + 3 = 17 ∧ ((14 : Nat) : Int) + (29) = ((43 : Nat) : Int) := by decide +kernel
theorem e_X2_readText_17 : decode cX2_readText 17 = .ok (.aload_n 0, 1) ∧ 17 + 1 = 18 := by decide +kernel
theorem e_X2_readText_18 : decode cX2_readText 18 = .ok (.getfield 16, 3) ∧ 18 + 3 = 21 := by decide +kernel
theorem e_X2_readText_21 : decode cX2_readText 21 = .ok (.aload_n 0, 1) ∧ 21 + 1 = 22 := by decide +kernel
theorem e_X2_readText_22 : decode cX2_readText 22 = .ok (.getfield 9, 3) ∧ 22 + 3 = 25 := by decide +kernel
theorem e_X2_readText_25 : decode cX2_readText 25 = .ok (.iload_n 1, 1) ∧ 25 + 1 = 26 := by decide +kernel
theorem e_X2_readText_26 : decode cX2_readText 26 = .ok (.invokestatic 102, 3) ∧ 26 + 3 = 29 := by decide +kernel
theorem e_X2_readText_29 : decode cX2_readText 29 = .ok (.invokevirtual 208, 3) ∧ 29 + 3 = 32 := by decide +kernel
theorem e_X2_readText_32 : decode cX2_readText 32 = .ok (.ifCond .ne 5, 3) ∧ 32 + 3 = 35 ∧ ((32 : Nat) : Int) + (5) = ((37 : Nat) : Int) := by decide +kernel
theorem e_X2_readText_35 : decode cX2_readText 35 = .ok (.iload_n 1, 1) ∧ 35 + 1 = 36 := by decide +kernel
theorem e_X2_readText_36 : decode cX2_readText 36 = .ok (.ireturn, 1) := by decide +kernel
theorem e_X2_readText_37 : decode cX2_readText 37 = .ok (.iinc 1 1, 3) ∧ 37 + 3 = 40 := by decide +kernel
theorem e_X2_readText_40 : decode cX2_readText 40 = .ok (.goto (-31), 3) ∧ 40 + 3 = 43 ∧ ((40 : Nat) : Int) + (-31) = ((9 : Nat) : Int) := by decide +kernel
theorem e_X2_readText_43 : decode cX2_readText 43 = .ok (.aload_n 0, 1) ∧ 43 + 1 = 44 := by decide +kernel
theorem e_X2_readText_44 : decode cX2_readText 44 = .ok (.getfield 16, 3) ∧ 44 + 3 = 47 := by decide +kernel
theorem e_X2_readText_47 : decode cX2_readText 47 = .ok (.invokevirtual 211, 3) ∧ 47 + 3 = 50 := by decide +kernel
theorem e_X2_readText_50 : decode cX2_readText 50 = .ok (.ifCond .eq 8, 3) ∧ 50 + 3 = 53 ∧ ((50 : Nat) : Int) + (8) = ((58 : Nat) : Int) := by decide +kernel
theorem e_X2_readText_53 : decode cX2_readText 53 = .ok (.bipush (-9), 2) ∧ 53 + 2 = 55 := by decide +kernel
theorem e_X2_readText_55 : decode cX2_readText 55 = .ok (.goto 7, 3) ∧ 55 + 3 = 58 ∧ ((55 : Nat) : Int) + (7) = ((62 : Nat) : Int) := by decide +kernel
theorem e_X2_readText_58 : decode cX2_readText 58 = .ok (.aload_n 0, 1) ∧ 58 + 1 = 59 := by decide +kernel
theorem e_X2_readText_59 : decode cX2_readText 59 = .ok (.getfield 46, 3) ∧ 59 + 3 = 62 := by decide +kernel
theorem e_X2_readText_62 : decode cX2_readText 62 = .ok (.ireturn, 1) := by decide +kernel
theorem e_X2_remember_0 : decode cX2_remember 0 = .ok (.aload_n 0, 1) ∧ 0 + 1 = 1 := by decide +kernel
theorem e_X2_remember_1 : decode cX2_remember 1 = .ok (.getfield 65, 3) ∧ 1 + 3 = 4 := by decide +kernel
theorem e_X2_remember_4 : decode cX2_remember 4 = .ok (.aload_n 0, 1) ∧ 4 + 1 = 5 := by decide +kernel
theorem e_X2_remember_5 : decode cX2_remember 5 = .ok (.getfield 33, 3) ∧ 5 + 3 = 8 := by decide +kernel
theorem e_X2_remember_8 : decode cX2_remember 8 = .ok (.arraylength, 1) ∧ 8 + 1 = 9 := by decide +kernel
theorem e_X2_remember_9 : decode cX2_remember 9 = .ok (.if_icmp .lt 60, 3) ∧ 9 + 3 = 12 ∧ ((9 : Nat) : Int) + (60) = ((69 : Nat) : Int) := by decide +kernel
theorem e_X2_remember_12 : decode cX2_remember 12 = .ok (.iconst 1, 1) ∧ 12 + 1 = 13 := by decide +kernel
theorem e_X2_remember_13 : decode cX2_remember 13 = .ok (.istore_n 1, 1) ∧ 13 + 1 = 14 := by decide +kernel
theorem e_X2_remember_14 : decode cX2_remember 14 = .ok (.iload_n 1, 1) ∧ 14 + 1 = 15 := by decide +kernel
theorem e_X2_remember_15 : decode cX2_remember 15 = .ok (.aload_n 0, 1) ∧ 15 + 1 = 16 := by decide +kernel
theorem e_X2_remember_16 : decode cX2_remember 16 = .ok (.getfield 33, 3) ∧ 16 + 3 = 19 := by decide +kernel
theorem e_X2_remember_19 : decode cX2_remember 19 = .ok (.arraylength, 1) ∧ 19 + 1 = 20 := by decide +kernel
theorem e_X2_remember_20 : decode cX2_remember 20 = .ok (.if_icmp .ge 39, 3) ∧ 20 + 3 = 23 ∧ ((20 : Nat) : Int) + (39) = ((59 : Nat) : Int) := by decide +kernel
theorem e_X2_remember_23 : decode cX2_remember 23 = .ok (.aload_n 0, 1) ∧ 23 + 1 = 24 := by decide +kernel
theorem e_X2_remember_24 : decode cX2_remember 24 = .ok (.getfield 33, 3) ∧ 24 + 3 = 27 := by decide +kernel
theorem e_X2_remember_27 : decode cX2_remember 27 = .ok (.iload_n 1, 1) ∧ 27 + 1 = 28 := by decide +kernel
theorem e_X2_remember_28 : decode cX2_remember 28 = .ok (.iconst 1, 1) ∧ 28 + 1 = 29 := by decide +kernel
theorem e_X2_remember_29 : decode cX2_remember 29 = .ok (.isub, 1) ∧ 29 + 1 = 30 := by decide +kernel
theorem e_X2_remember_30 : decode cX2_remember 30 = .ok (.aaload, 1) ∧ 30 + 1 = 31 := by decide +kernel
theorem e_X2_remember_31 : decode cX2_remember 31 = .ok (.astore_n 2, 1) ∧ 31 + 1 = 32 := by decide +kernel
theorem e_X2_remember_32 : decode cX2_remember 32 = .ok (.aload_n 0, 1) ∧ 32 + 1 = 33 := by decide +kernel
theorem e_X2_remember_33 : decode cX2_remember 33 = .ok (.getfield 33, 3) ∧ 33 + 3 = 36 := by decide +kernel
theorem e_X2_remember_36 : decode cX2_remember 36 = .ok (.iload_n 1, 1) ∧ 36 + 1 = 37 := by decide +kernel
theorem e_X2_remember_37 : decode cX2_remember 37 = .ok (.iconst 1, 1) ∧ 37 + 1 = 38 := by decide +kernel
theorem e_X2_remember_38 : decode cX2_remember 38 = .ok (.isub, 1) ∧ 38 + 1 = 39 := by decide +kernel
theorem e_X2_remember_39 : decode cX2_remember 39 = .ok (.aload_n 0, 1) ∧ 39 + 1 = 40 := by decide +kernel
theorem e_X2_remember_40 : decode cX2_remember 40 = .ok (.getfield 33, 3) ∧ 40 + 3 = 43 := by decide +kernel
theorem e_X2_remember_43 : decode cX2_remember 43 = .ok (.iload_n 1, 1) ∧ 43 + 1 = 44 := by decide +kernel
theorem e_X2_remember_44 : decode cX2_remember 44 = .ok (.aaload, 1) ∧ 44 + 1 = 45 := by decide +kernel
theorem e_X2_remember_45 : decode cX2_remember 45 = .ok (.aastore, 1) ∧ 45 + 1 = 46 := by decide +kernel
theorem e_X2_remember_46 : decode cX2_remember 46 = .ok (.aload_n 0, 1) ∧ 46 + 1 = 47 := by decide +kernel
theorem e_X2_remember_47 : decode cX2_remember 47 = .ok (.getfield 33, 3) ∧ 47 + 3 = 50 := by decide +kernel
theorem e_X2_remember_50 : decode cX2_remember 50 = .ok (.iload_n 1, 1) ∧ 50 + 1 = 51 := by decide +kernel
theorem e_X2_remember_51 : decode cX2_remember 51 = .ok (.aload_n 2, 1) ∧ 51 + 1 = 52 := by decide +kernel
theorem e_X2_remember_52 : decode cX2_remember 52 = .ok (.aastore, 1) ∧ 52 + 1 = 53 := by decide +kernel
theorem e_X2_remember_53 : decode cX2_remember 53 = .ok (.iinc 1 1, 3) ∧ 53 + 3 = 56 := by decide +kernel
theorem e_X2_remember_56 : decode cX2_remember 56 = .ok (.goto (-42), 3) ∧ 56 + 3 = 59 ∧ ((56 : Nat) : Int) + (-42) = ((14 : Nat) : Int) := by decide +kernel
theorem e_X2_remember_59 : decode cX2_remember 59 = .ok (.aload_n 0, 1) ∧ 59 + 1 = 60 := by decide +kernel
theorem e_X2_remember_60 : decode cX2_remember 60 = .ok (.dup, 1) ∧ 60 + 1 = 61 := by decide +kernel
theorem e_X2_remember_61 : decode cX2_remember 61 = .ok (.getfield 65, 3) ∧ 61 + 3 = 64 := by decide +kernel
theorem e_X2_remember_64 : decode cX2_remember 64 = .ok (.iconst 1, 1) ∧ 64 + 1 = 65 := by decide +kernel
theorem e_X2_remember_65 : decode cX2_remember 65 = .ok (.isub, 1) ∧ 65 + 1 = 66 := by decide +kernel
theorem e_X2_remember_66 : decode cX2_remember 66 = .ok (.putfield 65, 3) ∧ 66 + 3 = 69 := by decide +kernel
theorem e_X2_remember_69 : decode cX2_remember 69 = .ok (.aload_n 0, 1) ∧ 69 + 1 = 70 := by decide +kernel
theorem e_X2_remember_70 : decode cX2_remember 70 = .ok (.getfield 65, 3) ∧ 70 + 3 = 73 := by decide +kernel
theorem e_X2_remember_73 : decode cX2_remember 73 = .ok (.ifCond .lt 47, 3) ∧ 73 + 3 = 76 ∧ ((73 : Nat) : Int) + (47) = ((120 : Nat) : Int) := by decide +kernel
theorem e_X2_remember_76 : decode cX2_remember 76 = .ok (.aload_n 0, 1) ∧ 76 + 1 = 77 := by decide +kernel
theorem e_X2_remember_77 : decode cX2_remember 77 = .ok (.getfield 65, 3) ∧ 77 + 3 = 80 := by decide +kernel
theorem e_X2_remember_80 : decode cX2_remember 80 = .ok (.aload_n 0, 1) ∧ 80 + 1 = 81 := by decide +kernel
theorem e_X2_remember_81 : decode cX2_remember 81 = .ok (.getfield 33, 3) ∧ 81 + 3 = 84 := by decide +kernel
theorem e_X2_remember_84 : decode cX2_remember 84 = .ok (.arraylength, 1) ∧ 84 + 1 = 85 := by decide +kernel
theorem e_X2_remember_85 : decode cX2_remember 85 = .ok (.if_icmp .ge 35, 3) ∧ 85 + 3 = 88 ∧ ((85 : Nat) : Int) + (35) = ((120 : Nat) : Int) := by decide +kernel
theorem e_X2_remember_88 : decode cX2_remember 88 = .ok (.aload_n 0, 1) ∧ 88 + 1 = 89 := by decide +kernel
theorem e_X2_remember_89 : decode cX2_remember 89 = .ok (.getfield 33, 3) ∧ 89 + 3 = 92 := by decide +kernel
theorem e_X2_remember_92 : decode cX2_remember 92 = .ok (.aload_n 0, 1) ∧ 92 + 1 = 93 := by decide +kernel
theorem e_X2_remember_93 : decode cX2_remember 93 = .ok (.getfield 65, 3) ∧ 93 + 3 = 96 := by decide +kernel
theorem e_X2_remember_96 : decode cX2_remember 96 = .ok (.aaload, 1) ∧ 96 + 1 = 97 := by decide +kernel
theorem e_X2_remember_97 : decode cX2_remember 97 = .ok (.astore_n 1, 1) ∧ 97 + 1 = 98 := by decide +kernel
theorem e_X2_remember_98 : decode cX2_remember 98 = .ok (.aload_n 1, 1) ∧ 98 + 1 = 99 := by decide +kernel
theorem e_X2_remember_99 : decode cX2_remember 99 = .ok (.ifnull 11, 3) ∧ 99 + 3 = 102 ∧ ((99 : Nat) : Int) + (11) = ((110 : Nat) : Int) := by decide +kernel
theorem e_X2_remember_102 : decode cX2_remember 102 = .ok (.aload_n 1, 1) ∧ 102 + 1 = 103 := by decide +kernel
theorem e_X2_remember_103 : decode cX2_remember 103 = .ok (.aload_n 0, 1) ∧ 103 + 1 = 104 := by decide +kernel
theorem e_X2_remember_104 : decode cX2_remember 104 = .ok (.getfield 23, 3) ∧ 104 + 3 = 107 := by decide +kernel
theorem e_X2_remember_107 : decode cX2_remember 107 = .ok (.invokevirtual 61, 3) ∧ 107 + 3 = 110 := by decide +kernel
theorem e_X2_remember_110 : decode cX2_remember 110 = .ok (.aload_n 0, 1) ∧ 110 + 1 = 111 := by decide +kernel
theorem e_X2_remember_111 : decode cX2_remember 111 = .ok (.dup, 1) ∧ 111 + 1 = 112 := by decide +kernel
theorem e_X2_remember_112 : decode cX2_remember 112 = .ok (.getfield 65, 3) ∧ 112 + 3 = 115 := by decide +kernel
theorem e_X2_remember_115 : decode cX2_remember 115 = .ok (.iconst 1, 1) ∧ 115 + 1 = 116 := by decide +kernel
theorem e_X2_remember_116 : decode cX2_remember 116 = .ok (.iadd, 1) ∧ 116 + 1 = 117 := by decide +kernel
theorem e_X2_remember_117 : decode cX2_remember 117 = .ok (.putfield 65, 3) ∧ 117 + 3 = 120 := by decide +kernel
theorem e_X2_remember_120 : decode cX2_remember 120 = .ok (.return_, 1) := by decide +kernel
theorem e_X2_breakOf_0 : decode cX2_breakOf 0 = .ok (.aload_n 0, 1) ∧ 0 + 1 = 1 := by decide +kernel
theorem e_X2_breakOf_1 : decode cX2_breakOf 1 = .ok (.getfield 27, 3) ∧ 1 + 3 = 4 := by decide +kernel
theorem e_X2_breakOf_4 : decode cX2_breakOf 4 = .ok (.aload_n 0, 1) ∧ 4 + 1 = 5 := by decide +kernel
theorem e_X2_breakOf_5 : decode cX2_breakOf 5 = .ok (.getfield 23, 3) ∧ 5 + 3 = 8 := by decide +kernel
theorem e_X2_breakOf_8 : decode cX2_breakOf 8 = .ok (.invokevirtual 61, 3) ∧ 8 + 3 = 11 := by decide +kernel
theorem e_X2_breakOf_11 : decode cX2_breakOf 11 = .ok (.iconst 0, 1) ∧ 11 + 1 = 12 := by decide +kernel
theorem e_X2_breakOf_12 : decode cX2_breakOf 12 = .ok (.istore_n 2, 1) ∧ 12 + 1 = 13 := by decide +kernel
theorem e_X2_breakOf_13 : decode cX2_breakOf 13 = .ok (.iload_n 2, 1) ∧ 13 + 1 = 14 := by decide +kernel
theorem e_X2_breakOf_14 : decode cX2_breakOf 14 = .ok (.iload_n 1, 1) ∧ 14 + 1 = 15 := by decide +kernel
theorem e_X2_breakOf_15 : decode cX2_breakOf 15 = .ok (.if_icmp .ge 59, 3) ∧ 15 + 3 = 18 ∧ ((15 : Nat) : Int) + (59) = ((74 : Nat) : Int) := by decide +kernel
theorem e_X2_breakOf_18 : decode cX2_breakOf 18 = .ok (.aload_n 0, 1) ∧ 18 + 1 = 19 := by decide +kernel
theorem e_X2_breakOf_19 : decode cX2_breakOf 19 = .ok (.getfield 30, 3) ∧ 19 + 3 = 22 := by decide +kernel
theorem e_X2_breakOf_22 : decode cX2_breakOf 22 = .ok (.iload_n 2, 1) ∧ 22 + 1 = 23 := by decide +kernel
theorem e_X2_breakOf_23 : decode cX2_breakOf 23 = .ok (.invokestatic 102, 3) ∧ 23 + 3 = 26 := by decide +kernel
theorem e_X2_breakOf_26 : decode cX2_breakOf 26 = .ok (.istore_n 3, 1) ∧ 26 + 1 = 27 := by decide +kernel
theorem e_X2_breakOf_27 : decode cX2_breakOf 27 = .ok (.aload_n 0, 1) ∧ 27 + 1 = 28 := by decide +kernel
theorem e_X2_breakOf_28 : decode cX2_breakOf 28 = .ok (.getfield 27, 3) ∧ 28 + 3 = 31 := by decide +kernel
theorem e_X2_breakOf_31 : decode cX2_breakOf 31 = .ok (.iload_n 3, 1) ∧ 31 + 1 = 32 := by decide +kernel
theorem e_X2_breakOf_32 : decode cX2_breakOf 32 = .ok (.invokevirtual 134, 3) ∧ 32 + 3 = 35 := by decide +kernel
theorem e_X2_breakOf_35 : decode cX2_breakOf 35 = .ok (.ifCond .ne 5, 3) ∧ 35 + 3 = 38 ∧ ((35 : Nat) : Int) + (5) = ((40 : Nat) : Int) := by decide +kernel
theorem e_X2_breakOf_38 : decode cX2_breakOf 38 = .ok (.iload_n 2, 1) ∧ 38 + 1 = 39 := by decide +kernel
theorem e_X2_breakOf_39 : decode cX2_breakOf 39 = .ok (.ireturn, 1) := by decide +kernel
theorem e_X2_breakOf_40 : decode cX2_breakOf 40 = .ok (.aload_n 0, 1) ∧ 40 + 1 = 41 := by decide +kernel
theorem e_X2_breakOf_41 : decode cX2_breakOf 41 = .ok (.getfield 27, 3) ∧ 41 + 3 = 44 := by decide +kernel
theorem e_X2_breakOf_44 : decode cX2_breakOf 44 = .ok (.iload_n 3, 1) ∧ 44 + 1 = 45 := by decide +kernel
theorem e_X2_breakOf_45 : decode cX2_breakOf 45 = .ok (.invokevirtual 140, 3) ∧ 45 + 3 = 48 := by decide +kernel
theorem e_X2_breakOf_48 : decode cX2_breakOf 48 = .ok (.pop, 1) ∧ 48 + 1 = 49 := by decide +kernel
theorem e_X2_breakOf_49 : decode cX2_breakOf 49 = .ok (.aload_n 0, 1) ∧ 49 + 1 = 50 := by decide +kernel
theorem e_X2_breakOf_50 : decode cX2_breakOf 50 = .ok (.getfield 27, 3) ∧ 50 + 3 = 53 := by decide +kernel
theorem e_X2_breakOf_53 : decode cX2_breakOf 53 = .ok (.getfield 86, 3) ∧ 53 + 3 = 56 := by decide +kernel
theorem e_X2_breakOf_56 : decode cX2_breakOf 56 = .ok (.aload_n 0, 1) ∧ 56 + 1 = 57 := by decide +kernel
theorem e_X2_breakOf_57 : decode cX2_breakOf 57 = .ok (.getfield 23, 3) ∧ 57 + 3 = 60 := by decide +kernel
theorem e_X2_breakOf_60 : decode cX2_breakOf 60 = .ok (.getfield 86, 3) ∧ 60 + 3 = 63 := by decide +kernel
theorem e_X2_breakOf_63 : decode cX2_breakOf 63 = .ok (.if_icmp .eq 5, 3) ∧ 63 + 3 = 66 ∧ ((63 : Nat) : Int) + (5) = ((68 : Nat) : Int) := by decide +kernel
theorem e_X2_breakOf_66 : decode cX2_breakOf 66 = .ok (.iload_n 2, 1) ∧ 66 + 1 = 67 := by decide +kernel
theorem e_X2_breakOf_67 : decode cX2_breakOf 67 = .ok (.ireturn, 1) := by decide +kernel
theorem e_X2_breakOf_68 : decode cX2_breakOf 68 = .ok (.iinc 2 1, 3) ∧ 68 + 3 = 71 := by decide +kernel
theorem e_X2_breakOf_71 : decode cX2_breakOf 71 = .ok (.goto (-58), 3) ∧ 71 + 3 = 74 ∧ ((71 : Nat) : Int) + (-58) = ((13 : Nat) : Int) := by decide +kernel
theorem e_X2_breakOf_74 : decode cX2_breakOf 74 = .ok (.bipush (-9), 2) ∧ 74 + 2 = 76 := by decide +kernel
theorem e_X2_breakOf_76 : decode cX2_breakOf 76 = .ok (.ireturn, 1) := by decide +kernel
theorem e_X2_bestCode_0 : decode cX2_bestCode 0 = .ok (.iconst (-1), 1) ∧ 0 + 1 = 1 := by decide +kernel
theorem e_X2_bestCode_1 : decode cX2_bestCode 1 = .ok (.istore_n 2, 1) ∧ 1 + 1 = 2 := by decide +kernel
theorem e_X2_bestCode_2 : decode cX2_bestCode 2 = .ok (.bipush (-9), 2) ∧ 2 + 2 = 4 := by decide +kernel
theorem e_X2_bestCode_4 : decode cX2_bestCode 4 = .ok (.istore_n 3, 1) ∧ 4 + 1 = 5 := by decide +kernel
theorem e_X2_bestCode_5 : decode cX2_bestCode 5 = .ok (.iconst 0, 1) ∧ 5 + 1 = 6 := by decide +kernel
theorem e_X2_bestCode_6 : decode cX2_bestCode 6 = .ok (.istore 4, 2) ∧ 6 + 2 = 8 := by decide +kernel
theorem e_X2_bestCode_8 : decode cX2_bestCode 8 = .ok (.iload 4, 2) ∧ 8 + 2 = 10 := by decide +kernel
theorem e_X2_bestCode_10 : decode cX2_bestCode 10 = .ok (.iconst 1, 1) ∧ 10 + 1 = 11 := by decide +kernel
theorem e_X2_bestCode_11 : decode cX2_bestCode 11 = .ok (.iconst 2, 1) ∧ 11 + 1 = 12 := by decide +kernel
theorem e_X2_bestCode_12 : decode cX2_bestCode 12 = .ok (.iload_n 1, 1) ∧ 12 + 1 = 13 := by decide +kernel
theorem e_X2_bestCode_13 : decode cX2_bestCode 13 = .ok (.imul, 1) ∧ 13 + 1 = 14 := by decide +kernel
theorem e_X2_bestCode_14 : decode cX2_bestCode 14 = .ok (.ishl, 1) ∧ 14 + 1 = 15 := by decide +kernel
theorem e_X2_bestCode_15 : decode cX2_bestCode 15 = .ok (.if_icmp .ge 48, 3) ∧ 15 + 3 = 18 ∧ ((15 : Nat) : Int) + (48) = ((63 : Nat) : Int) := by decide +kernel
theorem e_X2_bestCode_18 : decode cX2_bestCode 18 = .ok (.aload_n 0, 1) ∧ 18 + 1 = 19 := by decide +kernel
theorem e_X2_bestCode_19 : decode cX2_bestCode 19 = .ok (.iload_n 1, 1) ∧ 19 + 1 = 20 := by decide +kernel
theorem e_X2_bestCode_20 : decode cX2_bestCode 20 = .ok (.iload 4, 2) ∧ 20 + 2 = 22 := by decide +kernel
theorem e_X2_bestCode_22 : decode cX2_bestCode 22 = .ok (.invokevirtual 171, 3) ∧ 22 + 3 = 25 := by decide +kernel
theorem e_X2_bestCode_25 : decode cX2_bestCode 25 = .ok (.aload_n 0, 1) ∧ 25 + 1 = 26 := by decide +kernel
theorem e_X2_bestCode_26 : decode cX2_bestCode 26 = .ok (.iload_n 1, 1) ∧ 26 + 1 = 27 := by decide +kernel
theorem e_X2_bestCode_27 : decode cX2_bestCode 27 = .ok (.invokevirtual 165, 3) ∧ 27 + 3 = 30 := by decide +kernel
theorem e_X2_bestCode_30 : decode cX2_bestCode 30 = .ok (.bipush (-9), 2) ∧ 30 + 2 = 32 := by decide +kernel
theorem e_X2_bestCode_32 : decode cX2_bestCode 32 = .ok (.if_icmp .ne 25, 3) ∧ 32 + 3 = 35 ∧ ((32 : Nat) : Int) + (25) = ((57 : Nat) : Int) := by decide +kernel
theorem e_X2_bestCode_35 : decode cX2_bestCode 35 = .ok (.aload_n 0, 1) ∧ 35 + 1 = 36 := by decide +kernel
theorem e_X2_bestCode_36 : decode cX2_bestCode 36 = .ok (.getfield 27, 3) ∧ 36 + 3 = 39 := by decide +kernel
theorem e_X2_bestCode_39 : decode cX2_bestCode 39 = .ok (.getfield 80, 3) ∧ 39 + 3 = 42 := by decide +kernel
theorem e_X2_bestCode_42 : decode cX2_bestCode 42 = .ok (.iload_n 2, 1) ∧ 42 + 1 = 43 := by decide +kernel
theorem e_X2_bestCode_43 : decode cX2_bestCode 43 = .ok (.if_icmp .le 14, 3) ∧ 43 + 3 = 46 ∧ ((43 : Nat) : Int) + (14) = ((57 : Nat) : Int) := by decide +kernel
theorem e_X2_bestCode_46 : decode cX2_bestCode 46 = .ok (.aload_n 0, 1) ∧ 46 + 1 = 47 := by decide +kernel
theorem e_X2_bestCode_47 : decode cX2_bestCode 47 = .ok (.getfield 27, 3) ∧ 47 + 3 = 50 := by decide +kernel
theorem e_X2_bestCode_50 : decode cX2_bestCode 50 = .ok (.getfield 80, 3) ∧ 50 + 3 = 53 := by decide +kernel
theorem e_X2_bestCode_53 : decode cX2_bestCode 53 = .ok (.istore_n 2, 1) ∧ 53 + 1 = 54 := by decide +kernel
theorem e_X2_bestCode_54 : decode cX2_bestCode 54 = .ok (.iload 4, 2) ∧ 54 + 2 = 56 := by decide +kernel
theorem e_X2_bestCode_56 : decode cX2_bestCode 56 = .ok (.istore_n 3, 1) ∧ 56 + 1 = 57 := by decide +kernel
theorem e_X2_bestCode_57 : decode cX2_bestCode 57 = .ok (.iinc 4 1, 3) ∧ 57 + 3 = 60 := by decide +kernel
theorem e_X2_bestCode_60 : decode cX2_bestCode 60 = .ok (.goto (-52), 3) ∧ 60 + 3 = 63 ∧ ((60 : Nat) : Int) + (-52) = ((8 : Nat) : Int) := by decide +kernel
theorem e_X2_bestCode_63 : decode cX2_bestCode 63 = .ok (.iload_n 3, 1) ∧ 63 + 1 = 64 := by decide +kernel
theorem e_X2_bestCode_64 : decode cX2_bestCode 64 = .ok (.ireturn, 1) := by decide +kernel
theorem e_X2_setSong_0 : decode cX2_setSong 0 = .ok (.iconst 0, 1) ∧ 0 + 1 = 1 := by decide +kernel
theorem e_X2_setSong_1 : decode cX2_setSong 1 = .ok (.istore_n 3, 1) ∧ 1 + 1 = 2 := by decide +kernel
theorem e_X2_setSong_2 : decode cX2_setSong 2 = .ok (.iload_n 3, 1) ∧ 2 + 1 = 3 := by decide +kernel
theorem e_X2_setSong_3 : decode cX2_setSong 3 = .ok (.iload_n 1, 1) ∧ 3 + 1 = 4 := by decide +kernel
theorem e_X2_setSong_4 : decode cX2_setSong 4 = .ok (.if_icmp .ge 23, 3) ∧ 4 + 3 = 7 ∧ ((4 : Nat) : Int) + (23) = ((27 : Nat) : Int) := by decide +kernel
theorem e_X2_setSong_7 : decode cX2_setSong 7 = .ok (.aload_n 0, 1) ∧ 7 + 1 = 8 := by decide +kernel
theorem e_X2_setSong_8 : decode cX2_setSong 8 = .ok (.getfield 30, 3) ∧ 8 + 3 = 11 := by decide +kernel
theorem e_X2_setSong_11 : decode cX2_setSong 11 = .ok (.iload_n 3, 1) ∧ 11 + 1 = 12 := by decide +kernel
theorem e_X2_setSong_12 : decode cX2_setSong 12 = .ok (.iload_n 1, 1) ∧ 12 + 1 = 13 := by decide +kernel
theorem e_X2_setSong_13 : decode cX2_setSong 13 = .ok (.iload_n 2, 1) ∧ 13 + 1 = 14 := by decide +kernel
theorem e_X2_setSong_14 : decode cX2_setSong 14 = .ok (.iload_n 3, 1) ∧ 14 + 1 = 15 := by decide +kernel
theorem e_X2_setSong_15 : decode cX2_setSong 15 = .ok (.invokestatic 175, 3) ∧ 15 + 3 = 18 := by decide +kernel
theorem e_X2_setSong_18 : decode cX2_setSong 18 = .ok (.invokestatic 50, 3) ∧ 18 + 3 = 21 := by decide +kernel
theorem e_X2_setSong_21 : decode cX2_setSong 21 = .ok (.iinc 3 1, 3) ∧ 21 + 3 = 24 := by decide +kernel
theorem e_X2_setSong_24 : decode cX2_setSong 24 = .ok (.goto (-22), 3) ∧ 24 + 3 = 27 ∧ ((24 : Nat) : Int) + (-22) = ((2 : Nat) : Int) := by decide +kernel
theorem e_X2_setSong_27 : decode cX2_setSong 27 = .ok (.return_, 1) := by decide +kernel
theorem e_X2_figureOf_0 : decode cX2_figureOf 0 = .ok (.iload_n 1, 1) ∧ 0 + 1 = 1 := by decide +kernel
theorem e_X2_figureOf_1 : decode cX2_figureOf 1 = .ok (.iconst 2, 1) ∧ 1 + 1 = 2 := by decide +kernel
theorem e_X2_figureOf_2 : decode cX2_figureOf 2 = .ok (.iload_n 0, 1) ∧ 2 + 1 = 3 := by decide +kernel
theorem e_X2_figureOf_3 : decode cX2_figureOf 3 = .ok (.iconst 1, 1) ∧ 3 + 1 = 4 := by decide +kernel
theorem e_X2_figureOf_4 : decode cX2_figureOf 4 = .ok (.isub, 1) ∧ 4 + 1 = 5 := by decide +kernel
theorem e_X2_figureOf_5 : decode cX2_figureOf 5 = .ok (.iload_n 2, 1) ∧ 5 + 1 = 6 := by decide +kernel
theorem e_X2_figureOf_6 : decode cX2_figureOf 6 = .ok (.isub, 1) ∧ 6 + 1 = 7 := by decide +kernel
theorem e_X2_figureOf_7 : decode cX2_figureOf 7 = .ok (.imul, 1) ∧ 7 + 1 = 8 := by decide +kernel
theorem e_X2_figureOf_8 : decode cX2_figureOf 8 = .ok (.ishr, 1) ∧ 8 + 1 = 9 := by decide +kernel
theorem e_X2_figureOf_9 : decode cX2_figureOf 9 = .ok (.iconst 3, 1) ∧ 9 + 1 = 10 := by decide +kernel
theorem e_X2_figureOf_10 : decode cX2_figureOf 10 = .ok (.iand, 1) ∧ 10 + 1 = 11 := by decide +kernel
theorem e_X2_figureOf_11 : decode cX2_figureOf 11 = .ok (.ireturn, 1) := by decide +kernel
theorem e_X2_isSeenBy_0 : decode cX2_isSeenBy 0 = .ok (.aload_n 0, 1) ∧ 0 + 1 = 1 := by decide +kernel
theorem e_X2_isSeenBy_1 : decode cX2_isSeenBy 1 = .ok (.getfield 27, 3) ∧ 1 + 3 = 4 := by decide +kernel
theorem e_X2_isSeenBy_4 : decode cX2_isSeenBy 4 = .ok (.aload_n 0, 1) ∧ 4 + 1 = 5 := by decide +kernel
theorem e_X2_isSeenBy_5 : decode cX2_isSeenBy 5 = .ok (.getfield 23, 3) ∧ 5 + 3 = 8 := by decide +kernel
theorem e_X2_isSeenBy_8 : decode cX2_isSeenBy 8 = .ok (.invokevirtual 61, 3) ∧ 8 + 3 = 11 := by decide +kernel
theorem e_X2_isSeenBy_11 : decode cX2_isSeenBy 11 = .ok (.aload_n 0, 1) ∧ 11 + 1 = 12 := by decide +kernel
theorem e_X2_isSeenBy_12 : decode cX2_isSeenBy 12 = .ok (.getfield 27, 3) ∧ 12 + 3 = 15 := by decide +kernel
theorem e_X2_isSeenBy_15 : decode cX2_isSeenBy 15 = .ok (.iload_n 1, 1) ∧ 15 + 1 = 16 := by decide +kernel
theorem e_X2_isSeenBy_16 : decode cX2_isSeenBy 16 = .ok (.invokevirtual 186, 3) ∧ 16 + 3 = 19 := by decide +kernel
theorem e_X2_isSeenBy_19 : decode cX2_isSeenBy 19 = .ok (.iconst 0, 1) ∧ 19 + 1 = 20 := by decide +kernel
theorem e_X2_isSeenBy_20 : decode cX2_isSeenBy 20 = .ok (.istore_n 2, 1) ∧ 20 + 1 = 21 := by decide +kernel
theorem e_X2_isSeenBy_21 : decode cX2_isSeenBy 21 = .ok (.iload_n 2, 1) ∧ 21 + 1 = 22 := by decide +kernel
theorem e_X2_isSeenBy_22 : decode cX2_isSeenBy 22 = .ok (.aload_n 0, 1) ∧ 22 + 1 = 23 := by decide +kernel
theorem e_X2_isSeenBy_23 : decode cX2_isSeenBy 23 = .ok (.getfield 92, 3) ∧ 23 + 3 = 26 := by decide +kernel
theorem e_X2_isSeenBy_26 : decode cX2_isSeenBy 26 = .ok (.if_icmp .ge 62, 3) ∧ 26 + 3 = 29 ∧ ((26 : Nat) : Int) + (62) = ((88 : Nat) : Int) := by decide +kernel
theorem e_X2_isSeenBy_29 : decode cX2_isSeenBy 29 = .ok (.aload_n 0, 1) ∧ 29 + 1 = 30 := by decide +kernel
theorem e_X2_isSeenBy_30 : decode cX2_isSeenBy 30 = .ok (.getfield 40, 3) ∧ 30 + 3 = 33 := by decide +kernel
theorem e_X2_isSeenBy_33 : decode cX2_isSeenBy 33 = .ok (.iload_n 2, 1) ∧ 33 + 1 = 34 := by decide +kernel
theorem e_X2_isSeenBy_34 : decode cX2_isSeenBy 34 = .ok (.invokestatic 102, 3) ∧ 34 + 3 = 37 := by decide +kernel
theorem e_X2_isSeenBy_37 : decode cX2_isSeenBy 37 = .ok (.istore_n 3, 1) ∧ 37 + 1 = 38 := by decide +kernel
theorem e_X2_isSeenBy_38 : decode cX2_isSeenBy 38 = .ok (.aload_n 0, 1) ∧ 38 + 1 = 39 := by decide +kernel
theorem e_X2_isSeenBy_39 : decode cX2_isSeenBy 39 = .ok (.getfield 27, 3) ∧ 39 + 3 = 42 := by decide +kernel
theorem e_X2_isSeenBy_42 : decode cX2_isSeenBy 42 = .ok (.iload_n 3, 1) ∧ 42 + 1 = 43 := by decide +kernel
theorem e_X2_isSeenBy_43 : decode cX2_isSeenBy 43 = .ok (.invokevirtual 115, 3) ∧ 43 + 3 = 46 := by decide +kernel
theorem e_X2_isSeenBy_46 : decode cX2_isSeenBy 46 = .ok (.ifCond .eq 8, 3) ∧ 46 + 3 = 49 ∧ ((46 : Nat) : Int) + (8) = ((54 : Nat) : Int) := by decide +kernel
theorem e_X2_isSeenBy_49 : decode cX2_isSeenBy 49 = .ok (.bipush 100, 2) ∧ 49 + 2 = 51 := by decide +kernel
theorem e_X2_isSeenBy_51 : decode cX2_isSeenBy 51 = .ok (.goto 14, 3) ∧ 51 + 3 = 54 ∧ ((51 : Nat) : Int) + (14) = ((65 : Nat) : Int) := by decide +kernel
theorem e_X2_isSeenBy_54 : decode cX2_isSeenBy 54 = .ok (.aload_n 0, 1) ∧ 54 + 1 = 55 := by decide +kernel
theorem e_X2_isSeenBy_55 : decode cX2_isSeenBy 55 = .ok (.getfield 27, 3) ∧ 55 + 3 = 58 := by decide +kernel
theorem e_X2_isSeenBy_58 : decode cX2_isSeenBy 58 = .ok (.getfield 106, 3) ∧ 58 + 3 = 61 := by decide +kernel
theorem e_X2_isSeenBy_61 : decode cX2_isSeenBy 61 = .ok (.iload_n 3, 1) ∧ 61 + 1 = 62 := by decide +kernel
theorem e_X2_isSeenBy_62 : decode cX2_isSeenBy 62 = .ok (.invokestatic 102, 3) ∧ 62 + 3 = 65 := by decide +kernel
theorem e_X2_isSeenBy_65 : decode cX2_isSeenBy 65 = .ok (.istore 4, 2) ∧ 65 + 2 = 67 := by decide +kernel
theorem e_X2_isSeenBy_67 : decode cX2_isSeenBy 67 = .ok (.iload 4, 2) ∧ 67 + 2 = 69 := by decide +kernel
theorem e_X2_isSeenBy_69 : decode cX2_isSeenBy 69 = .ok (.aload_n 0, 1) ∧ 69 + 1 = 70 := by decide +kernel
theorem e_X2_isSeenBy_70 : decode cX2_isSeenBy 70 = .ok (.getfield 43, 3) ∧ 70 + 3 = 73 := by decide +kernel
theorem e_X2_isSeenBy_73 : decode cX2_isSeenBy 73 = .ok (.iload_n 2, 1) ∧ 73 + 1 = 74 := by decide +kernel
theorem e_X2_isSeenBy_74 : decode cX2_isSeenBy 74 = .ok (.invokestatic 102, 3) ∧ 74 + 3 = 77 := by decide +kernel
theorem e_X2_isSeenBy_77 : decode cX2_isSeenBy 77 = .ok (.if_icmp .eq 5, 3) ∧ 77 + 3 = 80 ∧ ((77 : Nat) : Int) + (5) = ((82 : Nat) : Int) := by decide +kernel
theorem e_X2_isSeenBy_80 : decode cX2_isSeenBy 80 = .ok (.iconst 0, 1) ∧ 80 + 1 = 81 := by decide +kernel
theorem e_X2_isSeenBy_81 : decode cX2_isSeenBy 81 = .ok (.ireturn, 1) := by decide +kernel
theorem e_X2_isSeenBy_82 : decode cX2_isSeenBy 82 = .ok (.iinc 2 1, 3) ∧ 82 + 3 = 85 := by decide +kernel
theorem e_X2_isSeenBy_85 : decode cX2_isSeenBy 85 = .ok (.goto (-64), 3) ∧ 85 + 3 = 88 ∧ ((85 : Nat) : Int) + (-64) = ((21 : Nat) : Int) := by decide +kernel
theorem e_X2_isSeenBy_88 : decode cX2_isSeenBy 88 = .ok (.iconst 1, 1) ∧ 88 + 1 = 89 := by decide +kernel
theorem e_X2_isSeenBy_89 : decode cX2_isSeenBy 89 = .ok (.ireturn, 1) := by decide +kernel
theorem e_X2_weightOf_0 : decode cX2_weightOf 0 = .ok (.iconst 1, 1) ∧ 0 + 1 = 1 := by decide +kernel
theorem e_X2_weightOf_1 : decode cX2_weightOf 1 = .ok (.istore_n 3, 1) ∧ 1 + 1 = 2 := by decide +kernel
theorem e_X2_weightOf_2 : decode cX2_weightOf 2 = .ok (.iconst 0, 1) ∧ 2 + 1 = 3 := by decide +kernel
theorem e_X2_weightOf_3 : decode cX2_weightOf 3 = .ok (.istore 4, 2) ∧ 3 + 2 = 5 := by decide +kernel
theorem e_X2_weightOf_5 : decode cX2_weightOf 5 = .ok (.iload 4, 2) ∧ 5 + 2 = 7 := by decide +kernel
theorem e_X2_weightOf_7 : decode cX2_weightOf 7 = .ok (.iconst 4, 1) ∧ 7 + 1 = 8 := by decide +kernel
theorem e_X2_weightOf_8 : decode cX2_weightOf 8 = .ok (.if_icmp .ge 38, 3) ∧ 8 + 3 = 11 ∧ ((8 : Nat) : Int) + (38) = ((46 : Nat) : Int) := by decide +kernel
theorem e_X2_weightOf_11 : decode cX2_weightOf 11 = .ok (.iload_n 1, 1) ∧ 11 + 1 = 12 := by decide +kernel
theorem e_X2_weightOf_12 : decode cX2_weightOf 12 = .ok (.iload 4, 2) ∧ 12 + 2 = 14 := by decide +kernel
theorem e_X2_weightOf_14 : decode cX2_weightOf 14 = .ok (.invokestatic 152, 3) ∧ 14 + 3 = 17 := by decide +kernel
theorem e_X2_weightOf_17 : decode cX2_weightOf 17 = .ok (.ifCond .eq 23, 3) ∧ 17 + 3 = 20 ∧ ((17 : Nat) : Int) + (23) = ((40 : Nat) : Int) := by decide +kernel
theorem e_X2_weightOf_20 : decode cX2_weightOf 20 = .ok (.iload_n 3, 1) ∧ 20 + 1 = 21 := by decide +kernel
theorem e_X2_weightOf_21 : decode cX2_weightOf 21 = .ok (.iload_n 0, 1) ∧ 21 + 1 = 22 := by decide +kernel
theorem e_X2_weightOf_22 : decode cX2_weightOf 22 = .ok (.iload 4, 2) ∧ 22 + 2 = 24 := by decide +kernel
theorem e_X2_weightOf_24 : decode cX2_weightOf 24 = .ok (.invokestatic 152, 3) ∧ 24 + 3 = 27 := by decide +kernel
theorem e_X2_weightOf_27 : decode cX2_weightOf 27 = .ok (.ifCond .eq 7, 3) ∧ 27 + 3 = 30 ∧ ((27 : Nat) : Int) + (7) = ((34 : Nat) : Int) := by decide +kernel
theorem e_X2_weightOf_30 : decode cX2_weightOf 30 = .ok (.iload_n 2, 1) ∧ 30 + 1 = 31 := by decide +kernel
theorem e_X2_weightOf_31 : decode cX2_weightOf 31 = .ok (.goto 7, 3) ∧ 31 + 3 = 34 ∧ ((31 : Nat) : Int) + (7) = ((38 : Nat) : Int) := by decide +kernel
theorem e_X2_weightOf_34 : decode cX2_weightOf 34 = .ok (.bipush 10, 2) ∧ 34 + 2 = 36 := by decide +kernel
theorem e_X2_weightOf_36 : decode cX2_weightOf 36 = .ok (.iload_n 2, 1) ∧ 36 + 1 = 37 := by decide +kernel
theorem e_X2_weightOf_37 : decode cX2_weightOf 37 = .ok (.isub, 1) ∧ 37 + 1 = 38 := by decide +kernel
theorem e_X2_weightOf_38 : decode cX2_weightOf 38 = .ok (.imul, 1) ∧ 38 + 1 = 39 := by decide +kernel
theorem e_X2_weightOf_39 : decode cX2_weightOf 39 = .ok (.istore_n 3, 1) ∧ 39 + 1 = 40 := by decide +kernel
theorem e_X2_weightOf_40 : decode cX2_weightOf 40 = .ok (.iinc 4 1, 3) ∧ 40 + 3 = 43 := by decide +kernel
theorem e_X2_weightOf_43 : decode cX2_weightOf 43 = .ok (.goto (-38), 3) ∧ 43 + 3 = 46 ∧ ((43 : Nat) : Int) + (-38) = ((5 : Nat) : Int) := by decide +kernel
theorem e_X2_weightOf_46 : decode cX2_weightOf 46 = .ok (.iload_n 3, 1) ∧ 46 + 1 = 47 := by decide +kernel
theorem e_X2_weightOf_47 : decode cX2_weightOf 47 = .ok (.ireturn, 1) := by decide +kernel
theorem e_X2_commonDivisor_0 : decode cX2_commonDivisor 0 = .ok (.iload_n 0, 1) ∧ 0 + 1 = 1 := by decide +kernel
theorem e_X2_commonDivisor_1 : decode cX2_commonDivisor 1 = .ok (.istore_n 2, 1) ∧ 1 + 1 = 2 := by decide +kernel
theorem e_X2_commonDivisor_2 : decode cX2_commonDivisor 2 = .ok (.iload_n 1, 1) ∧ 2 + 1 = 3 := by decide +kernel
theorem e_X2_commonDivisor_3 : decode cX2_commonDivisor 3 = .ok (.istore_n 3, 1) ∧ 3 + 1 = 4 := by decide +kernel
theorem e_X2_commonDivisor_4 : decode cX2_commonDivisor 4 = .ok (.iconst 0, 1) ∧ 4 + 1 = 5 := by decide +kernel
theorem e_X2_commonDivisor_5 : decode cX2_commonDivisor 5 = .ok (.istore 4, 2) ∧ 5 + 2 = 7 := by decide +kernel
theorem e_X2_commonDivisor_7 : decode cX2_commonDivisor 7 = .ok (.iload 4, 2) ∧ 7 + 2 = 9 := by decide +kernel
theorem e_X2_commonDivisor_9 : decode cX2_commonDivisor 9 = .ok (.bipush 64, 2) ∧ 9 + 2 = 11 := by decide +kernel
theorem e_X2_commonDivisor_11 : decode cX2_commonDivisor 11 = .ok (.if_icmp .ge 23, 3) ∧ 11 + 3 = 14 ∧ ((11 : Nat) : Int) + (23) = ((34 : Nat) : Int) := by decide +kernel
theorem e_X2_commonDivisor_14 : decode cX2_commonDivisor 14 = .ok (.iload_n 3, 1) ∧ 14 + 1 = 15 := by decide +kernel
theorem e_X2_commonDivisor_15 : decode cX2_commonDivisor 15 = .ok (.ifCond .eq 19, 3) ∧ 15 + 3 = 18 ∧ ((15 : Nat) : Int) + (19) = ((34 : Nat) : Int) := by decide +kernel
theorem e_X2_commonDivisor_18 : decode cX2_commonDivisor 18 = .ok (.iload_n 2, 1) ∧ 18 + 1 = 19 := by decide +kernel
theorem e_X2_commonDivisor_19 : decode cX2_commonDivisor 19 = .ok (.iload_n 3, 1) ∧ 19 + 1 = 20 := by decide +kernel
theorem e_X2_commonDivisor_20 : decode cX2_commonDivisor 20 = .ok (.irem, 1) ∧ 20 + 1 = 21 := by decide +kernel
theorem e_X2_commonDivisor_21 : decode cX2_commonDivisor 21 = .ok (.istore 5, 2) ∧ 21 + 2 = 23 := by decide +kernel
theorem e_X2_commonDivisor_23 : decode cX2_commonDivisor 23 = .ok (.iload_n 3, 1) ∧ 23 + 1 = 24 := by decide +kernel
theorem e_X2_commonDivisor_24 : decode cX2_commonDivisor 24 = .ok (.istore_n 2, 1) ∧ 24 + 1 = 25 := by decide +kernel
theorem e_X2_commonDivisor_25 : decode cX2_commonDivisor 25 = .ok (.iload 5, 2) ∧ 25 + 2 = 27 := by decide +kernel
theorem e_X2_commonDivisor_27 : decode cX2_commonDivisor 27 = .ok (.istore_n 3, 1) ∧ 27 + 1 = 28 := by decide +kernel
theorem e_X2_commonDivisor_28 : decode cX2_commonDivisor 28 = .ok (.iinc 4 1, 3) ∧ 28 + 3 = 31 := by decide +kernel
theorem e_X2_commonDivisor_31 : decode cX2_commonDivisor 31 = .ok (.goto (-24), 3) ∧ 31 + 3 = 34 ∧ ((31 : Nat) : Int) + (-24) = ((7 : Nat) : Int) := by decide +kernel
theorem e_X2_commonDivisor_34 : decode cX2_commonDivisor 34 = .ok (.iload_n 2, 1) ∧ 34 + 1 = 35 := by decide +kernel
theorem e_X2_commonDivisor_35 : decode cX2_commonDivisor 35 = .ok (.ireturn, 1) := by decide +kernel
theorem e_X2_nextTenth_0 : decode cX2_nextTenth 0 = .ok (.aload_n 0, 1) ∧ 0 + 1 = 1 := by decide +kernel
theorem e_X2_nextTenth_1 : decode cX2_nextTenth 1 = .ok (.aload_n 0, 1) ∧ 1 + 1 = 2 := by decide +kernel
theorem e_X2_nextTenth_2 : decode cX2_nextTenth 2 = .ok (.getfield 198, 3) ∧ 2 + 3 = 5 := by decide +kernel
theorem e_X2_nextTenth_5 : decode cX2_nextTenth 5 = .ok (.ldc2_w 215, 3) ∧ 5 + 3 = 8 := by decide +kernel
theorem e_X2_nextTenth_8 : decode cX2_nextTenth 8 = .ok (.lmul, 1) ∧ 8 + 1 = 9 := by decide +kernel
theorem e_X2_nextTenth_9 : decode cX2_nextTenth 9 = .ok (.ldc2_w 217, 3) ∧ 9 + 3 = 12 := by decide +kernel
theorem e_X2_nextTenth_12 : decode cX2_nextTenth 12 = .ok (.ladd, 1) ∧ 12 + 1 = 13 := by decide +kernel
theorem e_X2_nextTenth_13 : decode cX2_nextTenth 13 = .ok (.putfield 198, 3) ∧ 13 + 3 = 16 := by decide +kernel
theorem e_X2_nextTenth_16 : decode cX2_nextTenth 16 = .ok (.aload_n 0, 1) ∧ 16 + 1 = 17 := by decide +kernel
theorem e_X2_nextTenth_17 : decode cX2_nextTenth 17 = .ok (.getfield 198, 3) ∧ 17 + 3 = 20 := by decide +kernel
theorem e_X2_nextTenth_20 : decode cX2_nextTenth 20 = .ok (.bipush 33, 2) ∧ 20 + 2 = 22 := by decide +kernel
theorem e_X2_nextTenth_22 : decode cX2_nextTenth 22 = .ok (.lushr, 1) ∧ 22 + 1 = 23 := by decide +kernel
theorem e_X2_nextTenth_23 : decode cX2_nextTenth 23 = .ok (.ldc2_w 219, 3) ∧ 23 + 3 = 26 := by decide +kernel
theorem e_X2_nextTenth_26 : decode cX2_nextTenth 26 = .ok (.lrem, 1) ∧ 26 + 1 = 27 := by decide +kernel
theorem e_X2_nextTenth_27 : decode cX2_nextTenth 27 = .ok (.l2i, 1) ∧ 27 + 1 = 28 := by decide +kernel
theorem e_X2_nextTenth_28 : decode cX2_nextTenth 28 = .ok (.ireturn, 1) := by decide +kernel
theorem e_X3_init_0 : decode cX3_init 0 = .ok (.aload_n 0, 1) ∧ 0 + 1 = 1 := by decide +kernel
theorem e_X3_init_1 : decode cX3_init 1 = .ok (.invokespecial 1, 3) ∧ 1 + 3 = 4 := by decide +kernel
theorem e_X3_init_4 : decode cX3_init 4 = .ok (.aload_n 0, 1) ∧ 4 + 1 = 5 := by decide +kernel
theorem e_X3_init_5 : decode cX3_init 5 = .ok (.bipush 72, 2) ∧ 5 + 2 = 7 := by decide +kernel
theorem e_X3_init_7 : decode cX3_init 7 = .ok (.newarray .int, 2) ∧ 7 + 2 = 9 := by decide +kernel
theorem e_X3_init_9 : decode cX3_init 9 = .ok (.putfield 7, 3) ∧ 9 + 3 = 12 := by decide +kernel
theorem e_X3_init_12 : decode cX3_init 12 = .ok (.aload_n 0, 1) ∧ 12 + 1 = 13 := by decide +kernel
theorem e_X3_init_13 : decode cX3_init 13 = .ok (.iconst 1, 1) ∧ 13 + 1 = 14 := by decide +kernel
theorem e_X3_init_14 : decode cX3_init 14 = .ok (.putfield 13, 3) ∧ 14 + 3 = 17 := by decide +kernel
theorem e_X3_init_17 : decode cX3_init 17 = .ok (.aload_n 0, 1) ∧ 17 + 1 = 18 := by decide +kernel
theorem e_X3_init_18 : decode cX3_init 18 = .ok (.iconst 4, 1) ∧ 18 + 1 = 19 := by decide +kernel
theorem e_X3_init_19 : decode cX3_init 19 = .ok (.newarray .int, 2) ∧ 19 + 2 = 21 := by decide +kernel
theorem e_X3_init_21 : decode cX3_init 21 = .ok (.putfield 17, 3) ∧ 21 + 3 = 24 := by decide +kernel
theorem e_X3_init_24 : decode cX3_init 24 = .ok (.aload_n 0, 1) ∧ 24 + 1 = 25 := by decide +kernel
theorem e_X3_init_25 : decode cX3_init 25 = .ok (.bipush 58, 2) ∧ 25 + 2 = 27 := by decide +kernel
theorem e_X3_init_27 : decode cX3_init 27 = .ok (.newarray .int, 2) ∧ 27 + 2 = 29 := by decide +kernel
theorem e_X3_init_29 : decode cX3_init 29 = .ok (.putfield 20, 3) ∧ 29 + 3 = 32 := by decide +kernel
theorem e_X3_init_32 : decode cX3_init 32 = .ok (.aload_n 0, 1) ∧ 32 + 1 = 33 := by decide +kernel
theorem e_X3_init_33 : decode cX3_init 33 = .ok (.bipush 58, 2) ∧ 33 + 2 = 35 := by decide +kernel
theorem e_X3_init_35 : decode cX3_init 35 = .ok (.newarray .int, 2) ∧ 35 + 2 = 37 := by decide +kernel
theorem e_X3_init_37 : decode cX3_init 37 = .ok (.putfield 23, 3) ∧ 37 + 3 = 40 := by decide +kernel
theorem e_X3_init_40 : decode cX3_init 40 = .ok (.aload_n 0, 1) ∧ 40 + 1 = 41 := by decide +kernel
theorem e_X3_init_41 : decode cX3_init 41 = .ok (.iconst 4, 1) ∧ 41 + 1 = 42 := by decide +kernel
theorem e_X3_init_42 : decode cX3_init 42 = .ok (.newarray .int, 2) ∧ 42 + 2 = 44 := by decide +kernel
theorem e_X3_init_44 : decode cX3_init 44 = .ok (.putfield 26, 3) ∧ 44 + 3 = 47 := by decide +kernel
theorem e_X3_init_47 : decode cX3_init 47 = .ok (.aload_n 0, 1) ∧ 47 + 1 = 48 := by decide +kernel
theorem e_X3_init_48 : decode cX3_init 48 = .ok (.sipush 812, 3) ∧ 48 + 3 = 51 := by decide +kernel
theorem e_X3_init_51 : decode cX3_init 51 = .ok (.newarray .int, 2) ∧ 51 + 2 = 53 := by decide +kernel
theorem e_X3_init_53 : decode cX3_init 53 = .ok (.putfield 29, 3) ∧ 53 + 3 = 56 := by decide +kernel
theorem e_X3_init_56 : decode cX3_init 56 = .ok (.aload_n 0, 1) ∧ 56 + 1 = 57 := by decide +kernel
theorem e_X3_init_57 : decode cX3_init 57 = .ok (.bipush 116, 2) ∧ 57 + 2 = 59 := by decide +kernel
theorem e_X3_init_59 : decode cX3_init 59 = .ok (.newarray .int, 2) ∧ 59 + 2 = 61 := by decide +kernel
theorem e_X3_init_61 : decode cX3_init 61 = .ok (.putfield 32, 3) ∧ 61 + 3 = 64 := by decide +kernel
theorem e_X3_init_64 : decode cX3_init 64 = .ok (.aload_n 0, 1) ∧ 64 + 1 = 65 := by decide +kernel
theorem e_X3_init_65 : decode cX3_init 65 = .ok (.iconst 2, 1) ∧ 65 + 1 = 66 := by decide +kernel
theorem e_X3_init_66 : decode cX3_init 66 = .ok (.newarray .boolean, 2) ∧ 66 + 2 = 68 := by decide +kernel
theorem e_X3_init_68 : decode cX3_init 68 = .ok (.putfield 35, 3) ∧ 68 + 3 = 71 := by decide +kernel
theorem e_X3_init_71 : decode cX3_init 71 = .ok (.aload_n 0, 1) ∧ 71 + 1 = 72 := by decide +kernel
theorem e_X3_init_72 : decode cX3_init 72 = .ok (.bipush 6, 2) ∧ 72 + 2 = 74 := by decide +kernel
theorem e_X3_init_74 : decode cX3_init 74 = .ok (.newarray .int, 2) ∧ 74 + 2 = 76 := by decide +kernel
theorem e_X3_init_76 : decode cX3_init 76 = .ok (.putfield 39, 3) ∧ 76 + 3 = 79 := by decide +kernel
theorem e_X3_init_79 : decode cX3_init 79 = .ok (.aload_n 0, 1) ∧ 79 + 1 = 80 := by decide +kernel
theorem e_X3_init_80 : decode cX3_init 80 = .ok (.bipush 6, 2) ∧ 80 + 2 = 82 := by decide +kernel
theorem e_X3_init_82 : decode cX3_init 82 = .ok (.newarray .int, 2) ∧ 82 + 2 = 84 := by decide +kernel
theorem e_X3_init_84 : decode cX3_init 84 = .ok (.putfield 42, 3) ∧ 84 + 3 = 87 := by decide +kernel
theorem e_X3_init_87 : decode cX3_init 87 = .ok (.aload_n 0, 1) ∧ 87 + 1 = 88 := by decide +kernel
theorem e_X3_init_88 : decode cX3_init 88 = .ok (.bipush 58, 2) ∧ 88 + 2 = 90 := by decide +kernel
theorem e_X3_init_90 : decode cX3_init 90 = .ok (.newarray .int, 2) ∧ 90 + 2 = 92 := by decide +kernel
theorem e_X3_init_92 : decode cX3_init 92 = .ok (.putfield 45, 3) ∧ 92 + 3 = 95 := by decide +kernel
theorem e_X3_init_95 : decode cX3_init 95 = .ok (.return_, 1) := by decide +kernel
theorem e_X3_in_0 : decode cX3_in 0 = .ok (.lload_n 0, 1) ∧ 0 + 1 = 1 := by decide +kernel
theorem e_X3_in_1 : decode cX3_in 1 = .ok (.lload_n 2, 1) ∧ 1 + 1 = 2 := by decide +kernel
theorem e_X3_in_2 : decode cX3_in 2 = .ok (.lcmp, 1) ∧ 2 + 1 = 3 := by decide +kernel
theorem e_X3_in_3 : decode cX3_in 3 = .ok (.ifCond .lt 14, 3) ∧ 3 + 3 = 6 ∧ ((3 : Nat) : Int) + (14) = ((17 : Nat) : Int) := by decide +kernel
theorem e_X3_in_6 : decode cX3_in 6 = .ok (.lload_n 0, 1) ∧ 6 + 1 = 7 := by decide +kernel
theorem e_X3_in_7 : decode cX3_in 7 = .ok (.lload 4, 2) ∧ 7 + 2 = 9 := by decide +kernel
theorem e_X3_in_9 : decode cX3_in 9 = .ok (.lcmp, 1) ∧ 9 + 1 = 10 := by decide +kernel
theorem e_X3_in_10 : decode cX3_in 10 = .ok (.ifCond .gt 7, 3) ∧ 10 + 3 = 13 ∧ ((10 : Nat) : Int) + (7) = ((17 : Nat) : Int) := by decide +kernel
theorem e_X3_in_13 : decode cX3_in 13 = .ok (.iconst 1, 1) ∧ 13 + 1 = 14 := by decide +kernel
theorem e_X3_in_14 : decode cX3_in 14 = .ok (.goto 4, 3) ∧ 14 + 3 = 17 ∧ ((14 : Nat) : Int) + (4) = ((18 : Nat) : Int) := by decide +kernel
theorem e_X3_in_17 : decode cX3_in 17 = .ok (.iconst 0, 1) ∧ 17 + 1 = 18 := by decide +kernel
theorem e_X3_in_18 : decode cX3_in 18 = .ok (.ireturn, 1) := by decide +kernel
theorem e_X3_has_0 : decode cX3_has 0 = .ok (.iload_n 0, 1) ∧ 0 + 1 = 1 := by decide +kernel
theorem e_X3_has_1 : decode cX3_has 1 = .ok (.iload_n 1, 1) ∧ 1 + 1 = 2 := by decide +kernel
theorem e_X3_has_2 : decode cX3_has 2 = .ok (.ishr, 1) ∧ 2 + 1 = 3 := by decide +kernel
theorem e_X3_has_3 : decode cX3_has 3 = .ok (.iconst 1, 1) ∧ 3 + 1 = 4 := by decide +kernel
theorem e_X3_has_4 : decode cX3_has 4 = .ok (.iand, 1) ∧ 4 + 1 = 5 := by decide +kernel
theorem e_X3_has_5 : decode cX3_has 5 = .ok (.iconst 1, 1) ∧ 5 + 1 = 6 := by decide +kernel
theorem e_X3_has_6 : decode cX3_has 6 = .ok (.if_icmp .ne 7, 3) ∧ 6 + 3 = 9 ∧ ((6 : Nat) : Int) + (7) = ((13 : Nat) : Int) := by decide +kernel
theorem e_X3_has_9 : decode cX3_has 9 = .ok (.iconst 1, 1) ∧ 9 + 1 = 10 := by decide +kernel
theorem e_X3_has_10 : decode cX3_has 10 = .ok (.goto 4, 3) ∧ 10 + 3 = 13 ∧ ((10 : Nat) : Int) + (4) = ((14 : Nat) : Int) := by decide +kernel
theorem e_X3_has_13 : decode cX3_has 13 = .ok (.iconst 0, 1) ∧ 13 + 1 = 14 := by decide +kernel
theorem e_X3_has_14 : decode cX3_has 14 = .ok (.ireturn, 1) := by decide +kernel
theorem e_X3_noMonk_0 : decode cX3_noMonk 0 = .ok (.iload_n 1, 1) ∧ 0 + 1 = 1 := by decide +kernel
theorem e_X3_noMonk_1 : decode cX3_noMonk 1 = .ok (.i2l, 1) ∧ 1 + 1 = 2 := by decide +kernel
theorem e_X3_noMonk_2 : decode cX3_noMonk 2 = .ok (.lconst 0, 1) ∧ 2 + 1 = 3 := by decide +kernel
theorem e_X3_noMonk_3 : decode cX3_noMonk 3 = .ok (.aload_n 0, 1) ∧ 3 + 1 = 4 := by decide +kernel
theorem e_X3_noMonk_4 : decode cX3_noMonk 4 = .ok (.getfield 51, 3) ∧ 4 + 3 = 7 := by decide +kernel
theorem e_X3_noMonk_7 : decode cX3_noMonk 7 = .ok (.iconst 1, 1) ∧ 7 + 1 = 8 := by decide +kernel
theorem e_X3_noMonk_8 : decode cX3_noMonk 8 = .ok (.isub, 1) ∧ 8 + 1 = 9 := by decide +kernel
theorem e_X3_noMonk_9 : decode cX3_noMonk 9 = .ok (.i2l, 1) ∧ 9 + 1 = 10 := by decide +kernel
theorem e_X3_noMonk_10 : decode cX3_noMonk 10 = .ok (.invokestatic 54, 3) ∧ 10 + 3 = 13 := by decide +kernel
theorem e_X3_noMonk_13 : decode cX3_noMonk 13 = .ok (.ifCond .ne 7, 3) ∧ 13 + 3 = 16 ∧ ((13 : Nat) : Int) + (7) = ((20 : Nat) : Int) := by decide +kernel
theorem e_X3_noMonk_16 : decode cX3_noMonk 16 = .ok (.iconst 1, 1) ∧ 16 + 1 = 17 := by decide +kernel
theorem e_X3_noMonk_17 : decode cX3_noMonk 17 = .ok (.goto 4, 3) ∧ 17 + 3 = 20 ∧ ((17 : Nat) : Int) + (4) = ((21 : Nat) : Int) := by decide +kernel
theorem e_X3_noMonk_20 : decode cX3_noMonk 20 = .ok (.iconst 0, 1) ∧ 20 + 1 = 21 := by decide +kernel
theorem e_X3_noMonk_21 : decode cX3_noMonk 21 = .ok (.ireturn, 1) := by decide +kernel
theorem e_X3_noCell_0 : decode cX3_noCell 0 = .ok (.iload_n 0, 1) ∧ 0 + 1 = 1 := by decide +kernel
theorem e_X3_noCell_1 : decode cX3_noCell 1 = .ok (.i2l, 1) ∧ 1 + 1 = 2 := by decide +kernel
theorem e_X3_noCell_2 : decode cX3_noCell 2 = .ok (.lconst 0, 1) ∧ 2 + 1 = 3 := by decide +kernel
theorem e_X3_noCell_3 : decode cX3_noCell 3 = .ok (.ldc2_w 58, 3) ∧ 3 + 3 = 6 := by decide +kernel
theorem e_X3_noCell_6 : decode cX3_noCell 6 = .ok (.invokestatic 54, 3) ∧ 6 + 3 = 9 := by decide +kernel
theorem e_X3_noCell_9 : decode cX3_noCell 9 = .ok (.ifCond .ne 7, 3) ∧ 9 + 3 = 12 ∧ ((9 : Nat) : Int) + (7) = ((16 : Nat) : Int) := by decide +kernel
theorem e_X3_noCell_12 : decode cX3_noCell 12 = .ok (.iconst 1, 1) ∧ 12 + 1 = 13 := by decide +kernel
theorem e_X3_noCell_13 : decode cX3_noCell 13 = .ok (.goto 4, 3) ∧ 13 + 3 = 16 ∧ ((13 : Nat) : Int) + (4) = ((17 : Nat) : Int) := by decide +kernel
theorem e_X3_noCell_16 : decode cX3_noCell 16 = .ok (.iconst 0, 1) ∧ 16 + 1 = 17 := by decide +kernel
theorem e_X3_noCell_17 : decode cX3_noCell 17 = .ok (.ireturn, 1) := by decide +kernel
theorem e_X3_write_0 : decode cX3_write 0 = .ok (.aload_n 0, 1) ∧ 0 + 1 = 1 := by decide +kernel
theorem e_X3_write_1 : decode cX3_write 1 = .ok (.iconst 0, 1) ∧ 1 + 1 = 2 := by decide +kernel
theorem e_X3_write_2 : decode cX3_write 2 = .ok (.putfield 48, 3) ∧ 2 + 3 = 5 := by decide +kernel
theorem e_X3_write_5 : decode cX3_write 5 = .ok (.iload_n 1, 1) ∧ 5 + 1 = 6 := by decide +kernel
theorem e_X3_write_6 : decode cX3_write 6 = .ok (.i2l, 1) ∧ 6 + 1 = 7 := by decide +kernel
theorem e_X3_write_7 : decode cX3_write 7 = .ok (.lconst 1, 1) ∧ 7 + 1 = 8 := by decide +kernel
theorem e_X3_write_8 : decode cX3_write 8 = .ok (.ldc2_w 60, 3) ∧ 8 + 3 = 11 := by decide +kernel
theorem e_X3_write_11 : decode cX3_write 11 = .ok (.invokestatic 54, 3) ∧ 11 + 3 = 14 := by decide +kernel
theorem e_X3_write_14 : decode cX3_write 14 = .ok (.ifCond .ne 6, 3) ∧ 14 + 3 = 17 ∧ ((14 : Nat) : Int) + (6) = ((20 : Nat) : Int) := by decide +kernel
theorem e_X3_write_17 : decode cX3_write 17 = .ok (.bipush (-2), 2) ∧ 17 + 2 = 19 := by decide +kernel
theorem e_X3_write_19 : decode cX3_write 19 = .ok (.ireturn, 1) := by decide +kernel
theorem e_X3_write_20 : decode cX3_write 20 = .ok (.aload_n 0, 1) ∧ 20 + 1 = 21 := by decide +kernel
theorem e_X3_write_21 : decode cX3_write 21 = .ok (.getfield 62, 3) ∧ 21 + 3 = 24 := by decide +kernel
theorem e_X3_write_24 : decode cX3_write 24 = .ok (.iload_n 1, 1) ∧ 24 + 1 = 25 := by decide +kernel
theorem e_X3_write_25 : decode cX3_write 25 = .ok (.iadd, 1) ∧ 25 + 1 = 26 := by decide +kernel
theorem e_X3_write_26 : decode cX3_write 26 = .ok (.bipush 72, 2) ∧ 26 + 2 = 28 := by decide +kernel
theorem e_X3_write_28 : decode cX3_write 28 = .ok (.if_icmp .le 6, 3) ∧ 28 + 3 = 31 ∧ ((28 : Nat) : Int) + (6) = ((34 : Nat) : Int) := by decide +kernel
theorem e_X3_write_31 : decode cX3_write 31 = .ok (.bipush (-4), 2) ∧ 31 + 2 = 33 := by decide +kernel
theorem e_X3_write_33 : decode cX3_write 33 = .ok (.ireturn, 1) := by decide +kernel
theorem e_X3_write_34 : decode cX3_write 34 = .ok (.iload_n 1, 1) ∧ 34 + 1 = 35 := by decide +kernel
theorem e_X3_write_35 : decode cX3_write 35 = .ok (.iconst 1, 1) ∧ 35 + 1 = 36 := by decide +kernel
theorem e_X3_write_36 : decode cX3_write 36 = .ok (.isub, 1) ∧ 36 + 1 = 37 := by decide +kernel
theorem e_X3_write_37 : decode cX3_write 37 = .ok (.istore 4, 2) ∧ 37 + 2 = 39 := by decide +kernel
theorem e_X3_write_39 : decode cX3_write 39 = .ok (.iload 4, 2) ∧ 39 + 2 = 41 := by decide +kernel
theorem e_X3_write_41 : decode cX3_write 41 = .ok (.ifCond .lt 40, 3) ∧ 41 + 3 = 44 ∧ ((41 : Nat) : Int) + (40) = ((81 : Nat) : Int) := by decide +kernel
theorem e_X3_write_44 : decode cX3_write 44 = .ok (.aload_n 0, 1) ∧ 44 + 1 = 45 := by decide +kernel
theorem e_X3_write_45 : decode cX3_write 45 = .ok (.getfield 7, 3) ∧ 45 + 3 = 48 := by decide +kernel
theorem e_X3_write_48 : decode cX3_write 48 = .ok (.aload_n 0, 1) ∧ 48 + 1 = 49 := by decide +kernel
theorem e_X3_write_49 : decode cX3_write 49 = .ok (.getfield 62, 3) ∧ 49 + 3 = 52 := by decide +kernel
theorem e_X3_write_52 : decode cX3_write 52 = .ok (.lload_n 2, 1) ∧ 52 + 1 = 53 := by decide +kernel
theorem e_X3_write_53 : decode cX3_write 53 = .ok (.bipush 8, 2) ∧ 53 + 2 = 55 := by decide +kernel
theorem e_X3_write_55 : decode cX3_write 55 = .ok (.iload 4, 2) ∧ 55 + 2 = 57 := by decide +kernel
theorem e_X3_write_57 : decode cX3_write 57 = .ok (.imul, 1) ∧ 57 + 1 = 58 := by decide +kernel
theorem e_X3_write_58 : decode cX3_write 58 = .ok (.lshr, 1) ∧ 58 + 1 = 59 := by decide +kernel
theorem e_X3_write_59 : decode cX3_write 59 = .ok (.l2i, 1) ∧ 59 + 1 = 60 := by decide +kernel
theorem e_X3_write_60 : decode cX3_write 60 = .ok (.sipush 255, 3) ∧ 60 + 3 = 63 := by decide +kernel
theorem e_X3_write_63 : decode cX3_write 63 = .ok (.iand, 1) ∧ 63 + 1 = 64 := by decide +kernel
theorem e_X3_write_64 : decode cX3_write 64 = .ok (.iastore, 1) ∧ 64 + 1 = 65 := by decide +kernel
theorem e_X3_write_65 : decode cX3_write 65 = .ok (.aload_n 0, 1) ∧ 65 + 1 = 66 := by decide +kernel
theorem e_X3_write_66 : decode cX3_write 66 = .ok (.dup, 1) ∧ 66 + 1 = 67 := by decide +kernel
theorem e_X3_write_67 : decode cX3_write 67 = .ok (.getfield 62, 3) ∧ 67 + 3 = 70 := by decide +kernel
theorem e_X3_write_70 : decode cX3_write 70 = .ok (.iconst 1, 1) ∧ 70 + 1 = 71 := by decide +kernel
theorem e_X3_write_71 : decode cX3_write 71 = .ok (.iadd, 1) ∧ 71 + 1 = 72 := by decide +kernel
theorem e_X3_write_72 : decode cX3_write 72 = .ok (.putfield 62, 3) ∧ 72 + 3 = 75 := by decide +kernel
theorem e_X3_write_75 : decode cX3_write 75 = .ok (.iinc 4 (-1), 3) ∧ 75 + 3 = 78 := by decide +kernel
theorem e_X3_write_78 : decode cX3_write 78 = .ok (.goto (-39), 3) ∧ 78 + 3 = 81 ∧ ((78 : Nat) : Int) + (-39) = ((39 : Nat) : Int) := by decide +kernel
theorem e_X3_write_81 : decode cX3_write 81 = .ok (.aload_n 0, 1) ∧ 81 + 1 = 82 := by decide +kernel
theorem e_X3_write_82 : decode cX3_write 82 = .ok (.getfield 62, 3) ∧ 82 + 3 = 85 := by decide +kernel
theorem e_X3_write_85 : decode cX3_write 85 = .ok (.ireturn, 1) := by decide +kernel
theorem e_X3_wipe_0 : decode cX3_wipe 0 = .ok (.aload_n 0, 1) ∧ 0 + 1 = 1 := by decide +kernel
theorem e_X3_wipe_1 : decode cX3_wipe 1 = .ok (.iconst 0, 1) ∧ 1 + 1 = 2 := by decide +kernel
theorem e_X3_wipe_2 : decode cX3_wipe 2 = .ok (.putfield 48, 3) ∧ 2 + 3 = 5 := by decide +kernel
theorem e_X3_wipe_5 : decode cX3_wipe 5 = .ok (.aload_n 0, 1) ∧ 5 + 1 = 6 := by decide +kernel
theorem e_X3_wipe_6 : decode cX3_wipe 6 = .ok (.getfield 62, 3) ∧ 6 + 3 = 9 := by decide +kernel
theorem e_X3_wipe_9 : decode cX3_wipe 9 = .ok (.istore_n 1, 1) ∧ 9 + 1 = 10 := by decide +kernel
theorem e_X3_wipe_10 : decode cX3_wipe 10 = .ok (.aload_n 0, 1) ∧ 10 + 1 = 11 := by decide +kernel
theorem e_X3_wipe_11 : decode cX3_wipe 11 = .ok (.iconst 0, 1) ∧ 11 + 1 = 12 := by decide +kernel
theorem e_X3_wipe_12 : decode cX3_wipe 12 = .ok (.putfield 62, 3) ∧ 12 + 3 = 15 := by decide +kernel
theorem e_X3_wipe_15 : decode cX3_wipe 15 = .ok (.iload_n 1, 1) ∧ 15 + 1 = 16 := by decide +kernel
theorem e_X3_wipe_16 : decode cX3_wipe 16 = .ok (.ireturn, 1) := by decide +kernel
theorem e_X3_figure_0 : decode cX3_figure 0 = .ok (.aload_n 0, 1) ∧ 0 + 1 = 1 := by decide +kernel
theorem e_X3_figure_1 : decode cX3_figure 1 = .ok (.getfield 65, 3) ∧ 1 + 3 = 4 := by decide +kernel
theorem e_X3_figure_4 : decode cX3_figure 4 = .ok (.aload_n 0, 1) ∧ 4 + 1 = 5 := by decide +kernel
theorem e_X3_figure_5 : decode cX3_figure 5 = .ok (.getfield 62, 3) ∧ 5 + 3 = 8 := by decide +kernel
theorem e_X3_figure_8 : decode cX3_figure 8 = .ok (.if_icmp .eq 26, 3) ∧ 8 + 3 = 11 ∧ ((8 : Nat) : Int) + (26) = ((34 : Nat) : Int) := by decide +kernel
theorem e_X3_figure_11 : decode cX3_figure 11 = .ok (.aload_n 0, 1) ∧ 11 + 1 = 12 := by decide +kernel
theorem e_X3_figure_12 : decode cX3_figure 12 = .ok (.getfield 7, 3) ∧ 12 + 3 = 15 := by decide +kernel
theorem e_X3_figure_15 : decode cX3_figure 15 = .ok (.aload_n 0, 1) ∧ 15 + 1 = 16 := by decide +kernel
theorem e_X3_figure_16 : decode cX3_figure 16 = .ok (.getfield 65, 3) ∧ 16 + 3 = 19 := by decide +kernel
theorem e_X3_figure_19 : decode cX3_figure 19 = .ok (.iaload, 1) ∧ 19 + 1 = 20 := by decide +kernel
theorem e_X3_figure_20 : decode cX3_figure 20 = .ok (.bipush 48, 2) ∧ 20 + 2 = 22 := by decide +kernel
theorem e_X3_figure_22 : decode cX3_figure 22 = .ok (.isub, 1) ∧ 22 + 1 = 23 := by decide +kernel
theorem e_X3_figure_23 : decode cX3_figure 23 = .ok (.i2l, 1) ∧ 23 + 1 = 24 := by decide +kernel
theorem e_X3_figure_24 : decode cX3_figure 24 = .ok (.iload_n 1, 1) ∧ 24 + 1 = 25 := by decide +kernel
theorem e_X3_figure_25 : decode cX3_figure 25 = .ok (.i2l, 1) ∧ 25 + 1 = 26 := by decide +kernel
theorem e_X3_figure_26 : decode cX3_figure 26 = .ok (.iload_n 2, 1) ∧ 26 + 1 = 27 := by decide +kernel
theorem e_X3_figure_27 : decode cX3_figure 27 = .ok (.i2l, 1) ∧ 27 + 1 = 28 := by decide +kernel
theorem e_X3_figure_28 : decode cX3_figure 28 = .ok (.invokestatic 54, 3) ∧ 28 + 3 = 31 := by decide +kernel
theorem e_X3_figure_31 : decode cX3_figure 31 = .ok (.ifCond .ne 6, 3) ∧ 31 + 3 = 34 ∧ ((31 : Nat) : Int) + (6) = ((37 : Nat) : Int) := by decide +kernel
theorem e_X3_figure_34 : decode cX3_figure 34 = .ok (.bipush (-9), 2) ∧ 34 + 2 = 36 := by decide +kernel
theorem e_X3_figure_36 : decode cX3_figure 36 = .ok (.ireturn, 1) := by decide +kernel
theorem e_X3_figure_37 : decode cX3_figure 37 = .ok (.aload_n 0, 1) ∧ 37 + 1 = 38 := by decide +kernel
theorem e_X3_figure_38 : decode cX3_figure 38 = .ok (.dup, 1) ∧ 38 + 1 = 39 := by decide +kernel
theorem e_X3_figure_39 : decode cX3_figure 39 = .ok (.getfield 65, 3) ∧ 39 + 3 = 42 := by decide +kernel
theorem e_X3_figure_42 : decode cX3_figure 42 = .ok (.iconst 1, 1) ∧ 42 + 1 = 43 := by decide +kernel
theorem e_X3_figure_43 : decode cX3_figure 43 = .ok (.iadd, 1) ∧ 43 + 1 = 44 := by decide +kernel
theorem e_X3_figure_44 : decode cX3_figure 44 = .ok (.putfield 65, 3) ∧ 44 + 3 = 47 := by decide +kernel
theorem e_X3_figure_47 : decode cX3_figure 47 = .ok (.aload_n 0, 1) ∧ 47 + 1 = 48 := by decide +kernel
theorem e_X3_figure_48 : decode cX3_figure 48 = .ok (.getfield 7, 3) ∧ 48 + 3 = 51 := by decide +kernel
theorem e_X3_figure_51 : decode cX3_figure 51 = .ok (.aload_n 0, 1) ∧ 51 + 1 = 52 := by decide +kernel
theorem e_X3_figure_52 : decode cX3_figure 52 = .ok (.getfield 65, 3) ∧ 52 + 3 = 55 := by decide +kernel
theorem e_X3_figure_55 : decode cX3_figure 55 = .ok (.iconst 1, 1) ∧ 55 + 1 = 56 := by decide +kernel
theorem e_X3_figure_56 : decode cX3_figure 56 = .ok (.isub, 1) ∧ 56 + 1 = 57 := by decide +kernel
theorem e_X3_figure_57 : decode cX3_figure 57 = .ok (.iaload, 1) ∧ 57 + 1 = 58 := by decide +kernel
theorem e_X3_figure_58 : decode cX3_figure 58 = .ok (.bipush 48, 2) ∧ 58 + 2 = 60 := by decide +kernel
theorem e_X3_figure_60 : decode cX3_figure 60 = .ok (.isub, 1) ∧ 60 + 1 = 61 := by decide +kernel
theorem e_X3_figure_61 : decode cX3_figure 61 = .ok (.ireturn, 1) := by decide +kernel
theorem e_X3_readCellOf_0 : decode cX3_readCellOf 0 = .ok (.aload_n 0, 1) ∧ 0 + 1 = 1 := by decide +kernel
theorem e_X3_readCellOf_1 : decode cX3_readCellOf 1 = .ok (.getfield 65, 3) ∧ 1 + 3 = 4 := by decide +kernel
theorem e_X3_readCellOf_4 : decode cX3_readCellOf 4 = .ok (.aload_n 0, 1) ∧ 4 + 1 = 5 := by decide +kernel
theorem e_X3_readCellOf_5 : decode cX3_readCellOf 5 = .ok (.getfield 62, 3) ∧ 5 + 3 = 8 := by decide +kernel
theorem e_X3_readCellOf_8 : decode cX3_readCellOf 8 = .ok (.if_icmp .ge 18, 3) ∧ 8 + 3 = 11 ∧ ((8 : Nat) : Int) + (18) = ((26 : Nat) : Int) := by decide +kernel
theorem e_X3_readCellOf_11 : decode cX3_readCellOf 11 = .ok (.aload_n 0, 1) ∧ 11 + 1 = 12 := by decide +kernel
theorem e_X3_readCellOf_12 : decode cX3_readCellOf 12 = .ok (.getfield 7, 3) ∧ 12 + 3 = 15 := by decide +kernel
theorem e_X3_readCellOf_15 : decode cX3_readCellOf 15 = .ok (.aload_n 0, 1) ∧ 15 + 1 = 16 := by decide +kernel
theorem e_X3_readCellOf_16 : decode cX3_readCellOf 16 = .ok (.getfield 65, 3) ∧ 16 + 3 = 19 := by decide +kernel
theorem e_X3_readCellOf_19 : decode cX3_readCellOf 19 = .ok (.iaload, 1) ∧ 19 + 1 = 20 := by decide +kernel
theorem e_X3_readCellOf_20 : decode cX3_readCellOf 20 = .ok (.bipush 48, 2) ∧ 20 + 2 = 22 := by decide +kernel
theorem e_X3_readCellOf_22 : decode cX3_readCellOf 22 = .ok (.isub, 1) ∧ 22 + 1 = 23 := by decide +kernel
theorem e_X3_readCellOf_23 : decode cX3_readCellOf 23 = .ok (.goto 5, 3) ∧ 23 + 3 = 26 ∧ ((23 : Nat) : Int) + (5) = ((28 : Nat) : Int) := by decide +kernel
theorem e_X3_readCellOf_26 : decode cX3_readCellOf 26 = .ok (.bipush (-9), 2) ∧ 26 + 2 = 28 := by decide +kernel
theorem e_X3_readCellOf_28 : decode cX3_readCellOf 28 = .ok (.istore_n 2, 1) ∧ 28 + 1 = 29 := by decide +kernel
theorem e_X3_readCellOf_29 : decode cX3_readCellOf 29 = .ok (.iload_n 2, 1) ∧ 29 + 1 = 30 := by decide +kernel
theorem e_X3_readCellOf_30 : decode cX3_readCellOf 30 = .ok (.ifCond .ne 9, 3) ∧ 30 + 3 = 33 ∧ ((30 : Nat) : Int) + (9) = ((39 : Nat) : Int) := by decide +kernel
theorem e_X3_readCellOf_33 : decode cX3_readCellOf 33 = .ok (.sipush 1023, 3) ∧ 33 + 3 = 36 := by decide +kernel
theorem e_X3_readCellOf_36 : decode cX3_readCellOf 36 = .ok (.goto 6, 3) ∧ 36 + 3 = 39 ∧ ((36 : Nat) : Int) + (6) = ((42 : Nat) : Int) := by decide +kernel
theorem e_X3_readCellOf_39 : decode cX3_readCellOf 39 = .ok (.sipush 3072, 3) ∧ 39 + 3 = 42 := by decide +kernel
theorem e_X3_readCellOf_42 : decode cX3_readCellOf 42 = .ok (.istore_n 3, 1) ∧ 42 + 1 = 43 := by decide +kernel
theorem e_X3_readCellOf_43 : decode cX3_readCellOf 43 = .ok (.iload_n 2, 1) ∧ 43 + 1 = 44 := by decide +kernel
theorem e_X3_readCellOf_44 : decode cX3_readCellOf 44 = .ok (.i2l, 1) ∧ 44 + 1 = 45 := by decide +kernel
theorem e_X3_readCellOf_45 : decode cX3_readCellOf 45 = .ok (.lconst 0, 1) ∧ 45 + 1 = 46 := by decide +kernel
theorem e_X3_readCellOf_46 : decode cX3_readCellOf 46 = .ok (.lconst 1, 1) ∧ 46 + 1 = 47 := by decide +kernel
theorem e_X3_readCellOf_47 : decode cX3_readCellOf 47 = .ok (.invokestatic 54, 3) ∧ 47 + 3 = 50 := by decide +kernel
theorem e_X3_readCellOf_50 : decode cX3_readCellOf 50 = .ok (.ifCond .eq 10, 3) ∧ 50 + 3 = 53 ∧ ((50 : Nat) : Int) + (10) = ((60 : Nat) : Int) := by decide +kernel
theorem e_X3_readCellOf_53 : decode cX3_readCellOf 53 = .ok (.iload_n 1, 1) ∧ 53 + 1 = 54 := by decide +kernel
theorem e_X3_readCellOf_54 : decode cX3_readCellOf 54 = .ok (.iload_n 3, 1) ∧ 54 + 1 = 55 := by decide +kernel
theorem e_X3_readCellOf_55 : decode cX3_readCellOf 55 = .ok (.iand, 1) ∧ 55 + 1 = 56 := by decide +kernel
theorem e_X3_readCellOf_56 : decode cX3_readCellOf 56 = .ok (.iload_n 3, 1) ∧ 56 + 1 = 57 := by decide +kernel
theorem e_X3_readCellOf_57 : decode cX3_readCellOf 57 = .ok (.if_icmp .ne 6, 3) ∧ 57 + 3 = 60 ∧ ((57 : Nat) : Int) + (6) = ((63 : Nat) : Int) := by decide +kernel
theorem e_X3_readCellOf_60 : decode cX3_readCellOf 60 = .ok (.bipush (-9), 2) ∧ 60 + 2 = 62 := by decide +kernel
theorem e_X3_readCellOf_62 : decode cX3_readCellOf 62 = .ok (.ireturn, 1) := by decide +kernel
theorem e_X3_readCellOf_63 : decode cX3_readCellOf 63 = .ok (.aload_n 0, 1) ∧ 63 + 1 = 64 := by decide +kernel
theorem e_X3_readCellOf_64 : decode cX3_readCellOf 64 = .ok (.dup, 1) ∧ 64 + 1 = 65 := by decide +kernel
theorem e_X3_readCellOf_65 : decode cX3_readCellOf 65 = .ok (.getfield 65, 3) ∧ 65 + 3 = 68 := by decide +kernel
theorem e_X3_readCellOf_68 : decode cX3_readCellOf 68 = .ok (.iconst 1, 1) ∧ 68 + 1 = 69 := by decide +kernel
theorem e_X3_readCellOf_69 : decode cX3_readCellOf 69 = .ok (.iadd, 1) ∧ 69 + 1 = 70 := by decide +kernel
theorem e_X3_readCellOf_70 : decode cX3_readCellOf 70 = .ok (.putfield 65, 3) ∧ 70 + 3 = 73 := by decide +kernel
theorem e_X3_readCellOf_73 : decode cX3_readCellOf 73 = .ok (.aload_n 0, 1) ∧ 73 + 1 = 74 := by decide +kernel
theorem e_X3_readCellOf_74 : decode cX3_readCellOf 74 = .ok (.getfield 65, 3) ∧ 74 + 3 = 77 := by decide +kernel
theorem e_X3_readCellOf_77 : decode cX3_readCellOf 77 = .ok (.aload_n 0, 1) ∧ 77 + 1 = 78 := by decide +kernel
theorem e_X3_readCellOf_78 : decode cX3_readCellOf 78 = .ok (.getfield 62, 3) ∧ 78 + 3 = 81 := by decide +kernel
theorem e_X3_readCellOf_81 : decode cX3_readCellOf 81 = .ok (.if_icmp .ge 18, 3) ∧ 81 + 3 = 84 ∧ ((81 : Nat) : Int) + (18) = ((99 : Nat) : Int) := by decide +kernel
theorem e_X3_readCellOf_84 : decode cX3_readCellOf 84 = .ok (.aload_n 0, 1) ∧ 84 + 1 = 85 := by decide +kernel
theorem e_X3_readCellOf_85 : decode cX3_readCellOf 85 = .ok (.getfield 7, 3) ∧ 85 + 3 = 88 := by decide +kernel
theorem e_X3_readCellOf_88 : decode cX3_readCellOf 88 = .ok (.aload_n 0, 1) ∧ 88 + 1 = 89 := by decide +kernel
theorem e_X3_readCellOf_89 : decode cX3_readCellOf 89 = .ok (.getfield 65, 3) ∧ 89 + 3 = 92 := by decide +kernel
theorem e_X3_readCellOf_92 : decode cX3_readCellOf 92 = .ok (.iaload, 1) ∧ 92 + 1 = 93 := by decide +kernel
theorem e_X3_readCellOf_93 : decode cX3_readCellOf 93 = .ok (.bipush 48, 2) ∧ 93 + 2 = 95 := by decide +kernel
theorem e_X3_readCellOf_95 : decode cX3_readCellOf 95 = .ok (.isub, 1) ∧ 95 + 1 = 96 := by decide +kernel
theorem e_X3_readCellOf_96 : decode cX3_readCellOf 96 = .ok (.goto 5, 3) ∧ 96 + 3 = 99 ∧ ((96 : Nat) : Int) + (5) = ((101 : Nat) : Int) := by decide +kernel
theorem e_X3_readCellOf_99 : decode cX3_readCellOf 99 = .ok (.bipush (-9), 2) ∧ 99 + 2 = 101 := by decide +kernel
theorem e_X3_readCellOf_101 : decode cX3_readCellOf 101 = .ok (.istore 4, 2) ∧ 101 + 2 = 103 := by decide +kernel
theorem e_X3_readCellOf_103 : decode cX3_readCellOf 103 = .ok (.iload 4, 2) ∧ 103 + 2 = 105 := by decide +kernel
theorem e_X3_readCellOf_105 : decode cX3_readCellOf 105 = .ok (.i2l, 1) ∧ 105 + 1 = 106 := by decide +kernel
theorem e_X3_readCellOf_106 : decode cX3_readCellOf 106 = .ok (.lconst 0, 1) ∧ 106 + 1 = 107 := by decide +kernel
theorem e_X3_readCellOf_107 : decode cX3_readCellOf 107 = .ok (.iload_n 2, 1) ∧ 107 + 1 = 108 := by decide +kernel
theorem e_X3_readCellOf_108 : decode cX3_readCellOf 108 = .ok (.ifCond .ne 9, 3) ∧ 108 + 3 = 111 ∧ ((108 : Nat) : Int) + (9) = ((117 : Nat) : Int) := by decide +kernel
theorem e_X3_readCellOf_111 : decode cX3_readCellOf 111 = .ok (.ldc2_w 68, 3) ∧ 111 + 3 = 114 := by decide +kernel
theorem e_X3_readCellOf_114 : decode cX3_readCellOf 114 = .ok (.goto 4, 3) ∧ 114 + 3 = 117 ∧ ((114 : Nat) : Int) + (4) = ((118 : Nat) : Int) := by decide +kernel
theorem e_X3_readCellOf_117 : decode cX3_readCellOf 117 = .ok (.lconst 1, 1) ∧ 117 + 1 = 118 := by decide +kernel
theorem e_X3_readCellOf_118 : decode cX3_readCellOf 118 = .ok (.invokestatic 54, 3) ∧ 118 + 3 = 121 := by decide +kernel
theorem e_X3_readCellOf_121 : decode cX3_readCellOf 121 = .ok (.ifCond .eq 17, 3) ∧ 121 + 3 = 124 ∧ ((121 : Nat) : Int) + (17) = ((138 : Nat) : Int) := by decide +kernel
theorem e_X3_readCellOf_124 : decode cX3_readCellOf 124 = .ok (.iload_n 1, 1) ∧ 124 + 1 = 125 := by decide +kernel
theorem e_X3_readCellOf_125 : decode cX3_readCellOf 125 = .ok (.bipush 10, 2) ∧ 125 + 2 = 127 := by decide +kernel
theorem e_X3_readCellOf_127 : decode cX3_readCellOf 127 = .ok (.iload_n 2, 1) ∧ 127 + 1 = 128 := by decide +kernel
theorem e_X3_readCellOf_128 : decode cX3_readCellOf 128 = .ok (.imul, 1) ∧ 128 + 1 = 129 := by decide +kernel
theorem e_X3_readCellOf_129 : decode cX3_readCellOf 129 = .ok (.iload 4, 2) ∧ 129 + 2 = 131 := by decide +kernel
theorem e_X3_readCellOf_131 : decode cX3_readCellOf 131 = .ok (.iadd, 1) ∧ 131 + 1 = 132 := by decide +kernel
theorem e_X3_readCellOf_132 : decode cX3_readCellOf 132 = .ok (.invokestatic 70, 3) ∧ 132 + 3 = 135 := by decide +kernel
theorem e_X3_readCellOf_135 : decode cX3_readCellOf 135 = .ok (.ifCond .eq 6, 3) ∧ 135 + 3 = 138 ∧ ((135 : Nat) : Int) + (6) = ((141 : Nat) : Int) := by decide +kernel
theorem e_X3_readCellOf_138 : decode cX3_readCellOf 138 = .ok (.bipush (-9), 2) ∧ 138 + 2 = 140 := by decide +kernel
theorem e_X3_readCellOf_140 : decode cX3_readCellOf 140 = .ok (.ireturn, 1) := by decide +kernel
theorem e_X3_readCellOf_141 : decode cX3_readCellOf 141 = .ok (.aload_n 0, 1) ∧ 141 + 1 = 142 := by decide +kernel
theorem e_X3_readCellOf_142 : decode cX3_readCellOf 142 = .ok (.dup, 1) ∧ 142 + 1 = 143 := by decide +kernel
theorem e_X3_readCellOf_143 : decode cX3_readCellOf 143 = .ok (.getfield 65, 3) ∧ 143 + 3 = 146 := by decide +kernel
theorem e_X3_readCellOf_146 : decode cX3_readCellOf 146 = .ok (.iconst 1, 1) ∧ 146 + 1 = 147 := by decide +kernel
theorem e_X3_readCellOf_147 : decode cX3_readCellOf 147 = .ok (.iadd, 1) ∧ 147 + 1 = 148 := by decide +kernel
theorem e_X3_readCellOf_148 : decode cX3_readCellOf 148 = .ok (.putfield 65, 3) ∧ 148 + 3 = 151 := by decide +kernel
theorem e_X3_readCellOf_151 : decode cX3_readCellOf 151 = .ok (.bipush 10, 2) ∧ 151 + 2 = 153 := by decide +kernel
theorem e_X3_readCellOf_153 : decode cX3_readCellOf 153 = .ok (.iload_n 2, 1) ∧ 153 + 1 = 154 := by decide +kernel
theorem e_X3_readCellOf_154 : decode cX3_readCellOf 154 = .ok (.imul, 1) ∧ 154 + 1 = 155 := by decide +kernel
theorem e_X3_readCellOf_155 : decode cX3_readCellOf 155 = .ok (.iload 4, 2) ∧ 155 + 2 = 157 := by decide +kernel
theorem e_X3_readCellOf_157 : decode cX3_readCellOf 157 = .ok (.iadd, 1) ∧ 157 + 1 = 158 := by decide +kernel
theorem e_X3_readCellOf_158 : decode cX3_readCellOf 158 = .ok (.ireturn, 1) := by decide +kernel
theorem e_X3_readCell_0 : decode cX3_readCell 0 = .ok (.aload_n 0, 1) ∧ 0 + 1 = 1 := by decide +kernel
theorem e_X3_readCell_1 : decode cX3_readCell 1 = .ok (.aload_n 0, 1) ∧ 1 + 1 = 2 := by decide +kernel
theorem e_X3_readCell_2 : decode cX3_readCell 2 = .ok (.getfield 74, 3) ∧ 2 + 3 = 5 := by decide +kernel
theorem e_X3_readCell_5 : decode cX3_readCell 5 = .ok (.invokevirtual 77, 3) ∧ 5 + 3 = 8 := by decide +kernel
theorem e_X3_readCell_8 : decode cX3_readCell 8 = .ok (.istore_n 1, 1) ∧ 8 + 1 = 9 := by decide +kernel
theorem e_X3_readCell_9 : decode cX3_readCell 9 = .ok (.iload_n 1, 1) ∧ 9 + 1 = 10 := by decide +kernel
theorem e_X3_readCell_10 : decode cX3_readCell 10 = .ok (.bipush (-9), 2) ∧ 10 + 2 = 12 := by decide +kernel
theorem e_X3_readCell_12 : decode cX3_readCell 12 = .ok (.if_icmp .ne 8, 3) ∧ 12 + 3 = 15 ∧ ((12 : Nat) : Int) + (8) = ((20 : Nat) : Int) := by decide +kernel
theorem e_X3_readCell_15 : decode cX3_readCell 15 = .ok (.bipush (-9), 2) ∧ 15 + 2 = 17 := by decide +kernel
theorem e_X3_readCell_17 : decode cX3_readCell 17 = .ok (.goto 10, 3) ∧ 17 + 3 = 20 ∧ ((17 : Nat) : Int) + (10) = ((27 : Nat) : Int) := by decide +kernel
theorem e_X3_readCell_20 : decode cX3_readCell 20 = .ok (.aload_n 0, 1) ∧ 20 + 1 = 21 := by decide +kernel
theorem e_X3_readCell_21 : decode cX3_readCell 21 = .ok (.iconst 0, 1) ∧ 21 + 1 = 22 := by decide +kernel
theorem e_X3_readCell_22 : decode cX3_readCell 22 = .ok (.bipush 9, 2) ∧ 22 + 2 = 24 := by decide +kernel
theorem e_X3_readCell_24 : decode cX3_readCell 24 = .ok (.invokevirtual 81, 3) ∧ 24 + 3 = 27 := by decide +kernel
theorem e_X3_readCell_27 : decode cX3_readCell 27 = .ok (.istore_n 2, 1) ∧ 27 + 1 = 28 := by decide +kernel
theorem e_X3_readCell_28 : decode cX3_readCell 28 = .ok (.iload_n 2, 1) ∧ 28 + 1 = 29 := by decide +kernel
theorem e_X3_readCell_29 : decode cX3_readCell 29 = .ok (.bipush (-9), 2) ∧ 29 + 2 = 31 := by decide +kernel
theorem e_X3_readCell_31 : decode cX3_readCell 31 = .ok (.if_icmp .ne 8, 3) ∧ 31 + 3 = 34 ∧ ((31 : Nat) : Int) + (8) = ((39 : Nat) : Int) := by decide +kernel
theorem e_X3_readCell_34 : decode cX3_readCell 34 = .ok (.bipush (-9), 2) ∧ 34 + 2 = 36 := by decide +kernel
theorem e_X3_readCell_36 : decode cX3_readCell 36 = .ok (.goto 10, 3) ∧ 36 + 3 = 39 ∧ ((36 : Nat) : Int) + (10) = ((46 : Nat) : Int) := by decide +kernel
theorem e_X3_readCell_39 : decode cX3_readCell 39 = .ok (.aload_n 0, 1) ∧ 39 + 1 = 40 := by decide +kernel
theorem e_X3_readCell_40 : decode cX3_readCell 40 = .ok (.iconst 0, 1) ∧ 40 + 1 = 41 := by decide +kernel
theorem e_X3_readCell_41 : decode cX3_readCell 41 = .ok (.bipush 9, 2) ∧ 41 + 2 = 43 := by decide +kernel
theorem e_X3_readCell_43 : decode cX3_readCell 43 = .ok (.invokevirtual 81, 3) ∧ 43 + 3 = 46 := by decide +kernel
theorem e_X3_readCell_46 : decode cX3_readCell 46 = .ok (.istore_n 3, 1) ∧ 46 + 1 = 47 := by decide +kernel
theorem e_X3_readCell_47 : decode cX3_readCell 47 = .ok (.iload_n 3, 1) ∧ 47 + 1 = 48 := by decide +kernel
theorem e_X3_readCell_48 : decode cX3_readCell 48 = .ok (.bipush (-9), 2) ∧ 48 + 2 = 50 := by decide +kernel
theorem e_X3_readCell_50 : decode cX3_readCell 50 = .ok (.if_icmp .ne 8, 3) ∧ 50 + 3 = 53 ∧ ((50 : Nat) : Int) + (8) = ((58 : Nat) : Int) := by decide +kernel
theorem e_X3_readCell_53 : decode cX3_readCell 53 = .ok (.bipush (-9), 2) ∧ 53 + 2 = 55 := by decide +kernel
theorem e_X3_readCell_55 : decode cX3_readCell 55 = .ok (.goto 10, 3) ∧ 55 + 3 = 58 ∧ ((55 : Nat) : Int) + (10) = ((65 : Nat) : Int) := by decide +kernel
theorem e_X3_readCell_58 : decode cX3_readCell 58 = .ok (.aload_n 0, 1) ∧ 58 + 1 = 59 := by decide +kernel
theorem e_X3_readCell_59 : decode cX3_readCell 59 = .ok (.iconst 0, 1) ∧ 59 + 1 = 60 := by decide +kernel
theorem e_X3_readCell_60 : decode cX3_readCell 60 = .ok (.bipush 9, 2) ∧ 60 + 2 = 62 := by decide +kernel
theorem e_X3_readCell_62 : decode cX3_readCell 62 = .ok (.invokevirtual 81, 3) ∧ 62 + 3 = 65 := by decide +kernel
theorem e_X3_readCell_65 : decode cX3_readCell 65 = .ok (.istore 4, 2) ∧ 65 + 2 = 67 := by decide +kernel
theorem e_X3_readCell_67 : decode cX3_readCell 67 = .ok (.iload 4, 2) ∧ 67 + 2 = 69 := by decide +kernel
theorem e_X3_readCell_69 : decode cX3_readCell 69 = .ok (.bipush (-9), 2) ∧ 69 + 2 = 71 := by decide +kernel
theorem e_X3_readCell_71 : decode cX3_readCell 71 = .ok (.if_icmp .ne 5, 3) ∧ 71 + 3 = 74 ∧ ((71 : Nat) : Int) + (5) = ((76 : Nat) : Int) := by decide +kernel
theorem e_X3_readCell_74 : decode cX3_readCell 74 = .ok (.iconst 0, 1) ∧ 74 + 1 = 75 := by decide +kernel
theorem e_X3_readCell_75 : decode cX3_readCell 75 = .ok (.ireturn, 1) := by decide +kernel
theorem e_X3_readCell_76 : decode cX3_readCell 76 = .ok (.aload_n 0, 1) ∧ 76 + 1 = 77 := by decide +kernel
theorem e_X3_readCell_77 : decode cX3_readCell 77 = .ok (.dup, 1) ∧ 77 + 1 = 78 := by decide +kernel
theorem e_X3_readCell_78 : decode cX3_readCell 78 = .ok (.getfield 74, 3) ∧ 78 + 3 = 81 := by decide +kernel
theorem e_X3_readCell_81 : decode cX3_readCell 81 = .ok (.iconst 1, 1) ∧ 81 + 1 = 82 := by decide +kernel
