theorem dX0_init_0 : decode cX0_init 0 = .ok (.aload_n 0, 1) := by decide +kernel
theorem dX0_init_1 : decode cX0_init 1 = .ok (.invokespecial 3, 3) := by decide +kernel
theorem dX0_init_4 : decode cX0_init 4 = .ok (.aload_n 0, 1) := by decide +kernel
theorem dX0_init_5 : decode cX0_init 5 = .ok (.bipush 8, 2) := by decide +kernel
theorem dX0_init_7 : decode cX0_init 7 = .ok (.newarray .int, 2) := by decide +kernel
theorem dX0_init_9 : decode cX0_init 9 = .ok (.putfield 9, 3) := by decide +kernel
theorem dX0_init_12 : decode cX0_init 12 = .ok (.aload_n 0, 1) := by decide +kernel
theorem dX0_init_13 : decode cX0_init 13 = .ok (.bipush 8, 2) := by decide +kernel
theorem dX0_init_15 : decode cX0_init 15 = .ok (.newarray .int, 2) := by decide +kernel
theorem dX0_init_17 : decode cX0_init 17 = .ok (.putfield 15, 3) := by decide +kernel
theorem dX0_init_20 : decode cX0_init 20 = .ok (.aload_n 0, 1) := by decide +kernel
theorem dX0_init_21 : decode cX0_init 21 = .ok (.bipush 8, 2) := by decide +kernel
theorem dX0_init_23 : decode cX0_init 23 = .ok (.newarray .int, 2) := by decide +kernel
theorem dX0_init_25 : decode cX0_init 25 = .ok (.putfield 18, 3) := by decide +kernel
theorem dX0_init_28 : decode cX0_init 28 = .ok (.aload_n 0, 1) := by decide +kernel
theorem dX0_init_29 : decode cX0_init 29 = .ok (.bipush 8, 2) := by decide +kernel
theorem dX0_init_31 : decode cX0_init 31 = .ok (.newarray .int, 2) := by decide +kernel
theorem dX0_init_33 : decode cX0_init 33 = .ok (.putfield 21, 3) := by decide +kernel
theorem dX0_init_36 : decode cX0_init 36 = .ok (.aload_n 0, 1) := by decide +kernel
theorem dX0_init_37 : decode cX0_init 37 = .ok (.bipush 8, 2) := by decide +kernel
theorem dX0_init_39 : decode cX0_init 39 = .ok (.newarray .int, 2) := by decide +kernel
theorem dX0_init_41 : decode cX0_init 41 = .ok (.putfield 24, 3) := by decide +kernel
theorem dX0_init_44 : decode cX0_init 44 = .ok (.aload_n 0, 1) := by decide +kernel
theorem dX0_init_45 : decode cX0_init 45 = .ok (.bipush 8, 2) := by decide +kernel
theorem dX0_init_47 : decode cX0_init 47 = .ok (.newarray .int, 2) := by decide +kernel
theorem dX0_init_49 : decode cX0_init 49 = .ok (.putfield 27, 3) := by decide +kernel
theorem dX0_init_52 : decode cX0_init 52 = .ok (.aload_n 0, 1) := by decide +kernel
theorem dX0_init_53 : decode cX0_init 53 = .ok (.bipush 8, 2) := by decide +kernel
theorem dX0_init_55 : decode cX0_init 55 = .ok (.newarray .int, 2) := by decide +kernel
theorem dX0_init_57 : decode cX0_init 57 = .ok (.putfield 30, 3) := by decide +kernel
theorem dX0_init_60 : decode cX0_init 60 = .ok (.return_, 1) := by decide +kernel
theorem dX0_copyFrom_0 : decode cX0_copyFrom 0 = .ok (.aload_n 0, 1) := by decide +kernel
theorem dX0_copyFrom_1 : decode cX0_copyFrom 1 = .ok (.aload_n 1, 1) := by decide +kernel
theorem dX0_copyFrom_2 : decode cX0_copyFrom 2 = .ok (.getfield 33, 3) := by decide +kernel
theorem dX0_copyFrom_5 : decode cX0_copyFrom 5 = .ok (.putfield 33, 3) := by decide +kernel
theorem dX0_copyFrom_8 : decode cX0_copyFrom 8 = .ok (.aload_n 1, 1) := by decide +kernel
theorem dX0_copyFrom_9 : decode cX0_copyFrom 9 = .ok (.getfield 9, 3) := by decide +kernel
theorem dX0_copyFrom_12 : decode cX0_copyFrom 12 = .ok (.iconst 0, 1) := by decide +kernel
theorem dX0_copyFrom_13 : decode cX0_copyFrom 13 = .ok (.aload_n 0, 1) := by decide +kernel
theorem dX0_copyFrom_14 : decode cX0_copyFrom 14 = .ok (.getfield 9, 3) := by decide +kernel
theorem dX0_copyFrom_17 : decode cX0_copyFrom 17 = .ok (.iconst 0, 1) := by decide +kernel
theorem dX0_copyFrom_18 : decode cX0_copyFrom 18 = .ok (.aload_n 0, 1) := by decide +kernel
theorem dX0_copyFrom_19 : decode cX0_copyFrom 19 = .ok (.getfield 33, 3) := by decide +kernel
theorem dX0_copyFrom_22 : decode cX0_copyFrom 22 = .ok (.invokestatic 37, 3) := by decide +kernel
theorem dX0_copyFrom_25 : decode cX0_copyFrom 25 = .ok (.aload_n 1, 1) := by decide +kernel
theorem dX0_copyFrom_26 : decode cX0_copyFrom 26 = .ok (.getfield 15, 3) := by decide +kernel
theorem dX0_copyFrom_29 : decode cX0_copyFrom 29 = .ok (.iconst 0, 1) := by decide +kernel
theorem dX0_copyFrom_30 : decode cX0_copyFrom 30 = .ok (.aload_n 0, 1) := by decide +kernel
theorem dX0_copyFrom_31 : decode cX0_copyFrom 31 = .ok (.getfield 15, 3) := by decide +kernel
theorem dX0_copyFrom_34 : decode cX0_copyFrom 34 = .ok (.iconst 0, 1) := by decide +kernel
theorem dX0_copyFrom_35 : decode cX0_copyFrom 35 = .ok (.aload_n 0, 1) := by decide +kernel
theorem dX0_copyFrom_36 : decode cX0_copyFrom 36 = .ok (.getfield 33, 3) := by decide +kernel
theorem dX0_copyFrom_39 : decode cX0_copyFrom 39 = .ok (.invokestatic 37, 3) := by decide +kernel
theorem dX0_copyFrom_42 : decode cX0_copyFrom 42 = .ok (.aload_n 1, 1) := by decide +kernel
theorem dX0_copyFrom_43 : decode cX0_copyFrom 43 = .ok (.getfield 18, 3) := by decide +kernel
theorem dX0_copyFrom_46 : decode cX0_copyFrom 46 = .ok (.iconst 0, 1) := by decide +kernel
theorem dX0_copyFrom_47 : decode cX0_copyFrom 47 = .ok (.aload_n 0, 1) := by decide +kernel
theorem dX0_copyFrom_48 : decode cX0_copyFrom 48 = .ok (.getfield 18, 3) := by decide +kernel
theorem dX0_copyFrom_51 : decode cX0_copyFrom 51 = .ok (.iconst 0, 1) := by decide +kernel
theorem dX0_copyFrom_52 : decode cX0_copyFrom 52 = .ok (.aload_n 0, 1) := by decide +kernel
theorem dX0_copyFrom_53 : decode cX0_copyFrom 53 = .ok (.getfield 33, 3) := by decide +kernel
theorem dX0_copyFrom_56 : decode cX0_copyFrom 56 = .ok (.invokestatic 37, 3) := by decide +kernel
theorem dX0_copyFrom_59 : decode cX0_copyFrom 59 = .ok (.aload_n 1, 1) := by decide +kernel
theorem dX0_copyFrom_60 : decode cX0_copyFrom 60 = .ok (.getfield 21, 3) := by decide +kernel
theorem dX0_copyFrom_63 : decode cX0_copyFrom 63 = .ok (.iconst 0, 1) := by decide +kernel
theorem dX0_copyFrom_64 : decode cX0_copyFrom 64 = .ok (.aload_n 0, 1) := by decide +kernel
theorem dX0_copyFrom_65 : decode cX0_copyFrom 65 = .ok (.getfield 21, 3) := by decide +kernel
theorem dX0_copyFrom_68 : decode cX0_copyFrom 68 = .ok (.iconst 0, 1) := by decide +kernel
theorem dX0_copyFrom_69 : decode cX0_copyFrom 69 = .ok (.aload_n 0, 1) := by decide +kernel
theorem dX0_copyFrom_70 : decode cX0_copyFrom 70 = .ok (.getfield 33, 3) := by decide +kernel
theorem dX0_copyFrom_73 : decode cX0_copyFrom 73 = .ok (.invokestatic 37, 3) := by decide +kernel
theorem dX0_copyFrom_76 : decode cX0_copyFrom 76 = .ok (.aload_n 1, 1) := by decide +kernel
theorem dX0_copyFrom_77 : decode cX0_copyFrom 77 = .ok (.getfield 24, 3) := by decide +kernel
theorem dX0_copyFrom_80 : decode cX0_copyFrom 80 = .ok (.iconst 0, 1) := by decide +kernel
theorem dX0_copyFrom_81 : decode cX0_copyFrom 81 = .ok (.aload_n 0, 1) := by decide +kernel
theorem dX0_copyFrom_82 : decode cX0_copyFrom 82 = .ok (.getfield 24, 3) := by decide +kernel
theorem dX0_copyFrom_85 : decode cX0_copyFrom 85 = .ok (.iconst 0, 1) := by decide +kernel
theorem dX0_copyFrom_86 : decode cX0_copyFrom 86 = .ok (.aload_n 0, 1) := by decide +kernel
theorem dX0_copyFrom_87 : decode cX0_copyFrom 87 = .ok (.getfield 33, 3) := by decide +kernel
theorem dX0_copyFrom_90 : decode cX0_copyFrom 90 = .ok (.invokestatic 37, 3) := by decide +kernel
theorem dX0_copyFrom_93 : decode cX0_copyFrom 93 = .ok (.aload_n 1, 1) := by decide +kernel
theorem dX0_copyFrom_94 : decode cX0_copyFrom 94 = .ok (.getfield 27, 3) := by decide +kernel
theorem dX0_copyFrom_97 : decode cX0_copyFrom 97 = .ok (.iconst 0, 1) := by decide +kernel
theorem dX0_copyFrom_98 : decode cX0_copyFrom 98 = .ok (.aload_n 0, 1) := by decide +kernel
theorem dX0_copyFrom_99 : decode cX0_copyFrom 99 = .ok (.getfield 27, 3) := by decide +kernel
theorem dX0_copyFrom_102 : decode cX0_copyFrom 102 = .ok (.iconst 0, 1) := by decide +kernel
theorem dX0_copyFrom_103 : decode cX0_copyFrom 103 = .ok (.aload_n 0, 1) := by decide +kernel
theorem dX0_copyFrom_104 : decode cX0_copyFrom 104 = .ok (.getfield 33, 3) := by decide +kernel
theorem dX0_copyFrom_107 : decode cX0_copyFrom 107 = .ok (.invokestatic 37, 3) := by decide +kernel
theorem dX0_copyFrom_110 : decode cX0_copyFrom 110 = .ok (.aload_n 1, 1) := by decide +kernel
theorem dX0_copyFrom_111 : decode cX0_copyFrom 111 = .ok (.getfield 30, 3) := by decide +kernel
theorem dX0_copyFrom_114 : decode cX0_copyFrom 114 = .ok (.iconst 0, 1) := by decide +kernel
theorem dX0_copyFrom_115 : decode cX0_copyFrom 115 = .ok (.aload_n 0, 1) := by decide +kernel
theorem dX0_copyFrom_116 : decode cX0_copyFrom 116 = .ok (.getfield 30, 3) := by decide +kernel
theorem dX0_copyFrom_119 : decode cX0_copyFrom 119 = .ok (.iconst 0, 1) := by decide +kernel
theorem dX0_copyFrom_120 : decode cX0_copyFrom 120 = .ok (.aload_n 0, 1) := by decide +kernel
theorem dX0_copyFrom_121 : decode cX0_copyFrom 121 = .ok (.getfield 33, 3) := by decide +kernel
theorem dX0_copyFrom_124 : decode cX0_copyFrom 124 = .ok (.invokestatic 37, 3) := by decide +kernel
theorem dX0_copyFrom_127 : decode cX0_copyFrom 127 = .ok (.return_, 1) := by decide +kernel
theorem dX0_has_0 : decode cX0_has 0 = .ok (.iload_n 1, 1) := by decide +kernel
theorem dX0_has_1 : decode cX0_has 1 = .ok (.ifCond .lt 15, 3) := by decide +kernel
theorem dX0_has_4 : decode cX0_has 4 = .ok (.iload_n 1, 1) := by decide +kernel
theorem dX0_has_5 : decode cX0_has 5 = .ok (.aload_n 0, 1) := by decide +kernel
theorem dX0_has_6 : decode cX0_has 6 = .ok (.getfield 33, 3) := by decide +kernel
theorem dX0_has_9 : decode cX0_has 9 = .ok (.if_icmp .ge 7, 3) := by decide +kernel
theorem dX0_has_12 : decode cX0_has 12 = .ok (.iconst 1, 1) := by decide +kernel
theorem dX0_has_13 : decode cX0_has 13 = .ok (.goto 4, 3) := by decide +kernel
theorem dX0_has_16 : decode cX0_has 16 = .ok (.iconst 0, 1) := by decide +kernel
theorem dX0_has_17 : decode cX0_has 17 = .ok (.ireturn, 1) := by decide +kernel
theorem dX0_hasRoom_0 : decode cX0_hasRoom 0 = .ok (.aload_n 0, 1) := by decide +kernel
theorem dX0_hasRoom_1 : decode cX0_hasRoom 1 = .ok (.getfield 33, 3) := by decide +kernel
theorem dX0_hasRoom_4 : decode cX0_hasRoom 4 = .ok (.bipush 8, 2) := by decide +kernel
theorem dX0_hasRoom_6 : decode cX0_hasRoom 6 = .ok (.if_icmp .ge 7, 3) := by decide +kernel
theorem dX0_hasRoom_9 : decode cX0_hasRoom 9 = .ok (.iconst 1, 1) := by decide +kernel
theorem dX0_hasRoom_10 : decode cX0_hasRoom 10 = .ok (.goto 4, 3) := by decide +kernel
theorem dX0_hasRoom_13 : decode cX0_hasRoom 13 = .ok (.iconst 0, 1) := by decide +kernel
theorem dX0_hasRoom_14 : decode cX0_hasRoom 14 = .ok (.ireturn, 1) := by decide +kernel
theorem dX0_add_0 : decode cX0_add 0 = .ok (.aload_n 0, 1) := by decide +kernel
theorem dX0_add_1 : decode cX0_add 1 = .ok (.getfield 33, 3) := by decide +kernel
theorem dX0_add_4 : decode cX0_add 4 = .ok (.istore 5, 2) := by decide +kernel
theorem dX0_add_6 : decode cX0_add 6 = .ok (.aload_n 0, 1) := by decide +kernel
theorem dX0_add_7 : decode cX0_add 7 = .ok (.getfield 9, 3) := by decide +kernel
theorem dX0_add_10 : decode cX0_add 10 = .ok (.iload 5, 2) := by decide +kernel
theorem dX0_add_12 : decode cX0_add 12 = .ok (.iload_n 1, 1) := by decide +kernel
theorem dX0_add_13 : decode cX0_add 13 = .ok (.iastore, 1) := by decide +kernel
theorem dX0_add_14 : decode cX0_add 14 = .ok (.aload_n 0, 1) := by decide +kernel
theorem dX0_add_15 : decode cX0_add 15 = .ok (.getfield 15, 3) := by decide +kernel
theorem dX0_add_18 : decode cX0_add 18 = .ok (.iload 5, 2) := by decide +kernel
theorem dX0_add_20 : decode cX0_add 20 = .ok (.iload_n 2, 1) := by decide +kernel
theorem dX0_add_21 : decode cX0_add 21 = .ok (.iastore, 1) := by decide +kernel
theorem dX0_add_22 : decode cX0_add 22 = .ok (.aload_n 0, 1) := by decide +kernel
theorem dX0_add_23 : decode cX0_add 23 = .ok (.getfield 18, 3) := by decide +kernel
theorem dX0_add_26 : decode cX0_add 26 = .ok (.iload 5, 2) := by decide +kernel
theorem dX0_add_28 : decode cX0_add 28 = .ok (.iload_n 3, 1) := by decide +kernel
theorem dX0_add_29 : decode cX0_add 29 = .ok (.iastore, 1) := by decide +kernel
theorem dX0_add_30 : decode cX0_add 30 = .ok (.aload_n 0, 1) := by decide +kernel
theorem dX0_add_31 : decode cX0_add 31 = .ok (.getfield 21, 3) := by decide +kernel
theorem dX0_add_34 : decode cX0_add 34 = .ok (.iload 5, 2) := by decide +kernel
theorem dX0_add_36 : decode cX0_add 36 = .ok (.iload 4, 2) := by decide +kernel
theorem dX0_add_38 : decode cX0_add 38 = .ok (.iastore, 1) := by decide +kernel
theorem dX0_add_39 : decode cX0_add 39 = .ok (.aload_n 0, 1) := by decide +kernel
theorem dX0_add_40 : decode cX0_add 40 = .ok (.getfield 24, 3) := by decide +kernel
theorem dX0_add_43 : decode cX0_add 43 = .ok (.iload 5, 2) := by decide +kernel
theorem dX0_add_45 : decode cX0_add 45 = .ok (.bipush 20, 2) := by decide +kernel
theorem dX0_add_47 : decode cX0_add 47 = .ok (.iastore, 1) := by decide +kernel
theorem dX0_add_48 : decode cX0_add 48 = .ok (.aload_n 0, 1) := by decide +kernel
theorem dX0_add_49 : decode cX0_add 49 = .ok (.getfield 27, 3) := by decide +kernel
theorem dX0_add_52 : decode cX0_add 52 = .ok (.iload 5, 2) := by decide +kernel
theorem dX0_add_54 : decode cX0_add 54 = .ok (.iconst 0, 1) := by decide +kernel
theorem dX0_add_55 : decode cX0_add 55 = .ok (.iastore, 1) := by decide +kernel
theorem dX0_add_56 : decode cX0_add 56 = .ok (.aload_n 0, 1) := by decide +kernel
theorem dX0_add_57 : decode cX0_add 57 = .ok (.getfield 30, 3) := by decide +kernel
theorem dX0_add_60 : decode cX0_add 60 = .ok (.iload 5, 2) := by decide +kernel
theorem dX0_add_62 : decode cX0_add 62 = .ok (.iconst 0, 1) := by decide +kernel
theorem dX0_add_63 : decode cX0_add 63 = .ok (.iastore, 1) := by decide +kernel
theorem dX0_add_64 : decode cX0_add 64 = .ok (.aload_n 0, 1) := by decide +kernel
theorem dX0_add_65 : decode cX0_add 65 = .ok (.dup, 1) := by decide +kernel
theorem dX0_add_66 : decode cX0_add 66 = .ok (.getfield 33, 3) := by decide +kernel
theorem dX0_add_69 : decode cX0_add 69 = .ok (.iconst 1, 1) := by decide +kernel
theorem dX0_add_70 : decode cX0_add 70 = .ok (.iadd, 1) := by decide +kernel
theorem dX0_add_71 : decode cX0_add 71 = .ok (.putfield 33, 3) := by decide +kernel
theorem dX0_add_74 : decode cX0_add 74 = .ok (.iload 5, 2) := by decide +kernel
theorem dX0_add_76 : decode cX0_add 76 = .ok (.ireturn, 1) := by decide +kernel
theorem dX0_hasSeasonOn_0 : decode cX0_hasSeasonOn 0 = .ok (.iload_n 2, 1) := by decide +kernel
theorem dX0_hasSeasonOn_1 : decode cX0_hasSeasonOn 1 = .ok (.aload_n 0, 1) := by decide +kernel
theorem dX0_hasSeasonOn_2 : decode cX0_hasSeasonOn 2 = .ok (.getfield 18, 3) := by decide +kernel
theorem dX0_hasSeasonOn_5 : decode cX0_hasSeasonOn 5 = .ok (.iload_n 1, 1) := by decide +kernel
theorem dX0_hasSeasonOn_6 : decode cX0_hasSeasonOn 6 = .ok (.iaload, 1) := by decide +kernel
theorem dX0_hasSeasonOn_7 : decode cX0_hasSeasonOn 7 = .ok (.if_icmp .lt 17, 3) := by decide +kernel
theorem dX0_hasSeasonOn_10 : decode cX0_hasSeasonOn 10 = .ok (.iload_n 2, 1) := by decide +kernel
theorem dX0_hasSeasonOn_11 : decode cX0_hasSeasonOn 11 = .ok (.aload_n 0, 1) := by decide +kernel
theorem dX0_hasSeasonOn_12 : decode cX0_hasSeasonOn 12 = .ok (.getfield 21, 3) := by decide +kernel
theorem dX0_hasSeasonOn_15 : decode cX0_hasSeasonOn 15 = .ok (.iload_n 1, 1) := by decide +kernel
theorem dX0_hasSeasonOn_16 : decode cX0_hasSeasonOn 16 = .ok (.iaload, 1) := by decide +kernel
theorem dX0_hasSeasonOn_17 : decode cX0_hasSeasonOn 17 = .ok (.if_icmp .gt 7, 3) := by decide +kernel
theorem dX0_hasSeasonOn_20 : decode cX0_hasSeasonOn 20 = .ok (.iconst 1, 1) := by decide +kernel
theorem dX0_hasSeasonOn_21 : decode cX0_hasSeasonOn 21 = .ok (.goto 4, 3) := by decide +kernel
theorem dX0_hasSeasonOn_24 : decode cX0_hasSeasonOn 24 = .ok (.iconst 0, 1) := by decide +kernel
theorem dX0_hasSeasonOn_25 : decode cX0_hasSeasonOn 25 = .ok (.ireturn, 1) := by decide +kernel
theorem dX0_freePlaces_0 : decode cX0_freePlaces 0 = .ok (.aload_n 0, 1) := by decide +kernel
theorem dX0_freePlaces_1 : decode cX0_freePlaces 1 = .ok (.getfield 15, 3) := by decide +kernel
theorem dX0_freePlaces_4 : decode cX0_freePlaces 4 = .ok (.iload_n 1, 1) := by decide +kernel
theorem dX0_freePlaces_5 : decode cX0_freePlaces 5 = .ok (.iaload, 1) := by decide +kernel
theorem dX0_freePlaces_6 : decode cX0_freePlaces 6 = .ok (.aload_n 0, 1) := by decide +kernel
theorem dX0_freePlaces_7 : decode cX0_freePlaces 7 = .ok (.getfield 30, 3) := by decide +kernel
theorem dX0_freePlaces_10 : decode cX0_freePlaces 10 = .ok (.iload_n 1, 1) := by decide +kernel
theorem dX0_freePlaces_11 : decode cX0_freePlaces 11 = .ok (.iaload, 1) := by decide +kernel
theorem dX0_freePlaces_12 : decode cX0_freePlaces 12 = .ok (.isub, 1) := by decide +kernel
theorem dX0_freePlaces_13 : decode cX0_freePlaces 13 = .ok (.ireturn, 1) := by decide +kernel
theorem dX0_countVisit_0 : decode cX0_countVisit 0 = .ok (.aload_n 0, 1) := by decide +kernel
theorem dX0_countVisit_1 : decode cX0_countVisit 1 = .ok (.getfield 27, 3) := by decide +kernel
theorem dX0_countVisit_4 : decode cX0_countVisit 4 = .ok (.iload_n 1, 1) := by decide +kernel
theorem dX0_countVisit_5 : decode cX0_countVisit 5 = .ok (.dup2, 1) := by decide +kernel
theorem dX0_countVisit_6 : decode cX0_countVisit 6 = .ok (.iaload, 1) := by decide +kernel
theorem dX0_countVisit_7 : decode cX0_countVisit 7 = .ok (.iconst 1, 1) := by decide +kernel
theorem dX0_countVisit_8 : decode cX0_countVisit 8 = .ok (.iadd, 1) := by decide +kernel
theorem dX0_countVisit_9 : decode cX0_countVisit 9 = .ok (.iastore, 1) := by decide +kernel
theorem dX0_countVisit_10 : decode cX0_countVisit 10 = .ok (.aload_n 0, 1) := by decide +kernel
theorem dX0_countVisit_11 : decode cX0_countVisit 11 = .ok (.getfield 30, 3) := by decide +kernel
theorem dX0_countVisit_14 : decode cX0_countVisit 14 = .ok (.iload_n 1, 1) := by decide +kernel
theorem dX0_countVisit_15 : decode cX0_countVisit 15 = .ok (.dup2, 1) := by decide +kernel
theorem dX0_countVisit_16 : decode cX0_countVisit 16 = .ok (.iaload, 1) := by decide +kernel
theorem dX0_countVisit_17 : decode cX0_countVisit 17 = .ok (.iconst 1, 1) := by decide +kernel
theorem dX0_countVisit_18 : decode cX0_countVisit 18 = .ok (.iadd, 1) := by decide +kernel
theorem dX0_countVisit_19 : decode cX0_countVisit 19 = .ok (.iastore, 1) := by decide +kernel
theorem dX0_countVisit_20 : decode cX0_countVisit 20 = .ok (.return_, 1) := by decide +kernel
theorem dX0_beginTick_0 : decode cX0_beginTick 0 = .ok (.iconst 0, 1) := by decide +kernel
theorem dX0_beginTick_1 : decode cX0_beginTick 1 = .ok (.istore_n 1, 1) := by decide +kernel
theorem dX0_beginTick_2 : decode cX0_beginTick 2 = .ok (.iload_n 1, 1) := by decide +kernel
theorem dX0_beginTick_3 : decode cX0_beginTick 3 = .ok (.aload_n 0, 1) := by decide +kernel
theorem dX0_beginTick_4 : decode cX0_beginTick 4 = .ok (.getfield 33, 3) := by decide +kernel
theorem dX0_beginTick_7 : decode cX0_beginTick 7 = .ok (.if_icmp .ge 16, 3) := by decide +kernel
theorem dX0_beginTick_10 : decode cX0_beginTick 10 = .ok (.aload_n 0, 1) := by decide +kernel
theorem dX0_beginTick_11 : decode cX0_beginTick 11 = .ok (.getfield 30, 3) := by decide +kernel
theorem dX0_beginTick_14 : decode cX0_beginTick 14 = .ok (.iload_n 1, 1) := by decide +kernel
theorem dX0_beginTick_15 : decode cX0_beginTick 15 = .ok (.iconst 0, 1) := by decide +kernel
theorem dX0_beginTick_16 : decode cX0_beginTick 16 = .ok (.iastore, 1) := by decide +kernel
theorem dX0_beginTick_17 : decode cX0_beginTick 17 = .ok (.iinc 1 1, 3) := by decide +kernel
theorem dX0_beginTick_20 : decode cX0_beginTick 20 = .ok (.goto (-18), 3) := by decide +kernel
theorem dX0_beginTick_23 : decode cX0_beginTick 23 = .ok (.return_, 1) := by decide +kernel
theorem dX0_beginDay_0 : decode cX0_beginDay 0 = .ok (.iconst 0, 1) := by decide +kernel
theorem dX0_beginDay_1 : decode cX0_beginDay 1 = .ok (.istore_n 2, 1) := by decide +kernel
theorem dX0_beginDay_2 : decode cX0_beginDay 2 = .ok (.iload_n 2, 1) := by decide +kernel
theorem dX0_beginDay_3 : decode cX0_beginDay 3 = .ok (.aload_n 0, 1) := by decide +kernel
theorem dX0_beginDay_4 : decode cX0_beginDay 4 = .ok (.getfield 33, 3) := by decide +kernel
theorem dX0_beginDay_7 : decode cX0_beginDay 7 = .ok (.if_icmp .ge 37, 3) := by decide +kernel
theorem dX0_beginDay_10 : decode cX0_beginDay 10 = .ok (.aload_n 0, 1) := by decide +kernel
theorem dX0_beginDay_11 : decode cX0_beginDay 11 = .ok (.iload_n 2, 1) := by decide +kernel
theorem dX0_beginDay_12 : decode cX0_beginDay 12 = .ok (.iload_n 1, 1) := by decide +kernel
theorem dX0_beginDay_13 : decode cX0_beginDay 13 = .ok (.invokevirtual 43, 3) := by decide +kernel
theorem dX0_beginDay_16 : decode cX0_beginDay 16 = .ok (.ifCond .eq 22, 3) := by decide +kernel
theorem dX0_beginDay_19 : decode cX0_beginDay 19 = .ok (.aload_n 0, 1) := by decide +kernel
theorem dX0_beginDay_20 : decode cX0_beginDay 20 = .ok (.getfield 24, 3) := by decide +kernel
theorem dX0_beginDay_23 : decode cX0_beginDay 23 = .ok (.iload_n 2, 1) := by decide +kernel
theorem dX0_beginDay_24 : decode cX0_beginDay 24 = .ok (.bipush 50, 2) := by decide +kernel
theorem dX0_beginDay_26 : decode cX0_beginDay 26 = .ok (.aload_n 0, 1) := by decide +kernel
theorem dX0_beginDay_27 : decode cX0_beginDay 27 = .ok (.getfield 24, 3) := by decide +kernel
theorem dX0_beginDay_30 : decode cX0_beginDay 30 = .ok (.iload_n 2, 1) := by decide +kernel
theorem dX0_beginDay_31 : decode cX0_beginDay 31 = .ok (.iaload, 1) := by decide +kernel
theorem dX0_beginDay_32 : decode cX0_beginDay 32 = .ok (.iconst 3, 1) := by decide +kernel
theorem dX0_beginDay_33 : decode cX0_beginDay 33 = .ok (.iadd, 1) := by decide +kernel
theorem dX0_beginDay_34 : decode cX0_beginDay 34 = .ok (.invokestatic 47, 3) := by decide +kernel
theorem dX0_beginDay_37 : decode cX0_beginDay 37 = .ok (.iastore, 1) := by decide +kernel
theorem dX0_beginDay_38 : decode cX0_beginDay 38 = .ok (.iinc 2 1, 3) := by decide +kernel
theorem dX0_beginDay_41 : decode cX0_beginDay 41 = .ok (.goto (-39), 3) := by decide +kernel
theorem dX0_beginDay_44 : decode cX0_beginDay 44 = .ok (.return_, 1) := by decide +kernel
theorem dX0_sumOfVisits_0 : decode cX0_sumOfVisits 0 = .ok (.iconst 0, 1) := by decide +kernel
theorem dX0_sumOfVisits_1 : decode cX0_sumOfVisits 1 = .ok (.istore_n 1, 1) := by decide +kernel
theorem dX0_sumOfVisits_2 : decode cX0_sumOfVisits 2 = .ok (.iconst 0, 1) := by decide +kernel
theorem dX0_sumOfVisits_3 : decode cX0_sumOfVisits 3 = .ok (.istore_n 2, 1) := by decide +kernel
theorem dX0_sumOfVisits_4 : decode cX0_sumOfVisits 4 = .ok (.iload_n 2, 1) := by decide +kernel
theorem dX0_sumOfVisits_5 : decode cX0_sumOfVisits 5 = .ok (.aload_n 0, 1) := by decide +kernel
theorem dX0_sumOfVisits_6 : decode cX0_sumOfVisits 6 = .ok (.getfield 33, 3) := by decide +kernel
theorem dX0_sumOfVisits_9 : decode cX0_sumOfVisits 9 = .ok (.if_icmp .ge 18, 3) := by decide +kernel
theorem dX0_sumOfVisits_12 : decode cX0_sumOfVisits 12 = .ok (.iload_n 1, 1) := by decide +kernel
theorem dX0_sumOfVisits_13 : decode cX0_sumOfVisits 13 = .ok (.aload_n 0, 1) := by decide +kernel
theorem dX0_sumOfVisits_14 : decode cX0_sumOfVisits 14 = .ok (.getfield 27, 3) := by decide +kernel
theorem dX0_sumOfVisits_17 : decode cX0_sumOfVisits 17 = .ok (.iload_n 2, 1) := by decide +kernel
theorem dX0_sumOfVisits_18 : decode cX0_sumOfVisits 18 = .ok (.iaload, 1) := by decide +kernel
theorem dX0_sumOfVisits_19 : decode cX0_sumOfVisits 19 = .ok (.iadd, 1) := by decide +kernel
theorem dX0_sumOfVisits_20 : decode cX0_sumOfVisits 20 = .ok (.istore_n 1, 1) := by decide +kernel
theorem dX0_sumOfVisits_21 : decode cX0_sumOfVisits 21 = .ok (.iinc 2 1, 3) := by decide +kernel
theorem dX0_sumOfVisits_24 : decode cX0_sumOfVisits 24 = .ok (.goto (-20), 3) := by decide +kernel
theorem dX0_sumOfVisits_27 : decode cX0_sumOfVisits 27 = .ok (.iload_n 1, 1) := by decide +kernel
theorem dX0_sumOfVisits_28 : decode cX0_sumOfVisits 28 = .ok (.ireturn, 1) := by decide +kernel
theorem dX0_countWrong_0 : decode cX0_countWrong 0 = .ok (.iconst 0, 1) := by decide +kernel
theorem dX0_countWrong_1 : decode cX0_countWrong 1 = .ok (.istore_n 1, 1) := by decide +kernel
theorem dX0_countWrong_2 : decode cX0_countWrong 2 = .ok (.iconst 0, 1) := by decide +kernel
theorem dX0_countWrong_3 : decode cX0_countWrong 3 = .ok (.istore_n 2, 1) := by decide +kernel
theorem dX0_countWrong_4 : decode cX0_countWrong 4 = .ok (.iload_n 2, 1) := by decide +kernel
theorem dX0_countWrong_5 : decode cX0_countWrong 5 = .ok (.aload_n 0, 1) := by decide +kernel
theorem dX0_countWrong_6 : decode cX0_countWrong 6 = .ok (.getfield 33, 3) := by decide +kernel
theorem dX0_countWrong_9 : decode cX0_countWrong 9 = .ok (.if_icmp .ge 40, 3) := by decide +kernel
theorem dX0_countWrong_12 : decode cX0_countWrong 12 = .ok (.aload_n 0, 1) := by decide +kernel
theorem dX0_countWrong_13 : decode cX0_countWrong 13 = .ok (.iload_n 2, 1) := by decide +kernel
theorem dX0_countWrong_14 : decode cX0_countWrong 14 = .ok (.invokevirtual 53, 3) := by decide +kernel
theorem dX0_countWrong_17 : decode cX0_countWrong 17 = .ok (.ifCond .lt 23, 3) := by decide +kernel
theorem dX0_countWrong_20 : decode cX0_countWrong 20 = .ok (.aload_n 0, 1) := by decide +kernel
theorem dX0_countWrong_21 : decode cX0_countWrong 21 = .ok (.getfield 24, 3) := by decide +kernel
theorem dX0_countWrong_24 : decode cX0_countWrong 24 = .ok (.iload_n 2, 1) := by decide +kernel
theorem dX0_countWrong_25 : decode cX0_countWrong 25 = .ok (.iaload, 1) := by decide +kernel
theorem dX0_countWrong_26 : decode cX0_countWrong 26 = .ok (.ifCond .lt 14, 3) := by decide +kernel
theorem dX0_countWrong_29 : decode cX0_countWrong 29 = .ok (.aload_n 0, 1) := by decide +kernel
theorem dX0_countWrong_30 : decode cX0_countWrong 30 = .ok (.getfield 24, 3) := by decide +kernel
theorem dX0_countWrong_33 : decode cX0_countWrong 33 = .ok (.iload_n 2, 1) := by decide +kernel
theorem dX0_countWrong_34 : decode cX0_countWrong 34 = .ok (.iaload, 1) := by decide +kernel
theorem dX0_countWrong_35 : decode cX0_countWrong 35 = .ok (.bipush 50, 2) := by decide +kernel
theorem dX0_countWrong_37 : decode cX0_countWrong 37 = .ok (.if_icmp .le 6, 3) := by decide +kernel
theorem dX0_countWrong_40 : decode cX0_countWrong 40 = .ok (.iinc 1 1, 3) := by decide +kernel
theorem dX0_countWrong_43 : decode cX0_countWrong 43 = .ok (.iinc 2 1, 3) := by decide +kernel
theorem dX0_countWrong_46 : decode cX0_countWrong 46 = .ok (.goto (-42), 3) := by decide +kernel
theorem dX0_countWrong_49 : decode cX0_countWrong 49 = .ok (.iload_n 1, 1) := by decide +kernel
theorem dX0_countWrong_50 : decode cX0_countWrong 50 = .ok (.ireturn, 1) := by decide +kernel
theorem dX1_init_0 : decode cX1_init 0 = .ok (.aload_n 0, 1) := by decide +kernel
theorem dX1_init_1 : decode cX1_init 1 = .ok (.invokespecial 1, 3) := by decide +kernel
theorem dX1_init_4 : decode cX1_init 4 = .ok (.return_, 1) := by decide +kernel
theorem dX1_reset_0 : decode cX1_reset 0 = .ok (.aload_n 0, 1) := by decide +kernel
theorem dX1_reset_1 : decode cX1_reset 1 = .ok (.iconst 0, 1) := by decide +kernel
theorem dX1_reset_2 : decode cX1_reset 2 = .ok (.putfield 7, 3) := by decide +kernel
theorem dX1_reset_5 : decode cX1_reset 5 = .ok (.aload_n 0, 1) := by decide +kernel
theorem dX1_reset_6 : decode cX1_reset 6 = .ok (.iconst 0, 1) := by decide +kernel
theorem dX1_reset_7 : decode cX1_reset 7 = .ok (.putfield 13, 3) := by decide +kernel
theorem dX1_reset_10 : decode cX1_reset 10 = .ok (.aload_n 0, 1) := by decide +kernel
theorem dX1_reset_11 : decode cX1_reset 11 = .ok (.iconst 0, 1) := by decide +kernel
theorem dX1_reset_12 : decode cX1_reset 12 = .ok (.putfield 16, 3) := by decide +kernel
theorem dX1_reset_15 : decode cX1_reset 15 = .ok (.aload_n 0, 1) := by decide +kernel
theorem dX1_reset_16 : decode cX1_reset 16 = .ok (.iconst 0, 1) := by decide +kernel
theorem dX1_reset_17 : decode cX1_reset 17 = .ok (.putfield 19, 3) := by decide +kernel
theorem dX1_reset_20 : decode cX1_reset 20 = .ok (.aload_n 0, 1) := by decide +kernel
theorem dX1_reset_21 : decode cX1_reset 21 = .ok (.iconst 0, 1) := by decide +kernel
theorem dX1_reset_22 : decode cX1_reset 22 = .ok (.putfield 22, 3) := by decide +kernel
theorem dX1_reset_25 : decode cX1_reset 25 = .ok (.aload_n 0, 1) := by decide +kernel
theorem dX1_reset_26 : decode cX1_reset 26 = .ok (.iconst 0, 1) := by decide +kernel
theorem dX1_reset_27 : decode cX1_reset 27 = .ok (.putfield 25, 3) := by decide +kernel
theorem dX1_reset_30 : decode cX1_reset 30 = .ok (.return_, 1) := by decide +kernel
theorem dX1_copyFrom_0 : decode cX1_copyFrom 0 = .ok (.aload_n 0, 1) := by decide +kernel
theorem dX1_copyFrom_1 : decode cX1_copyFrom 1 = .ok (.aload_n 1, 1) := by decide +kernel
theorem dX1_copyFrom_2 : decode cX1_copyFrom 2 = .ok (.getfield 7, 3) := by decide +kernel
theorem dX1_copyFrom_5 : decode cX1_copyFrom 5 = .ok (.putfield 7, 3) := by decide +kernel
theorem dX1_copyFrom_8 : decode cX1_copyFrom 8 = .ok (.aload_n 0, 1) := by decide +kernel
theorem dX1_copyFrom_9 : decode cX1_copyFrom 9 = .ok (.aload_n 1, 1) := by decide +kernel
theorem dX1_copyFrom_10 : decode cX1_copyFrom 10 = .ok (.getfield 13, 3) := by decide +kernel
theorem dX1_copyFrom_13 : decode cX1_copyFrom 13 = .ok (.putfield 13, 3) := by decide +kernel
theorem dX1_copyFrom_16 : decode cX1_copyFrom 16 = .ok (.aload_n 0, 1) := by decide +kernel
theorem dX1_copyFrom_17 : decode cX1_copyFrom 17 = .ok (.aload_n 1, 1) := by decide +kernel
theorem dX1_copyFrom_18 : decode cX1_copyFrom 18 = .ok (.getfield 16, 3) := by decide +kernel
theorem dX1_copyFrom_21 : decode cX1_copyFrom 21 = .ok (.putfield 16, 3) := by decide +kernel
theorem dX1_copyFrom_24 : decode cX1_copyFrom 24 = .ok (.aload_n 0, 1) := by decide +kernel
theorem dX1_copyFrom_25 : decode cX1_copyFrom 25 = .ok (.aload_n 1, 1) := by decide +kernel
theorem dX1_copyFrom_26 : decode cX1_copyFrom 26 = .ok (.getfield 19, 3) := by decide +kernel
theorem dX1_copyFrom_29 : decode cX1_copyFrom 29 = .ok (.putfield 19, 3) := by decide +kernel
theorem dX1_copyFrom_32 : decode cX1_copyFrom 32 = .ok (.aload_n 0, 1) := by decide +kernel
theorem dX1_copyFrom_33 : decode cX1_copyFrom 33 = .ok (.aload_n 1, 1) := by decide +kernel
theorem dX1_copyFrom_34 : decode cX1_copyFrom 34 = .ok (.getfield 22, 3) := by decide +kernel
theorem dX1_copyFrom_37 : decode cX1_copyFrom 37 = .ok (.putfield 22, 3) := by decide +kernel
theorem dX1_copyFrom_40 : decode cX1_copyFrom 40 = .ok (.aload_n 0, 1) := by decide +kernel
theorem dX1_copyFrom_41 : decode cX1_copyFrom 41 = .ok (.aload_n 1, 1) := by decide +kernel
theorem dX1_copyFrom_42 : decode cX1_copyFrom 42 = .ok (.getfield 25, 3) := by decide +kernel
theorem dX1_copyFrom_45 : decode cX1_copyFrom 45 = .ok (.putfield 25, 3) := by decide +kernel
theorem dX1_copyFrom_48 : decode cX1_copyFrom 48 = .ok (.return_, 1) := by decide +kernel
theorem dX2_init_0 : decode cX2_init 0 = .ok (.aload_n 0, 1) := by decide +kernel
theorem dX2_init_1 : decode cX2_init 1 = .ok (.invokespecial 3, 3) := by decide +kernel
theorem dX2_init_4 : decode cX2_init 4 = .ok (.aload_n 0, 1) := by decide +kernel
theorem dX2_init_5 : decode cX2_init 5 = .ok (.bipush 50, 2) := by decide +kernel
theorem dX2_init_7 : decode cX2_init 7 = .ok (.newarray .int, 2) := by decide +kernel
theorem dX2_init_9 : decode cX2_init 9 = .ok (.putfield 9, 3) := by decide +kernel
theorem dX2_init_12 : decode cX2_init 12 = .ok (.aload_n 0, 1) := by decide +kernel
theorem dX2_init_13 : decode cX2_init 13 = .ok (.bipush 50, 2) := by decide +kernel
theorem dX2_init_15 : decode cX2_init 15 = .ok (.newarray .boolean, 2) := by decide +kernel
theorem dX2_init_17 : decode cX2_init 17 = .ok (.putfield 15, 3) := by decide +kernel
theorem dX2_init_20 : decode cX2_init 20 = .ok (.return_, 1) := by decide +kernel
theorem dX2_copyFrom_0 : decode cX2_copyFrom 0 = .ok (.aload_n 0, 1) := by decide +kernel
theorem dX2_copyFrom_1 : decode cX2_copyFrom 1 = .ok (.aload_n 1, 1) := by decide +kernel
theorem dX2_copyFrom_2 : decode cX2_copyFrom 2 = .ok (.getfield 19, 3) := by decide +kernel
theorem dX2_copyFrom_5 : decode cX2_copyFrom 5 = .ok (.putfield 19, 3) := by decide +kernel
theorem dX2_copyFrom_8 : decode cX2_copyFrom 8 = .ok (.aload_n 1, 1) := by decide +kernel
theorem dX2_copyFrom_9 : decode cX2_copyFrom 9 = .ok (.getfield 9, 3) := by decide +kernel
theorem dX2_copyFrom_12 : decode cX2_copyFrom 12 = .ok (.iconst 0, 1) := by decide +kernel
theorem dX2_copyFrom_13 : decode cX2_copyFrom 13 = .ok (.aload_n 0, 1) := by decide +kernel
theorem dX2_copyFrom_14 : decode cX2_copyFrom 14 = .ok (.getfield 9, 3) := by decide +kernel
theorem dX2_copyFrom_17 : decode cX2_copyFrom 17 = .ok (.iconst 0, 1) := by decide +kernel
theorem dX2_copyFrom_18 : decode cX2_copyFrom 18 = .ok (.aload_n 0, 1) := by decide +kernel
theorem dX2_copyFrom_19 : decode cX2_copyFrom 19 = .ok (.getfield 19, 3) := by decide +kernel
theorem dX2_copyFrom_22 : decode cX2_copyFrom 22 = .ok (.invokestatic 23, 3) := by decide +kernel
theorem dX2_copyFrom_25 : decode cX2_copyFrom 25 = .ok (.iconst 0, 1) := by decide +kernel
theorem dX2_copyFrom_26 : decode cX2_copyFrom 26 = .ok (.istore_n 2, 1) := by decide +kernel
theorem dX2_copyFrom_27 : decode cX2_copyFrom 27 = .ok (.iload_n 2, 1) := by decide +kernel
theorem dX2_copyFrom_28 : decode cX2_copyFrom 28 = .ok (.aload_n 0, 1) := by decide +kernel
theorem dX2_copyFrom_29 : decode cX2_copyFrom 29 = .ok (.getfield 19, 3) := by decide +kernel
theorem dX2_copyFrom_32 : decode cX2_copyFrom 32 = .ok (.if_icmp .ge 21, 3) := by decide +kernel
theorem dX2_copyFrom_35 : decode cX2_copyFrom 35 = .ok (.aload_n 0, 1) := by decide +kernel
theorem dX2_copyFrom_36 : decode cX2_copyFrom 36 = .ok (.getfield 15, 3) := by decide +kernel
theorem dX2_copyFrom_39 : decode cX2_copyFrom 39 = .ok (.iload_n 2, 1) := by decide +kernel
theorem dX2_copyFrom_40 : decode cX2_copyFrom 40 = .ok (.aload_n 1, 1) := by decide +kernel
theorem dX2_copyFrom_41 : decode cX2_copyFrom 41 = .ok (.getfield 15, 3) := by decide +kernel
theorem dX2_copyFrom_44 : decode cX2_copyFrom 44 = .ok (.iload_n 2, 1) := by decide +kernel
theorem dX2_copyFrom_45 : decode cX2_copyFrom 45 = .ok (.baload, 1) := by decide +kernel
theorem dX2_copyFrom_46 : decode cX2_copyFrom 46 = .ok (.bastore, 1) := by decide +kernel
theorem dX2_copyFrom_47 : decode cX2_copyFrom 47 = .ok (.iinc 2 1, 3) := by decide +kernel
theorem dX2_copyFrom_50 : decode cX2_copyFrom 50 = .ok (.goto (-23), 3) := by decide +kernel
theorem dX2_copyFrom_53 : decode cX2_copyFrom 53 = .ok (.return_, 1) := by decide +kernel
theorem dX2_has_0 : decode cX2_has 0 = .ok (.iload_n 1, 1) := by decide +kernel
theorem dX2_has_1 : decode cX2_has 1 = .ok (.ifCond .lt 15, 3) := by decide +kernel
theorem dX2_has_4 : decode cX2_has 4 = .ok (.iload_n 1, 1) := by decide +kernel
theorem dX2_has_5 : decode cX2_has 5 = .ok (.aload_n 0, 1) := by decide +kernel
theorem dX2_has_6 : decode cX2_has 6 = .ok (.getfield 19, 3) := by decide +kernel
theorem dX2_has_9 : decode cX2_has 9 = .ok (.if_icmp .ge 7, 3) := by decide +kernel
theorem dX2_has_12 : decode cX2_has 12 = .ok (.iconst 1, 1) := by decide +kernel
theorem dX2_has_13 : decode cX2_has 13 = .ok (.goto 4, 3) := by decide +kernel
theorem dX2_has_16 : decode cX2_has 16 = .ok (.iconst 0, 1) := by decide +kernel
theorem dX2_has_17 : decode cX2_has 17 = .ok (.ireturn, 1) := by decide +kernel
theorem dX2_hasRoom_0 : decode cX2_hasRoom 0 = .ok (.aload_n 0, 1) := by decide +kernel
theorem dX2_hasRoom_1 : decode cX2_hasRoom 1 = .ok (.getfield 19, 3) := by decide +kernel
theorem dX2_hasRoom_4 : decode cX2_hasRoom 4 = .ok (.bipush 50, 2) := by decide +kernel
theorem dX2_hasRoom_6 : decode cX2_hasRoom 6 = .ok (.if_icmp .ge 7, 3) := by decide +kernel
theorem dX2_hasRoom_9 : decode cX2_hasRoom 9 = .ok (.iconst 1, 1) := by decide +kernel
theorem dX2_hasRoom_10 : decode cX2_hasRoom 10 = .ok (.goto 4, 3) := by decide +kernel
theorem dX2_hasRoom_13 : decode cX2_hasRoom 13 = .ok (.iconst 0, 1) := by decide +kernel
theorem dX2_hasRoom_14 : decode cX2_hasRoom 14 = .ok (.ireturn, 1) := by decide +kernel
theorem dX2_add_0 : decode cX2_add 0 = .ok (.aload_n 0, 1) := by decide +kernel
theorem dX2_add_1 : decode cX2_add 1 = .ok (.getfield 19, 3) := by decide +kernel
theorem dX2_add_4 : decode cX2_add 4 = .ok (.istore_n 2, 1) := by decide +kernel
theorem dX2_add_5 : decode cX2_add 5 = .ok (.aload_n 0, 1) := by decide +kernel
theorem dX2_add_6 : decode cX2_add 6 = .ok (.getfield 9, 3) := by decide +kernel
theorem dX2_add_9 : decode cX2_add 9 = .ok (.iload_n 2, 1) := by decide +kernel
theorem dX2_add_10 : decode cX2_add 10 = .ok (.iload_n 1, 1) := by decide +kernel
theorem dX2_add_11 : decode cX2_add 11 = .ok (.iastore, 1) := by decide +kernel
theorem dX2_add_12 : decode cX2_add 12 = .ok (.aload_n 0, 1) := by decide +kernel
theorem dX2_add_13 : decode cX2_add 13 = .ok (.getfield 15, 3) := by decide +kernel
theorem dX2_add_16 : decode cX2_add 16 = .ok (.iload_n 2, 1) := by decide +kernel
theorem dX2_add_17 : decode cX2_add 17 = .ok (.iconst 0, 1) := by decide +kernel
theorem dX2_add_18 : decode cX2_add 18 = .ok (.bastore, 1) := by decide +kernel
theorem dX2_add_19 : decode cX2_add 19 = .ok (.aload_n 0, 1) := by decide +kernel
theorem dX2_add_20 : decode cX2_add 20 = .ok (.dup, 1) := by decide +kernel
theorem dX2_add_21 : decode cX2_add 21 = .ok (.getfield 19, 3) := by decide +kernel
theorem dX2_add_24 : decode cX2_add 24 = .ok (.iconst 1, 1) := by decide +kernel
theorem dX2_add_25 : decode cX2_add 25 = .ok (.iadd, 1) := by decide +kernel
theorem dX2_add_26 : decode cX2_add 26 = .ok (.putfield 19, 3) := by decide +kernel
theorem dX2_add_29 : decode cX2_add 29 = .ok (.iload_n 2, 1) := by decide +kernel
theorem dX2_add_30 : decode cX2_add 30 = .ok (.ireturn, 1) := by decide +kernel
theorem dX2_isOpenCardOf_0 : decode cX2_isOpenCardOf 0 = .ok (.aload_n 0, 1) := by decide +kernel
theorem dX2_isOpenCardOf_1 : decode cX2_isOpenCardOf 1 = .ok (.iload_n 1, 1) := by decide +kernel
theorem dX2_isOpenCardOf_2 : decode cX2_isOpenCardOf 2 = .ok (.invokevirtual 29, 3) := by decide +kernel
theorem dX2_isOpenCardOf_5 : decode cX2_isOpenCardOf 5 = .ok (.ifCond .eq 26, 3) := by decide +kernel
theorem dX2_isOpenCardOf_8 : decode cX2_isOpenCardOf 8 = .ok (.aload_n 0, 1) := by decide +kernel
theorem dX2_isOpenCardOf_9 : decode cX2_isOpenCardOf 9 = .ok (.getfield 15, 3) := by decide +kernel
theorem dX2_isOpenCardOf_12 : decode cX2_isOpenCardOf 12 = .ok (.iload_n 1, 1) := by decide +kernel
theorem dX2_isOpenCardOf_13 : decode cX2_isOpenCardOf 13 = .ok (.baload, 1) := by decide +kernel
theorem dX2_isOpenCardOf_14 : decode cX2_isOpenCardOf 14 = .ok (.ifCond .ne 17, 3) := by decide +kernel
theorem dX2_isOpenCardOf_17 : decode cX2_isOpenCardOf 17 = .ok (.aload_n 0, 1) := by decide +kernel
theorem dX2_isOpenCardOf_18 : decode cX2_isOpenCardOf 18 = .ok (.getfield 9, 3) := by decide +kernel
theorem dX2_isOpenCardOf_21 : decode cX2_isOpenCardOf 21 = .ok (.iload_n 1, 1) := by decide +kernel
theorem dX2_isOpenCardOf_22 : decode cX2_isOpenCardOf 22 = .ok (.iaload, 1) := by decide +kernel
theorem dX2_isOpenCardOf_23 : decode cX2_isOpenCardOf 23 = .ok (.iload_n 2, 1) := by decide +kernel
theorem dX2_isOpenCardOf_24 : decode cX2_isOpenCardOf 24 = .ok (.if_icmp .ne 7, 3) := by decide +kernel
theorem dX2_isOpenCardOf_27 : decode cX2_isOpenCardOf 27 = .ok (.iconst 1, 1) := by decide +kernel
theorem dX2_isOpenCardOf_28 : decode cX2_isOpenCardOf 28 = .ok (.goto 4, 3) := by decide +kernel
theorem dX2_isOpenCardOf_31 : decode cX2_isOpenCardOf 31 = .ok (.iconst 0, 1) := by decide +kernel
theorem dX2_isOpenCardOf_32 : decode cX2_isOpenCardOf 32 = .ok (.ireturn, 1) := by decide +kernel
theorem dX3_init_0 : decode cX3_init 0 = .ok (.aload_n 0, 1) := by decide +kernel
theorem dX3_init_1 : decode cX3_init 1 = .ok (.invokespecial 3, 3) := by decide +kernel
theorem dX3_init_4 : decode cX3_init 4 = .ok (.return_, 1) := by decide +kernel
theorem dX3_reset_0 : decode cX3_reset 0 = .ok (.aload_n 0, 1) := by decide +kernel
theorem dX3_reset_1 : decode cX3_reset 1 = .ok (.iconst 0, 1) := by decide +kernel
theorem dX3_reset_2 : decode cX3_reset 2 = .ok (.putfield 9, 3) := by decide +kernel
theorem dX3_reset_5 : decode cX3_reset 5 = .ok (.aload_n 0, 1) := by decide +kernel
theorem dX3_reset_6 : decode cX3_reset 6 = .ok (.bipush 50, 2) := by decide +kernel
theorem dX3_reset_8 : decode cX3_reset 8 = .ok (.bipush 53, 2) := by decide +kernel
theorem dX3_reset_10 : decode cX3_reset 10 = .ok (.invokevirtual 15, 3) := by decide +kernel
theorem dX3_reset_13 : decode cX3_reset 13 = .ok (.return_, 1) := by decide +kernel
theorem dX3_copyFrom_0 : decode cX3_copyFrom 0 = .ok (.aload_n 0, 1) := by decide +kernel
theorem dX3_copyFrom_1 : decode cX3_copyFrom 1 = .ok (.aload_n 1, 1) := by decide +kernel
theorem dX3_copyFrom_2 : decode cX3_copyFrom 2 = .ok (.getfield 9, 3) := by decide +kernel
theorem dX3_copyFrom_5 : decode cX3_copyFrom 5 = .ok (.putfield 9, 3) := by decide +kernel
theorem dX3_copyFrom_8 : decode cX3_copyFrom 8 = .ok (.aload_n 0, 1) := by decide +kernel
theorem dX3_copyFrom_9 : decode cX3_copyFrom 9 = .ok (.aload_n 1, 1) := by decide +kernel
theorem dX3_copyFrom_10 : decode cX3_copyFrom 10 = .ok (.getfield 19, 3) := by decide +kernel
theorem dX3_copyFrom_13 : decode cX3_copyFrom 13 = .ok (.aload_n 1, 1) := by decide +kernel
theorem dX3_copyFrom_14 : decode cX3_copyFrom 14 = .ok (.getfield 22, 3) := by decide +kernel
theorem dX3_copyFrom_17 : decode cX3_copyFrom 17 = .ok (.invokevirtual 15, 3) := by decide +kernel
theorem dX3_copyFrom_20 : decode cX3_copyFrom 20 = .ok (.return_, 1) := by decide +kernel
theorem dX3_letPeacocksWalk_0 : decode cX3_letPeacocksWalk 0 = .ok (.aload_n 0, 1) := by decide +kernel
theorem dX3_letPeacocksWalk_1 : decode cX3_letPeacocksWalk 1 = .ok (.iload_n 1, 1) := by decide +kernel
theorem dX3_letPeacocksWalk_2 : decode cX3_letPeacocksWalk 2 = .ok (.putfield 19, 3) := by decide +kernel
theorem dX3_letPeacocksWalk_5 : decode cX3_letPeacocksWalk 5 = .ok (.aload_n 0, 1) := by decide +kernel
theorem dX3_letPeacocksWalk_6 : decode cX3_letPeacocksWalk 6 = .ok (.iload_n 2, 1) := by decide +kernel
theorem dX3_letPeacocksWalk_7 : decode cX3_letPeacocksWalk 7 = .ok (.putfield 22, 3) := by decide +kernel
theorem dX3_letPeacocksWalk_10 : decode cX3_letPeacocksWalk 10 = .ok (.return_, 1) := by decide +kernel
theorem dX3_today_0 : decode cX3_today 0 = .ok (.aload_n 0, 1) := by decide +kernel
theorem dX3_today_1 : decode cX3_today 1 = .ok (.getfield 9, 3) := by decide +kernel
theorem dX3_today_4 : decode cX3_today 4 = .ok (.bipush 96, 2) := by decide +kernel
theorem dX3_today_6 : decode cX3_today 6 = .ok (.idiv, 1) := by decide +kernel
theorem dX3_today_7 : decode cX3_today 7 = .ok (.ireturn, 1) := by decide +kernel
theorem dX3_canGoOn_0 : decode cX3_canGoOn 0 = .ok (.aload_n 0, 1) := by decide +kernel
theorem dX3_canGoOn_1 : decode cX3_canGoOn 1 = .ok (.getfield 9, 3) := by decide +kernel
theorem dX3_canGoOn_4 : decode cX3_canGoOn 4 = .ok (.iload_n 1, 1) := by decide +kernel
theorem dX3_canGoOn_5 : decode cX3_canGoOn 5 = .ok (.iadd, 1) := by decide +kernel
theorem dX3_canGoOn_6 : decode cX3_canGoOn 6 = .ok (.sipush 9599, 3) := by decide +kernel
theorem dX3_canGoOn_9 : decode cX3_canGoOn 9 = .ok (.if_icmp .gt 7, 3) := by decide +kernel
theorem dX3_canGoOn_12 : decode cX3_canGoOn 12 = .ok (.iconst 1, 1) := by decide +kernel
theorem dX3_canGoOn_13 : decode cX3_canGoOn 13 = .ok (.goto 4, 3) := by decide +kernel
theorem dX3_canGoOn_16 : decode cX3_canGoOn 16 = .ok (.iconst 0, 1) := by decide +kernel
theorem dX3_canGoOn_17 : decode cX3_canGoOn 17 = .ok (.ireturn, 1) := by decide +kernel
theorem dX3_tickOfDay_0 : decode cX3_tickOfDay 0 = .ok (.aload_n 0, 1) := by decide +kernel
theorem dX3_tickOfDay_1 : decode cX3_tickOfDay 1 = .ok (.getfield 9, 3) := by decide +kernel
theorem dX3_tickOfDay_4 : decode cX3_tickOfDay 4 = .ok (.bipush 96, 2) := by decide +kernel
theorem dX3_tickOfDay_6 : decode cX3_tickOfDay 6 = .ok (.irem, 1) := by decide +kernel
theorem dX3_tickOfDay_7 : decode cX3_tickOfDay 7 = .ok (.ireturn, 1) := by decide +kernel
theorem dX3_isOpenIn_0 : decode cX3_isOpenIn 0 = .ok (.iload_n 1, 1) := by decide +kernel
theorem dX3_isOpenIn_1 : decode cX3_isOpenIn 1 = .ok (.aload_n 0, 1) := by decide +kernel
theorem dX3_isOpenIn_2 : decode cX3_isOpenIn 2 = .ok (.getfield 19, 3) := by decide +kernel
theorem dX3_isOpenIn_5 : decode cX3_isOpenIn 5 = .ok (.if_icmp .lt 15, 3) := by decide +kernel
theorem dX3_isOpenIn_8 : decode cX3_isOpenIn 8 = .ok (.iload_n 1, 1) := by decide +kernel
theorem dX3_isOpenIn_9 : decode cX3_isOpenIn 9 = .ok (.aload_n 0, 1) := by decide +kernel
theorem dX3_isOpenIn_10 : decode cX3_isOpenIn 10 = .ok (.getfield 22, 3) := by decide +kernel
theorem dX3_isOpenIn_13 : decode cX3_isOpenIn 13 = .ok (.if_icmp .gt 7, 3) := by decide +kernel
theorem dX3_isOpenIn_16 : decode cX3_isOpenIn 16 = .ok (.iconst 1, 1) := by decide +kernel
theorem dX3_isOpenIn_17 : decode cX3_isOpenIn 17 = .ok (.goto 4, 3) := by decide +kernel
theorem dX3_isOpenIn_20 : decode cX3_isOpenIn 20 = .ok (.iconst 0, 1) := by decide +kernel
theorem dX3_isOpenIn_21 : decode cX3_isOpenIn 21 = .ok (.istore_n 2, 1) := by decide +kernel
theorem dX3_isOpenIn_22 : decode cX3_isOpenIn 22 = .ok (.iload_n 1, 1) := by decide +kernel
theorem dX3_isOpenIn_23 : decode cX3_isOpenIn 23 = .ok (.bipush 32, 2) := by decide +kernel
theorem dX3_isOpenIn_25 : decode cX3_isOpenIn 25 = .ok (.if_icmp .lt 17, 3) := by decide +kernel
theorem dX3_isOpenIn_28 : decode cX3_isOpenIn 28 = .ok (.iload_n 1, 1) := by decide +kernel
theorem dX3_isOpenIn_29 : decode cX3_isOpenIn 29 = .ok (.bipush 67, 2) := by decide +kernel
theorem dX3_isOpenIn_31 : decode cX3_isOpenIn 31 = .ok (.if_icmp .gt 11, 3) := by decide +kernel
theorem dX3_isOpenIn_34 : decode cX3_isOpenIn 34 = .ok (.iload_n 2, 1) := by decide +kernel
theorem dX3_isOpenIn_35 : decode cX3_isOpenIn 35 = .ok (.ifCond .ne 7, 3) := by decide +kernel
theorem dX3_isOpenIn_38 : decode cX3_isOpenIn 38 = .ok (.iconst 1, 1) := by decide +kernel
theorem dX3_isOpenIn_39 : decode cX3_isOpenIn 39 = .ok (.goto 4, 3) := by decide +kernel
theorem dX3_isOpenIn_42 : decode cX3_isOpenIn 42 = .ok (.iconst 0, 1) := by decide +kernel
theorem dX3_isOpenIn_43 : decode cX3_isOpenIn 43 = .ok (.ireturn, 1) := by decide +kernel
theorem dX3_openTicksOfDay_0 : decode cX3_openTicksOfDay 0 = .ok (.iconst 0, 1) := by decide +kernel
theorem dX3_openTicksOfDay_1 : decode cX3_openTicksOfDay 1 = .ok (.istore_n 1, 1) := by decide +kernel
theorem dX3_openTicksOfDay_2 : decode cX3_openTicksOfDay 2 = .ok (.bipush 32, 2) := by decide +kernel
theorem dX3_openTicksOfDay_4 : decode cX3_openTicksOfDay 4 = .ok (.istore_n 2, 1) := by decide +kernel
theorem dX3_openTicksOfDay_5 : decode cX3_openTicksOfDay 5 = .ok (.iload_n 2, 1) := by decide +kernel
theorem dX3_openTicksOfDay_6 : decode cX3_openTicksOfDay 6 = .ok (.bipush 67, 2) := by decide +kernel
theorem dX3_openTicksOfDay_8 : decode cX3_openTicksOfDay 8 = .ok (.if_icmp .gt 20, 3) := by decide +kernel
theorem dX3_openTicksOfDay_11 : decode cX3_openTicksOfDay 11 = .ok (.aload_n 0, 1) := by decide +kernel
theorem dX3_openTicksOfDay_12 : decode cX3_openTicksOfDay 12 = .ok (.iload_n 2, 1) := by decide +kernel
theorem dX3_openTicksOfDay_13 : decode cX3_openTicksOfDay 13 = .ok (.invokevirtual 25, 3) := by decide +kernel
theorem dX3_openTicksOfDay_16 : decode cX3_openTicksOfDay 16 = .ok (.ifCond .eq 6, 3) := by decide +kernel
theorem dX3_openTicksOfDay_19 : decode cX3_openTicksOfDay 19 = .ok (.iinc 1 1, 3) := by decide +kernel
theorem dX3_openTicksOfDay_22 : decode cX3_openTicksOfDay 22 = .ok (.iinc 2 1, 3) := by decide +kernel
theorem dX3_openTicksOfDay_25 : decode cX3_openTicksOfDay 25 = .ok (.goto (-20), 3) := by decide +kernel
theorem dX3_openTicksOfDay_28 : decode cX3_openTicksOfDay 28 = .ok (.iload_n 1, 1) := by decide +kernel
theorem dX3_openTicksOfDay_29 : decode cX3_openTicksOfDay 29 = .ok (.ireturn, 1) := by decide +kernel
theorem dX3_waitForOpening_0 : decode cX3_waitForOpening 0 = .ok (.iconst 0, 1) := by decide +kernel
theorem dX3_waitForOpening_1 : decode cX3_waitForOpening 1 = .ok (.istore_n 1, 1) := by decide +kernel
theorem dX3_waitForOpening_2 : decode cX3_waitForOpening 2 = .ok (.iload_n 1, 1) := by decide +kernel
theorem dX3_waitForOpening_3 : decode cX3_waitForOpening 3 = .ok (.bipush 96, 2) := by decide +kernel
theorem dX3_waitForOpening_5 : decode cX3_waitForOpening 5 = .ok (.if_icmp .ge 27, 3) := by decide +kernel
theorem dX3_waitForOpening_8 : decode cX3_waitForOpening 8 = .ok (.aload_n 0, 1) := by decide +kernel
theorem dX3_waitForOpening_9 : decode cX3_waitForOpening 9 = .ok (.aload_n 0, 1) := by decide +kernel
theorem dX3_waitForOpening_10 : decode cX3_waitForOpening 10 = .ok (.getfield 9, 3) := by decide +kernel
theorem dX3_waitForOpening_13 : decode cX3_waitForOpening 13 = .ok (.iload_n 1, 1) := by decide +kernel
theorem dX3_waitForOpening_14 : decode cX3_waitForOpening 14 = .ok (.iadd, 1) := by decide +kernel
theorem dX3_waitForOpening_15 : decode cX3_waitForOpening 15 = .ok (.bipush 96, 2) := by decide +kernel
theorem dX3_waitForOpening_17 : decode cX3_waitForOpening 17 = .ok (.irem, 1) := by decide +kernel
theorem dX3_waitForOpening_18 : decode cX3_waitForOpening 18 = .ok (.invokevirtual 25, 3) := by decide +kernel
theorem dX3_waitForOpening_21 : decode cX3_waitForOpening 21 = .ok (.ifCond .eq 5, 3) := by decide +kernel
theorem dX3_waitForOpening_24 : decode cX3_waitForOpening 24 = .ok (.iload_n 1, 1) := by decide +kernel
theorem dX3_waitForOpening_25 : decode cX3_waitForOpening 25 = .ok (.ireturn, 1) := by decide +kernel
theorem dX3_waitForOpening_26 : decode cX3_waitForOpening 26 = .ok (.iinc 1 1, 3) := by decide +kernel
theorem dX3_waitForOpening_29 : decode cX3_waitForOpening 29 = .ok (.goto (-27), 3) := by decide +kernel
theorem dX3_waitForOpening_32 : decode cX3_waitForOpening 32 = .ok (.iconst (-1), 1) := by decide +kernel
theorem dX3_waitForOpening_33 : decode cX3_waitForOpening 33 = .ok (.ireturn, 1) := by decide +kernel
theorem dX4_init_0 : decode cX4_init 0 = .ok (.aload_n 0, 1) := by decide +kernel
theorem dX4_init_1 : decode cX4_init 1 = .ok (.invokespecial 3, 3) := by decide +kernel
theorem dX4_init_4 : decode cX4_init 4 = .ok (.aload_n 0, 1) := by decide +kernel
theorem dX4_init_5 : decode cX4_init 5 = .ok (.new 9, 3) := by decide +kernel
theorem dX4_init_8 : decode cX4_init 8 = .ok (.dup, 1) := by decide +kernel
theorem dX4_init_9 : decode cX4_init 9 = .ok (.invokespecial 11, 3) := by decide +kernel
theorem dX4_init_12 : decode cX4_init 12 = .ok (.putfield 12, 3) := by decide +kernel
theorem dX4_init_15 : decode cX4_init 15 = .ok (.aload_n 0, 1) := by decide +kernel
theorem dX4_init_16 : decode cX4_init 16 = .ok (.new 18, 3) := by decide +kernel
theorem dX4_init_19 : decode cX4_init 19 = .ok (.dup, 1) := by decide +kernel
theorem dX4_init_20 : decode cX4_init 20 = .ok (.invokespecial 20, 3) := by decide +kernel
theorem dX4_init_23 : decode cX4_init 23 = .ok (.putfield 21, 3) := by decide +kernel
theorem dX4_init_26 : decode cX4_init 26 = .ok (.aload_n 0, 1) := by decide +kernel
theorem dX4_init_27 : decode cX4_init 27 = .ok (.new 25, 3) := by decide +kernel
theorem dX4_init_30 : decode cX4_init 30 = .ok (.dup, 1) := by decide +kernel
theorem dX4_init_31 : decode cX4_init 31 = .ok (.invokespecial 27, 3) := by decide +kernel
theorem dX4_init_34 : decode cX4_init 34 = .ok (.putfield 28, 3) := by decide +kernel
theorem dX4_init_37 : decode cX4_init 37 = .ok (.aload_n 0, 1) := by decide +kernel
theorem dX4_init_38 : decode cX4_init 38 = .ok (.new 32, 3) := by decide +kernel
theorem dX4_init_41 : decode cX4_init 41 = .ok (.dup, 1) := by decide +kernel
theorem dX4_init_42 : decode cX4_init 42 = .ok (.invokespecial 34, 3) := by decide +kernel
theorem dX4_init_45 : decode cX4_init 45 = .ok (.putfield 35, 3) := by decide +kernel
theorem dX4_init_48 : decode cX4_init 48 = .ok (.aload_n 0, 1) := by decide +kernel
theorem dX4_init_49 : decode cX4_init 49 = .ok (.new 39, 3) := by decide +kernel
theorem dX4_init_52 : decode cX4_init 52 = .ok (.dup, 1) := by decide +kernel
theorem dX4_init_53 : decode cX4_init 53 = .ok (.invokespecial 41, 3) := by decide +kernel
theorem dX4_init_56 : decode cX4_init 56 = .ok (.putfield 42, 3) := by decide +kernel
theorem dX4_init_59 : decode cX4_init 59 = .ok (.aload_n 0, 1) := by decide +kernel
theorem dX4_init_60 : decode cX4_init 60 = .ok (.new 46, 3) := by decide +kernel
theorem dX4_init_63 : decode cX4_init 63 = .ok (.dup, 1) := by decide +kernel
theorem dX4_init_64 : decode cX4_init 64 = .ok (.invokespecial 48, 3) := by decide +kernel
theorem dX4_init_67 : decode cX4_init 67 = .ok (.putfield 49, 3) := by decide +kernel
theorem dX4_init_70 : decode cX4_init 70 = .ok (.return_, 1) := by decide +kernel
theorem dX4_reset_0 : decode cX4_reset 0 = .ok (.aload_n 0, 1) := by decide +kernel
theorem dX4_reset_1 : decode cX4_reset 1 = .ok (.getfield 12, 3) := by decide +kernel
theorem dX4_reset_4 : decode cX4_reset 4 = .ok (.invokevirtual 53, 3) := by decide +kernel
theorem dX4_reset_7 : decode cX4_reset 7 = .ok (.aload_n 0, 1) := by decide +kernel
theorem dX4_reset_8 : decode cX4_reset 8 = .ok (.getfield 21, 3) := by decide +kernel
theorem dX4_reset_11 : decode cX4_reset 11 = .ok (.invokevirtual 56, 3) := by decide +kernel
theorem dX4_reset_14 : decode cX4_reset 14 = .ok (.aload_n 0, 1) := by decide +kernel
theorem dX4_reset_15 : decode cX4_reset 15 = .ok (.getfield 28, 3) := by decide +kernel
theorem dX4_reset_18 : decode cX4_reset 18 = .ok (.iconst 0, 1) := by decide +kernel
theorem dX4_reset_19 : decode cX4_reset 19 = .ok (.putfield 57, 3) := by decide +kernel
theorem dX4_reset_22 : decode cX4_reset 22 = .ok (.aload_n 0, 1) := by decide +kernel
theorem dX4_reset_23 : decode cX4_reset 23 = .ok (.getfield 35, 3) := by decide +kernel
theorem dX4_reset_26 : decode cX4_reset 26 = .ok (.iconst 0, 1) := by decide +kernel
theorem dX4_reset_27 : decode cX4_reset 27 = .ok (.putfield 61, 3) := by decide +kernel
theorem dX4_reset_30 : decode cX4_reset 30 = .ok (.aload_n 0, 1) := by decide +kernel
theorem dX4_reset_31 : decode cX4_reset 31 = .ok (.getfield 42, 3) := by decide +kernel
theorem dX4_reset_34 : decode cX4_reset 34 = .ok (.iconst 0, 1) := by decide +kernel
theorem dX4_reset_35 : decode cX4_reset 35 = .ok (.putfield 62, 3) := by decide +kernel
theorem dX4_reset_38 : decode cX4_reset 38 = .ok (.aload_n 0, 1) := by decide +kernel
theorem dX4_reset_39 : decode cX4_reset 39 = .ok (.getfield 49, 3) := by decide +kernel
theorem dX4_reset_42 : decode cX4_reset 42 = .ok (.invokevirtual 63, 3) := by decide +kernel
theorem dX4_reset_45 : decode cX4_reset 45 = .ok (.aload_n 0, 1) := by decide +kernel
theorem dX4_reset_46 : decode cX4_reset 46 = .ok (.iconst 1, 1) := by decide +kernel
theorem dX4_reset_47 : decode cX4_reset 47 = .ok (.putfield 64, 3) := by decide +kernel
theorem dX4_reset_50 : decode cX4_reset 50 = .ok (.return_, 1) := by decide +kernel
theorem dX4_copyFrom_0 : decode cX4_copyFrom 0 = .ok (.aload_n 0, 1) := by decide +kernel
theorem dX4_copyFrom_1 : decode cX4_copyFrom 1 = .ok (.getfield 12, 3) := by decide +kernel
theorem dX4_copyFrom_4 : decode cX4_copyFrom 4 = .ok (.aload_n 1, 1) := by decide +kernel
theorem dX4_copyFrom_5 : decode cX4_copyFrom 5 = .ok (.getfield 12, 3) := by decide +kernel
theorem dX4_copyFrom_8 : decode cX4_copyFrom 8 = .ok (.invokevirtual 67, 3) := by decide +kernel
theorem dX4_copyFrom_11 : decode cX4_copyFrom 11 = .ok (.aload_n 0, 1) := by decide +kernel
theorem dX4_copyFrom_12 : decode cX4_copyFrom 12 = .ok (.getfield 21, 3) := by decide +kernel
theorem dX4_copyFrom_15 : decode cX4_copyFrom 15 = .ok (.aload_n 1, 1) := by decide +kernel
theorem dX4_copyFrom_16 : decode cX4_copyFrom 16 = .ok (.getfield 21, 3) := by decide +kernel
theorem dX4_copyFrom_19 : decode cX4_copyFrom 19 = .ok (.invokevirtual 71, 3) := by decide +kernel
theorem dX4_copyFrom_22 : decode cX4_copyFrom 22 = .ok (.aload_n 0, 1) := by decide +kernel
theorem dX4_copyFrom_23 : decode cX4_copyFrom 23 = .ok (.getfield 28, 3) := by decide +kernel
theorem dX4_copyFrom_26 : decode cX4_copyFrom 26 = .ok (.aload_n 1, 1) := by decide +kernel
theorem dX4_copyFrom_27 : decode cX4_copyFrom 27 = .ok (.getfield 28, 3) := by decide +kernel
theorem dX4_copyFrom_30 : decode cX4_copyFrom 30 = .ok (.invokevirtual 74, 3) := by decide +kernel
theorem dX4_copyFrom_33 : decode cX4_copyFrom 33 = .ok (.aload_n 0, 1) := by decide +kernel
theorem dX4_copyFrom_34 : decode cX4_copyFrom 34 = .ok (.getfield 35, 3) := by decide +kernel
theorem dX4_copyFrom_37 : decode cX4_copyFrom 37 = .ok (.aload_n 1, 1) := by decide +kernel
theorem dX4_copyFrom_38 : decode cX4_copyFrom 38 = .ok (.getfield 35, 3) := by decide +kernel
theorem dX4_copyFrom_41 : decode cX4_copyFrom 41 = .ok (.invokevirtual 77, 3) := by decide +kernel
theorem dX4_copyFrom_44 : decode cX4_copyFrom 44 = .ok (.aload_n 0, 1) := by decide +kernel
theorem dX4_copyFrom_45 : decode cX4_copyFrom 45 = .ok (.getfield 42, 3) := by decide +kernel
theorem dX4_copyFrom_48 : decode cX4_copyFrom 48 = .ok (.aload_n 1, 1) := by decide +kernel
theorem dX4_copyFrom_49 : decode cX4_copyFrom 49 = .ok (.getfield 42, 3) := by decide +kernel
theorem dX4_copyFrom_52 : decode cX4_copyFrom 52 = .ok (.invokevirtual 80, 3) := by decide +kernel
theorem dX4_copyFrom_55 : decode cX4_copyFrom 55 = .ok (.aload_n 0, 1) := by decide +kernel
theorem dX4_copyFrom_56 : decode cX4_copyFrom 56 = .ok (.getfield 49, 3) := by decide +kernel
theorem dX4_copyFrom_59 : decode cX4_copyFrom 59 = .ok (.aload_n 1, 1) := by decide +kernel
theorem dX4_copyFrom_60 : decode cX4_copyFrom 60 = .ok (.getfield 49, 3) := by decide +kernel
theorem dX4_copyFrom_63 : decode cX4_copyFrom 63 = .ok (.invokevirtual 83, 3) := by decide +kernel
theorem dX4_copyFrom_66 : decode cX4_copyFrom 66 = .ok (.aload_n 0, 1) := by decide +kernel
theorem dX4_copyFrom_67 : decode cX4_copyFrom 67 = .ok (.aload_n 1, 1) := by decide +kernel
theorem dX4_copyFrom_68 : decode cX4_copyFrom 68 = .ok (.getfield 64, 3) := by decide +kernel
theorem dX4_copyFrom_71 : decode cX4_copyFrom 71 = .ok (.putfield 64, 3) := by decide +kernel
theorem dX4_copyFrom_74 : decode cX4_copyFrom 74 = .ok (.return_, 1) := by decide +kernel
theorem dX4_letTicksPass_0 : decode cX4_letTicksPass 0 = .ok (.aload_n 0, 1) := by decide +kernel
theorem dX4_letTicksPass_1 : decode cX4_letTicksPass 1 = .ok (.getfield 12, 3) := by decide +kernel
theorem dX4_letTicksPass_4 : decode cX4_letTicksPass 4 = .ok (.invokevirtual 86, 3) := by decide +kernel
theorem dX4_letTicksPass_7 : decode cX4_letTicksPass 7 = .ok (.istore_n 2, 1) := by decide +kernel
theorem dX4_letTicksPass_8 : decode cX4_letTicksPass 8 = .ok (.aload_n 0, 1) := by decide +kernel
theorem dX4_letTicksPass_9 : decode cX4_letTicksPass 9 = .ok (.getfield 12, 3) := by decide +kernel
theorem dX4_letTicksPass_12 : decode cX4_letTicksPass 12 = .ok (.dup, 1) := by decide +kernel
theorem dX4_letTicksPass_13 : decode cX4_letTicksPass 13 = .ok (.getfield 90, 3) := by decide +kernel
theorem dX4_letTicksPass_16 : decode cX4_letTicksPass 16 = .ok (.iload_n 1, 1) := by decide +kernel
theorem dX4_letTicksPass_17 : decode cX4_letTicksPass 17 = .ok (.iadd, 1) := by decide +kernel
theorem dX4_letTicksPass_18 : decode cX4_letTicksPass 18 = .ok (.putfield 90, 3) := by decide +kernel
theorem dX4_letTicksPass_21 : decode cX4_letTicksPass 21 = .ok (.aload_n 0, 1) := by decide +kernel
theorem dX4_letTicksPass_22 : decode cX4_letTicksPass 22 = .ok (.getfield 28, 3) := by decide +kernel
theorem dX4_letTicksPass_25 : decode cX4_letTicksPass 25 = .ok (.invokevirtual 93, 3) := by decide +kernel
theorem dX4_letTicksPass_28 : decode cX4_letTicksPass 28 = .ok (.iload_n 2, 1) := by decide +kernel
theorem dX4_letTicksPass_29 : decode cX4_letTicksPass 29 = .ok (.iconst 1, 1) := by decide +kernel
theorem dX4_letTicksPass_30 : decode cX4_letTicksPass 30 = .ok (.iadd, 1) := by decide +kernel
theorem dX4_letTicksPass_31 : decode cX4_letTicksPass 31 = .ok (.istore_n 3, 1) := by decide +kernel
theorem dX4_letTicksPass_32 : decode cX4_letTicksPass 32 = .ok (.iload_n 3, 1) := by decide +kernel
theorem dX4_letTicksPass_33 : decode cX4_letTicksPass 33 = .ok (.aload_n 0, 1) := by decide +kernel
theorem dX4_letTicksPass_34 : decode cX4_letTicksPass 34 = .ok (.getfield 12, 3) := by decide +kernel
theorem dX4_letTicksPass_37 : decode cX4_letTicksPass 37 = .ok (.invokevirtual 86, 3) := by decide +kernel
theorem dX4_letTicksPass_40 : decode cX4_letTicksPass 40 = .ok (.if_icmp .gt 17, 3) := by decide +kernel
theorem dX4_letTicksPass_43 : decode cX4_letTicksPass 43 = .ok (.aload_n 0, 1) := by decide +kernel
theorem dX4_letTicksPass_44 : decode cX4_letTicksPass 44 = .ok (.getfield 28, 3) := by decide +kernel
theorem dX4_letTicksPass_47 : decode cX4_letTicksPass 47 = .ok (.iload_n 3, 1) := by decide +kernel
theorem dX4_letTicksPass_48 : decode cX4_letTicksPass 48 = .ok (.invokevirtual 96, 3) := by decide +kernel
theorem dX4_letTicksPass_51 : decode cX4_letTicksPass 51 = .ok (.iinc 3 1, 3) := by decide +kernel
theorem dX4_letTicksPass_54 : decode cX4_letTicksPass 54 = .ok (.goto (-22), 3) := by decide +kernel
theorem dX4_letTicksPass_57 : decode cX4_letTicksPass 57 = .ok (.return_, 1) := by decide +kernel
theorem dX4_canSellPass_0 : decode cX4_canSellPass 0 = .ok (.aload_n 0, 1) := by decide +kernel
theorem dX4_canSellPass_1 : decode cX4_canSellPass 1 = .ok (.getfield 35, 3) := by decide +kernel
theorem dX4_canSellPass_4 : decode cX4_canSellPass 4 = .ok (.invokevirtual 100, 3) := by decide +kernel
theorem dX4_canSellPass_7 : decode cX4_canSellPass 7 = .ok (.ifCond .eq 17, 3) := by decide +kernel
theorem dX4_canSellPass_10 : decode cX4_canSellPass 10 = .ok (.aload_n 0, 1) := by decide +kernel
theorem dX4_canSellPass_11 : decode cX4_canSellPass 11 = .ok (.getfield 42, 3) := by decide +kernel
theorem dX4_canSellPass_14 : decode cX4_canSellPass 14 = .ok (.invokevirtual 104, 3) := by decide +kernel
theorem dX4_canSellPass_17 : decode cX4_canSellPass 17 = .ok (.ifCond .eq 7, 3) := by decide +kernel
theorem dX4_canSellPass_20 : decode cX4_canSellPass 20 = .ok (.iconst 1, 1) := by decide +kernel
theorem dX4_canSellPass_21 : decode cX4_canSellPass 21 = .ok (.goto 4, 3) := by decide +kernel
theorem dX4_canSellPass_24 : decode cX4_canSellPass 24 = .ok (.iconst 0, 1) := by decide +kernel
theorem dX4_canSellPass_25 : decode cX4_canSellPass 25 = .ok (.ireturn, 1) := by decide +kernel
theorem dX4_sellPass_0 : decode cX4_sellPass 0 = .ok (.aload_n 0, 1) := by decide +kernel
theorem dX4_sellPass_1 : decode cX4_sellPass 1 = .ok (.getfield 21, 3) := by decide +kernel
theorem dX4_sellPass_4 : decode cX4_sellPass 4 = .ok (.iload_n 1, 1) := by decide +kernel
theorem dX4_sellPass_5 : decode cX4_sellPass 5 = .ok (.iload_n 3, 1) := by decide +kernel
theorem dX4_sellPass_6 : decode cX4_sellPass 6 = .ok (.iload 4, 2) := by decide +kernel
theorem dX4_sellPass_8 : decode cX4_sellPass 8 = .ok (.invokevirtual 105, 3) := by decide +kernel
theorem dX4_sellPass_11 : decode cX4_sellPass 11 = .ok (.istore 5, 2) := by decide +kernel
theorem dX4_sellPass_13 : decode cX4_sellPass 13 = .ok (.aload_n 0, 1) := by decide +kernel
theorem dX4_sellPass_14 : decode cX4_sellPass 14 = .ok (.getfield 35, 3) := by decide +kernel
theorem dX4_sellPass_17 : decode cX4_sellPass 17 = .ok (.iload_n 1, 1) := by decide +kernel
theorem dX4_sellPass_18 : decode cX4_sellPass 18 = .ok (.iload_n 2, 1) := by decide +kernel
theorem dX4_sellPass_19 : decode cX4_sellPass 19 = .ok (.iload_n 3, 1) := by decide +kernel
theorem dX4_sellPass_20 : decode cX4_sellPass 20 = .ok (.iload 4, 2) := by decide +kernel
theorem dX4_sellPass_22 : decode cX4_sellPass 22 = .ok (.iload 5, 2) := by decide +kernel
theorem dX4_sellPass_24 : decode cX4_sellPass 24 = .ok (.invokevirtual 109, 3) := by decide +kernel
theorem dX4_sellPass_27 : decode cX4_sellPass 27 = .ok (.istore 6, 2) := by decide +kernel
theorem dX4_sellPass_29 : decode cX4_sellPass 29 = .ok (.aload_n 0, 1) := by decide +kernel
theorem dX4_sellPass_30 : decode cX4_sellPass 30 = .ok (.getfield 35, 3) := by decide +kernel
theorem dX4_sellPass_33 : decode cX4_sellPass 33 = .ok (.getfield 113, 3) := by decide +kernel
theorem dX4_sellPass_36 : decode cX4_sellPass 36 = .ok (.iload 6, 2) := by decide +kernel
theorem dX4_sellPass_38 : decode cX4_sellPass 38 = .ok (.aload_n 0, 1) := by decide +kernel
theorem dX4_sellPass_39 : decode cX4_sellPass 39 = .ok (.getfield 42, 3) := by decide +kernel
theorem dX4_sellPass_42 : decode cX4_sellPass 42 = .ok (.iload 6, 2) := by decide +kernel
theorem dX4_sellPass_44 : decode cX4_sellPass 44 = .ok (.invokevirtual 117, 3) := by decide +kernel
theorem dX4_sellPass_47 : decode cX4_sellPass 47 = .ok (.iastore, 1) := by decide +kernel
theorem dX4_sellPass_48 : decode cX4_sellPass 48 = .ok (.aload_n 0, 1) := by decide +kernel
theorem dX4_sellPass_49 : decode cX4_sellPass 49 = .ok (.getfield 49, 3) := by decide +kernel
theorem dX4_sellPass_52 : decode cX4_sellPass 52 = .ok (.dup, 1) := by decide +kernel
theorem dX4_sellPass_53 : decode cX4_sellPass 53 = .ok (.getfield 120, 3) := by decide +kernel
theorem dX4_sellPass_56 : decode cX4_sellPass 56 = .ok (.iload 5, 2) := by decide +kernel
theorem dX4_sellPass_58 : decode cX4_sellPass 58 = .ok (.iadd, 1) := by decide +kernel
theorem dX4_sellPass_59 : decode cX4_sellPass 59 = .ok (.putfield 120, 3) := by decide +kernel
theorem dX4_sellPass_62 : decode cX4_sellPass 62 = .ok (.iload 6, 2) := by decide +kernel
theorem dX4_sellPass_64 : decode cX4_sellPass 64 = .ok (.ireturn, 1) := by decide +kernel
theorem dX4_canChangePass_0 : decode cX4_canChangePass 0 = .ok (.aload_n 0, 1) := by decide +kernel
theorem dX4_canChangePass_1 : decode cX4_canChangePass 1 = .ok (.getfield 35, 3) := by decide +kernel
theorem dX4_canChangePass_4 : decode cX4_canChangePass 4 = .ok (.getfield 123, 3) := by decide +kernel
theorem dX4_canChangePass_7 : decode cX4_canChangePass 7 = .ok (.iload_n 1, 1) := by decide +kernel
theorem dX4_canChangePass_8 : decode cX4_canChangePass 8 = .ok (.baload, 1) := by decide +kernel
theorem dX4_canChangePass_9 : decode cX4_canChangePass 9 = .ok (.ifCond .ne 25, 3) := by decide +kernel
theorem dX4_canChangePass_12 : decode cX4_canChangePass 12 = .ok (.aload_n 0, 1) := by decide +kernel
theorem dX4_canChangePass_13 : decode cX4_canChangePass 13 = .ok (.getfield 35, 3) := by decide +kernel
theorem dX4_canChangePass_16 : decode cX4_canChangePass 16 = .ok (.iload_n 1, 1) := by decide +kernel
theorem dX4_canChangePass_17 : decode cX4_canChangePass 17 = .ok (.invokevirtual 127, 3) := by decide +kernel
theorem dX4_canChangePass_20 : decode cX4_canChangePass 20 = .ok (.aload_n 0, 1) := by decide +kernel
theorem dX4_canChangePass_21 : decode cX4_canChangePass 21 = .ok (.getfield 12, 3) := by decide +kernel
theorem dX4_canChangePass_24 : decode cX4_canChangePass 24 = .ok (.invokevirtual 86, 3) := by decide +kernel
theorem dX4_canChangePass_27 : decode cX4_canChangePass 27 = .ok (.if_icmp .lt 7, 3) := by decide +kernel
theorem dX4_canChangePass_30 : decode cX4_canChangePass 30 = .ok (.iconst 1, 1) := by decide +kernel
theorem dX4_canChangePass_31 : decode cX4_canChangePass 31 = .ok (.goto 4, 3) := by decide +kernel
theorem dX4_canChangePass_34 : decode cX4_canChangePass 34 = .ok (.iconst 0, 1) := by decide +kernel
theorem dX4_canChangePass_35 : decode cX4_canChangePass 35 = .ok (.ireturn, 1) := by decide +kernel
theorem dX4_payNewPrice_0 : decode cX4_payNewPrice 0 = .ok (.aload_n 0, 1) := by decide +kernel
theorem dX4_payNewPrice_1 : decode cX4_payNewPrice 1 = .ok (.getfield 21, 3) := by decide +kernel
theorem dX4_payNewPrice_4 : decode cX4_payNewPrice 4 = .ok (.aload_n 0, 1) := by decide +kernel
theorem dX4_payNewPrice_5 : decode cX4_payNewPrice 5 = .ok (.getfield 35, 3) := by decide +kernel
theorem dX4_payNewPrice_8 : decode cX4_payNewPrice 8 = .ok (.getfield 130, 3) := by decide +kernel
theorem dX4_payNewPrice_11 : decode cX4_payNewPrice 11 = .ok (.iload_n 1, 1) := by decide +kernel
theorem dX4_payNewPrice_12 : decode cX4_payNewPrice 12 = .ok (.iaload, 1) := by decide +kernel
theorem dX4_payNewPrice_13 : decode cX4_payNewPrice 13 = .ok (.aload_n 0, 1) := by decide +kernel
theorem dX4_payNewPrice_14 : decode cX4_payNewPrice 14 = .ok (.getfield 35, 3) := by decide +kernel
theorem dX4_payNewPrice_17 : decode cX4_payNewPrice 17 = .ok (.getfield 133, 3) := by decide +kernel
theorem dX4_payNewPrice_20 : decode cX4_payNewPrice 20 = .ok (.iload_n 1, 1) := by decide +kernel
theorem dX4_payNewPrice_21 : decode cX4_payNewPrice 21 = .ok (.iaload, 1) := by decide +kernel
theorem dX4_payNewPrice_22 : decode cX4_payNewPrice 22 = .ok (.aload_n 0, 1) := by decide +kernel
theorem dX4_payNewPrice_23 : decode cX4_payNewPrice 23 = .ok (.getfield 35, 3) := by decide +kernel
theorem dX4_payNewPrice_26 : decode cX4_payNewPrice 26 = .ok (.getfield 136, 3) := by decide +kernel
theorem dX4_payNewPrice_29 : decode cX4_payNewPrice 29 = .ok (.iload_n 1, 1) := by decide +kernel
theorem dX4_payNewPrice_30 : decode cX4_payNewPrice 30 = .ok (.iaload, 1) := by decide +kernel
theorem dX4_payNewPrice_31 : decode cX4_payNewPrice 31 = .ok (.invokevirtual 105, 3) := by decide +kernel
theorem dX4_payNewPrice_34 : decode cX4_payNewPrice 34 = .ok (.istore_n 2, 1) := by decide +kernel
theorem dX4_payNewPrice_35 : decode cX4_payNewPrice 35 = .ok (.iconst 0, 1) := by decide +kernel
theorem dX4_payNewPrice_36 : decode cX4_payNewPrice 36 = .ok (.iload_n 2, 1) := by decide +kernel
theorem dX4_payNewPrice_37 : decode cX4_payNewPrice 37 = .ok (.aload_n 0, 1) := by decide +kernel
theorem dX4_payNewPrice_38 : decode cX4_payNewPrice 38 = .ok (.getfield 35, 3) := by decide +kernel
theorem dX4_payNewPrice_41 : decode cX4_payNewPrice 41 = .ok (.getfield 139, 3) := by decide +kernel
theorem dX4_payNewPrice_44 : decode cX4_payNewPrice 44 = .ok (.iload_n 1, 1) := by decide +kernel
theorem dX4_payNewPrice_45 : decode cX4_payNewPrice 45 = .ok (.iaload, 1) := by decide +kernel
theorem dX4_payNewPrice_46 : decode cX4_payNewPrice 46 = .ok (.isub, 1) := by decide +kernel
theorem dX4_payNewPrice_47 : decode cX4_payNewPrice 47 = .ok (.invokestatic 142, 3) := by decide +kernel
theorem dX4_payNewPrice_50 : decode cX4_payNewPrice 50 = .ok (.istore_n 3, 1) := by decide +kernel
theorem dX4_payNewPrice_51 : decode cX4_payNewPrice 51 = .ok (.aload_n 0, 1) := by decide +kernel
theorem dX4_payNewPrice_52 : decode cX4_payNewPrice 52 = .ok (.getfield 35, 3) := by decide +kernel
theorem dX4_payNewPrice_55 : decode cX4_payNewPrice 55 = .ok (.getfield 139, 3) := by decide +kernel
theorem dX4_payNewPrice_58 : decode cX4_payNewPrice 58 = .ok (.iload_n 1, 1) := by decide +kernel
theorem dX4_payNewPrice_59 : decode cX4_payNewPrice 59 = .ok (.dup2, 1) := by decide +kernel
theorem dX4_payNewPrice_60 : decode cX4_payNewPrice 60 = .ok (.iaload, 1) := by decide +kernel
theorem dX4_payNewPrice_61 : decode cX4_payNewPrice 61 = .ok (.iload_n 3, 1) := by decide +kernel
theorem dX4_payNewPrice_62 : decode cX4_payNewPrice 62 = .ok (.iadd, 1) := by decide +kernel
theorem dX4_payNewPrice_63 : decode cX4_payNewPrice 63 = .ok (.iastore, 1) := by decide +kernel
theorem dX4_payNewPrice_64 : decode cX4_payNewPrice 64 = .ok (.aload_n 0, 1) := by decide +kernel
theorem dX4_payNewPrice_65 : decode cX4_payNewPrice 65 = .ok (.getfield 49, 3) := by decide +kernel
theorem dX4_payNewPrice_68 : decode cX4_payNewPrice 68 = .ok (.dup, 1) := by decide +kernel
theorem dX4_payNewPrice_69 : decode cX4_payNewPrice 69 = .ok (.getfield 120, 3) := by decide +kernel
theorem dX4_payNewPrice_72 : decode cX4_payNewPrice 72 = .ok (.iload_n 3, 1) := by decide +kernel
theorem dX4_payNewPrice_73 : decode cX4_payNewPrice 73 = .ok (.iadd, 1) := by decide +kernel
theorem dX4_payNewPrice_74 : decode cX4_payNewPrice 74 = .ok (.putfield 120, 3) := by decide +kernel
theorem dX4_payNewPrice_77 : decode cX4_payNewPrice 77 = .ok (.iload_n 3, 1) := by decide +kernel
theorem dX4_payNewPrice_78 : decode cX4_payNewPrice 78 = .ok (.ireturn, 1) := by decide +kernel
theorem dX4_blockCardOf_0 : decode cX4_blockCardOf 0 = .ok (.aload_n 0, 1) := by decide +kernel
theorem dX4_blockCardOf_1 : decode cX4_blockCardOf 1 = .ok (.getfield 35, 3) := by decide +kernel
theorem dX4_blockCardOf_4 : decode cX4_blockCardOf 4 = .ok (.getfield 113, 3) := by decide +kernel
theorem dX4_blockCardOf_7 : decode cX4_blockCardOf 7 = .ok (.iload_n 1, 1) := by decide +kernel
theorem dX4_blockCardOf_8 : decode cX4_blockCardOf 8 = .ok (.iaload, 1) := by decide +kernel
theorem dX4_blockCardOf_9 : decode cX4_blockCardOf 9 = .ok (.istore_n 2, 1) := by decide +kernel
theorem dX4_blockCardOf_10 : decode cX4_blockCardOf 10 = .ok (.aload_n 0, 1) := by decide +kernel
theorem dX4_blockCardOf_11 : decode cX4_blockCardOf 11 = .ok (.getfield 42, 3) := by decide +kernel
theorem dX4_blockCardOf_14 : decode cX4_blockCardOf 14 = .ok (.iload_n 2, 1) := by decide +kernel
theorem dX4_blockCardOf_15 : decode cX4_blockCardOf 15 = .ok (.invokevirtual 148, 3) := by decide +kernel
theorem dX4_blockCardOf_18 : decode cX4_blockCardOf 18 = .ok (.ifCond .eq 13, 3) := by decide +kernel
theorem dX4_blockCardOf_21 : decode cX4_blockCardOf 21 = .ok (.aload_n 0, 1) := by decide +kernel
theorem dX4_blockCardOf_22 : decode cX4_blockCardOf 22 = .ok (.getfield 42, 3) := by decide +kernel
theorem dX4_blockCardOf_25 : decode cX4_blockCardOf 25 = .ok (.getfield 152, 3) := by decide +kernel
theorem dX4_blockCardOf_28 : decode cX4_blockCardOf 28 = .ok (.iload_n 2, 1) := by decide +kernel
theorem dX4_blockCardOf_29 : decode cX4_blockCardOf 29 = .ok (.iconst 1, 1) := by decide +kernel
theorem dX4_blockCardOf_30 : decode cX4_blockCardOf 30 = .ok (.bastore, 1) := by decide +kernel
theorem dX4_blockCardOf_31 : decode cX4_blockCardOf 31 = .ok (.aload_n 0, 1) := by decide +kernel
theorem dX4_blockCardOf_32 : decode cX4_blockCardOf 32 = .ok (.getfield 35, 3) := by decide +kernel
theorem dX4_blockCardOf_35 : decode cX4_blockCardOf 35 = .ok (.getfield 113, 3) := by decide +kernel
theorem dX4_blockCardOf_38 : decode cX4_blockCardOf 38 = .ok (.iload_n 1, 1) := by decide +kernel
theorem dX4_blockCardOf_39 : decode cX4_blockCardOf 39 = .ok (.iconst (-1), 1) := by decide +kernel
theorem dX4_blockCardOf_40 : decode cX4_blockCardOf 40 = .ok (.iastore, 1) := by decide +kernel
theorem dX4_blockCardOf_41 : decode cX4_blockCardOf 41 = .ok (.iload_n 2, 1) := by decide +kernel
theorem dX4_blockCardOf_42 : decode cX4_blockCardOf 42 = .ok (.ireturn, 1) := by decide +kernel
theorem dX4_canReplaceCard_0 : decode cX4_canReplaceCard 0 = .ok (.aload_n 0, 1) := by decide +kernel
theorem dX4_canReplaceCard_1 : decode cX4_canReplaceCard 1 = .ok (.getfield 35, 3) := by decide +kernel
theorem dX4_canReplaceCard_4 : decode cX4_canReplaceCard 4 = .ok (.iload_n 1, 1) := by decide +kernel
theorem dX4_canReplaceCard_5 : decode cX4_canReplaceCard 5 = .ok (.invokevirtual 155, 3) := by decide +kernel
theorem dX4_canReplaceCard_8 : decode cX4_canReplaceCard 8 = .ok (.ifCond .ne 29, 3) := by decide +kernel
theorem dX4_canReplaceCard_11 : decode cX4_canReplaceCard 11 = .ok (.aload_n 0, 1) := by decide +kernel
theorem dX4_canReplaceCard_12 : decode cX4_canReplaceCard 12 = .ok (.getfield 35, 3) := by decide +kernel
theorem dX4_canReplaceCard_15 : decode cX4_canReplaceCard 15 = .ok (.getfield 123, 3) := by decide +kernel
theorem dX4_canReplaceCard_18 : decode cX4_canReplaceCard 18 = .ok (.iload_n 1, 1) := by decide +kernel
theorem dX4_canReplaceCard_19 : decode cX4_canReplaceCard 19 = .ok (.baload, 1) := by decide +kernel
theorem dX4_canReplaceCard_20 : decode cX4_canReplaceCard 20 = .ok (.ifCond .ne 17, 3) := by decide +kernel
theorem dX4_canReplaceCard_23 : decode cX4_canReplaceCard 23 = .ok (.aload_n 0, 1) := by decide +kernel
theorem dX4_canReplaceCard_24 : decode cX4_canReplaceCard 24 = .ok (.getfield 42, 3) := by decide +kernel
theorem dX4_canReplaceCard_27 : decode cX4_canReplaceCard 27 = .ok (.invokevirtual 104, 3) := by decide +kernel
theorem dX4_canReplaceCard_30 : decode cX4_canReplaceCard 30 = .ok (.ifCond .eq 7, 3) := by decide +kernel
theorem dX4_canReplaceCard_33 : decode cX4_canReplaceCard 33 = .ok (.iconst 1, 1) := by decide +kernel
theorem dX4_canReplaceCard_34 : decode cX4_canReplaceCard 34 = .ok (.goto 4, 3) := by decide +kernel
theorem dX4_canReplaceCard_37 : decode cX4_canReplaceCard 37 = .ok (.iconst 0, 1) := by decide +kernel
theorem dX4_canReplaceCard_38 : decode cX4_canReplaceCard 38 = .ok (.ireturn, 1) := by decide +kernel
theorem dX4_issueNewCard_0 : decode cX4_issueNewCard 0 = .ok (.aload_n 0, 1) := by decide +kernel
theorem dX4_issueNewCard_1 : decode cX4_issueNewCard 1 = .ok (.getfield 35, 3) := by decide +kernel
theorem dX4_issueNewCard_4 : decode cX4_issueNewCard 4 = .ok (.getfield 113, 3) := by decide +kernel
theorem dX4_issueNewCard_7 : decode cX4_issueNewCard 7 = .ok (.iload_n 1, 1) := by decide +kernel
theorem dX4_issueNewCard_8 : decode cX4_issueNewCard 8 = .ok (.aload_n 0, 1) := by decide +kernel
theorem dX4_issueNewCard_9 : decode cX4_issueNewCard 9 = .ok (.getfield 42, 3) := by decide +kernel
theorem dX4_issueNewCard_12 : decode cX4_issueNewCard 12 = .ok (.iload_n 1, 1) := by decide +kernel
theorem dX4_issueNewCard_13 : decode cX4_issueNewCard 13 = .ok (.invokevirtual 117, 3) := by decide +kernel
theorem dX4_issueNewCard_16 : decode cX4_issueNewCard 16 = .ok (.iastore, 1) := by decide +kernel
theorem dX4_issueNewCard_17 : decode cX4_issueNewCard 17 = .ok (.aload_n 0, 1) := by decide +kernel
theorem dX4_issueNewCard_18 : decode cX4_issueNewCard 18 = .ok (.getfield 49, 3) := by decide +kernel
theorem dX4_issueNewCard_21 : decode cX4_issueNewCard 21 = .ok (.dup, 1) := by decide +kernel
theorem dX4_issueNewCard_22 : decode cX4_issueNewCard 22 = .ok (.getfield 120, 3) := by decide +kernel
theorem dX4_issueNewCard_25 : decode cX4_issueNewCard 25 = .ok (.iconst 5, 1) := by decide +kernel
theorem dX4_issueNewCard_26 : decode cX4_issueNewCard 26 = .ok (.iadd, 1) := by decide +kernel
theorem dX4_issueNewCard_27 : decode cX4_issueNewCard 27 = .ok (.putfield 120, 3) := by decide +kernel
theorem dX4_issueNewCard_30 : decode cX4_issueNewCard 30 = .ok (.aload_n 0, 1) := by decide +kernel
theorem dX4_issueNewCard_31 : decode cX4_issueNewCard 31 = .ok (.getfield 35, 3) := by decide +kernel
theorem dX4_issueNewCard_34 : decode cX4_issueNewCard 34 = .ok (.getfield 113, 3) := by decide +kernel
theorem dX4_issueNewCard_37 : decode cX4_issueNewCard 37 = .ok (.iload_n 1, 1) := by decide +kernel
theorem dX4_issueNewCard_38 : decode cX4_issueNewCard 38 = .ok (.iaload, 1) := by decide +kernel
theorem dX4_issueNewCard_39 : decode cX4_issueNewCard 39 = .ok (.ireturn, 1) := by decide +kernel
theorem dX4_refundNow_0 : decode cX4_refundNow 0 = .ok (.aload_n 0, 1) := by decide +kernel
theorem dX4_refundNow_1 : decode cX4_refundNow 1 = .ok (.getfield 35, 3) := by decide +kernel
theorem dX4_refundNow_4 : decode cX4_refundNow 4 = .ok (.getfield 133, 3) := by decide +kernel
theorem dX4_refundNow_7 : decode cX4_refundNow 7 = .ok (.iload_n 1, 1) := by decide +kernel
theorem dX4_refundNow_8 : decode cX4_refundNow 8 = .ok (.iaload, 1) := by decide +kernel
theorem dX4_refundNow_9 : decode cX4_refundNow 9 = .ok (.istore_n 2, 1) := by decide +kernel
theorem dX4_refundNow_10 : decode cX4_refundNow 10 = .ok (.aload_n 0, 1) := by decide +kernel
theorem dX4_refundNow_11 : decode cX4_refundNow 11 = .ok (.getfield 35, 3) := by decide +kernel
theorem dX4_refundNow_14 : decode cX4_refundNow 14 = .ok (.getfield 123, 3) := by decide +kernel
theorem dX4_refundNow_17 : decode cX4_refundNow 17 = .ok (.iload_n 1, 1) := by decide +kernel
theorem dX4_refundNow_18 : decode cX4_refundNow 18 = .ok (.baload, 1) := by decide +kernel
theorem dX4_refundNow_19 : decode cX4_refundNow 19 = .ok (.ifCond .ne 7, 3) := by decide +kernel
theorem dX4_refundNow_22 : decode cX4_refundNow 22 = .ok (.iload_n 2, 1) := by decide +kernel
theorem dX4_refundNow_23 : decode cX4_refundNow 23 = .ok (.ifCond .ne 5, 3) := by decide +kernel
theorem dX4_refundNow_26 : decode cX4_refundNow 26 = .ok (.iconst 0, 1) := by decide +kernel
theorem dX4_refundNow_27 : decode cX4_refundNow 27 = .ok (.ireturn, 1) := by decide +kernel
theorem dX4_refundNow_28 : decode cX4_refundNow 28 = .ok (.aload_n 0, 1) := by decide +kernel
theorem dX4_refundNow_29 : decode cX4_refundNow 29 = .ok (.getfield 35, 3) := by decide +kernel
theorem dX4_refundNow_32 : decode cX4_refundNow 32 = .ok (.getfield 139, 3) := by decide +kernel
theorem dX4_refundNow_35 : decode cX4_refundNow 35 = .ok (.iload_n 1, 1) := by decide +kernel
theorem dX4_refundNow_36 : decode cX4_refundNow 36 = .ok (.iaload, 1) := by decide +kernel
theorem dX4_refundNow_37 : decode cX4_refundNow 37 = .ok (.aload_n 0, 1) := by decide +kernel
theorem dX4_refundNow_38 : decode cX4_refundNow 38 = .ok (.getfield 35, 3) := by decide +kernel
theorem dX4_refundNow_41 : decode cX4_refundNow 41 = .ok (.iload_n 1, 1) := by decide +kernel
theorem dX4_refundNow_42 : decode cX4_refundNow 42 = .ok (.aload_n 0, 1) := by decide +kernel
theorem dX4_refundNow_43 : decode cX4_refundNow 43 = .ok (.getfield 12, 3) := by decide +kernel
theorem dX4_refundNow_46 : decode cX4_refundNow 46 = .ok (.invokevirtual 86, 3) := by decide +kernel
theorem dX4_refundNow_49 : decode cX4_refundNow 49 = .ok (.invokevirtual 158, 3) := by decide +kernel
theorem dX4_refundNow_52 : decode cX4_refundNow 52 = .ok (.imul, 1) := by decide +kernel
theorem dX4_refundNow_53 : decode cX4_refundNow 53 = .ok (.iload_n 2, 1) := by decide +kernel
theorem dX4_refundNow_54 : decode cX4_refundNow 54 = .ok (.idiv, 1) := by decide +kernel
theorem dX4_refundNow_55 : decode cX4_refundNow 55 = .ok (.iconst 2, 1) := by decide +kernel
theorem dX4_refundNow_56 : decode cX4_refundNow 56 = .ok (.idiv, 1) := by decide +kernel
theorem dX4_refundNow_57 : decode cX4_refundNow 57 = .ok (.ireturn, 1) := by decide +kernel
theorem dX4_takeBackPass_0 : decode cX4_takeBackPass 0 = .ok (.aload_n 0, 1) := by decide +kernel
theorem dX4_takeBackPass_1 : decode cX4_takeBackPass 1 = .ok (.iload_n 1, 1) := by decide +kernel
theorem dX4_takeBackPass_2 : decode cX4_takeBackPass 2 = .ok (.invokevirtual 161, 3) := by decide +kernel
theorem dX4_takeBackPass_5 : decode cX4_takeBackPass 5 = .ok (.istore_n 2, 1) := by decide +kernel
theorem dX4_takeBackPass_6 : decode cX4_takeBackPass 6 = .ok (.iload_n 2, 1) := by decide +kernel
theorem dX4_takeBackPass_7 : decode cX4_takeBackPass 7 = .ok (.aload_n 0, 1) := by decide +kernel
theorem dX4_takeBackPass_8 : decode cX4_takeBackPass 8 = .ok (.getfield 35, 3) := by decide +kernel
theorem dX4_takeBackPass_11 : decode cX4_takeBackPass 11 = .ok (.getfield 164, 3) := by decide +kernel
theorem dX4_takeBackPass_14 : decode cX4_takeBackPass 14 = .ok (.iload_n 1, 1) := by decide +kernel
theorem dX4_takeBackPass_15 : decode cX4_takeBackPass 15 = .ok (.iaload, 1) := by decide +kernel
theorem dX4_takeBackPass_16 : decode cX4_takeBackPass 16 = .ok (.invokestatic 167, 3) := by decide +kernel
theorem dX4_takeBackPass_19 : decode cX4_takeBackPass 19 = .ok (.istore_n 3, 1) := by decide +kernel
theorem dX4_takeBackPass_20 : decode cX4_takeBackPass 20 = .ok (.aload_n 0, 1) := by decide +kernel
theorem dX4_takeBackPass_21 : decode cX4_takeBackPass 21 = .ok (.getfield 49, 3) := by decide +kernel
theorem dX4_takeBackPass_24 : decode cX4_takeBackPass 24 = .ok (.dup, 1) := by decide +kernel
theorem dX4_takeBackPass_25 : decode cX4_takeBackPass 25 = .ok (.getfield 170, 3) := by decide +kernel
theorem dX4_takeBackPass_28 : decode cX4_takeBackPass 28 = .ok (.iload_n 2, 1) := by decide +kernel
theorem dX4_takeBackPass_29 : decode cX4_takeBackPass 29 = .ok (.iadd, 1) := by decide +kernel
theorem dX4_takeBackPass_30 : decode cX4_takeBackPass 30 = .ok (.putfield 170, 3) := by decide +kernel
theorem dX4_takeBackPass_33 : decode cX4_takeBackPass 33 = .ok (.aload_n 0, 1) := by decide +kernel
theorem dX4_takeBackPass_34 : decode cX4_takeBackPass 34 = .ok (.iload_n 1, 1) := by decide +kernel
theorem dX4_takeBackPass_35 : decode cX4_takeBackPass 35 = .ok (.iload_n 3, 1) := by decide +kernel
theorem dX4_takeBackPass_36 : decode cX4_takeBackPass 36 = .ok (.invokevirtual 173, 3) := by decide +kernel
theorem dX4_takeBackPass_39 : decode cX4_takeBackPass 39 = .ok (.aload_n 0, 1) := by decide +kernel
theorem dX4_takeBackPass_40 : decode cX4_takeBackPass 40 = .ok (.iload_n 1, 1) := by decide +kernel
theorem dX4_takeBackPass_41 : decode cX4_takeBackPass 41 = .ok (.invokevirtual 177, 3) := by decide +kernel
theorem dX4_takeBackPass_44 : decode cX4_takeBackPass 44 = .ok (.pop, 1) := by decide +kernel
theorem dX4_takeBackPass_45 : decode cX4_takeBackPass 45 = .ok (.aload_n 0, 1) := by decide +kernel
theorem dX4_takeBackPass_46 : decode cX4_takeBackPass 46 = .ok (.getfield 35, 3) := by decide +kernel
theorem dX4_takeBackPass_49 : decode cX4_takeBackPass 49 = .ok (.getfield 123, 3) := by decide +kernel
theorem dX4_takeBackPass_52 : decode cX4_takeBackPass 52 = .ok (.iload_n 1, 1) := by decide +kernel
theorem dX4_takeBackPass_53 : decode cX4_takeBackPass 53 = .ok (.iconst 1, 1) := by decide +kernel
theorem dX4_takeBackPass_54 : decode cX4_takeBackPass 54 = .ok (.bastore, 1) := by decide +kernel
theorem dX4_takeBackPass_55 : decode cX4_takeBackPass 55 = .ok (.iload_n 2, 1) := by decide +kernel
theorem dX4_takeBackPass_56 : decode cX4_takeBackPass 56 = .ok (.iload_n 3, 1) := by decide +kernel
theorem dX4_takeBackPass_57 : decode cX4_takeBackPass 57 = .ok (.isub, 1) := by decide +kernel
theorem dX4_takeBackPass_58 : decode cX4_takeBackPass 58 = .ok (.ireturn, 1) := by decide +kernel
theorem dX4_payFinesOf_0 : decode cX4_payFinesOf 0 = .ok (.aload_n 0, 1) := by decide +kernel
theorem dX4_payFinesOf_1 : decode cX4_payFinesOf 1 = .ok (.getfield 35, 3) := by decide +kernel
theorem dX4_payFinesOf_4 : decode cX4_payFinesOf 4 = .ok (.getfield 164, 3) := by decide +kernel
theorem dX4_payFinesOf_7 : decode cX4_payFinesOf 7 = .ok (.iload_n 1, 1) := by decide +kernel
theorem dX4_payFinesOf_8 : decode cX4_payFinesOf 8 = .ok (.dup2, 1) := by decide +kernel
theorem dX4_payFinesOf_9 : decode cX4_payFinesOf 9 = .ok (.iaload, 1) := by decide +kernel
theorem dX4_payFinesOf_10 : decode cX4_payFinesOf 10 = .ok (.iload_n 2, 1) := by decide +kernel
theorem dX4_payFinesOf_11 : decode cX4_payFinesOf 11 = .ok (.isub, 1) := by decide +kernel
theorem dX4_payFinesOf_12 : decode cX4_payFinesOf 12 = .ok (.iastore, 1) := by decide +kernel
theorem dX4_payFinesOf_13 : decode cX4_payFinesOf 13 = .ok (.aload_n 0, 1) := by decide +kernel
theorem dX4_payFinesOf_14 : decode cX4_payFinesOf 14 = .ok (.getfield 49, 3) := by decide +kernel
theorem dX4_payFinesOf_17 : decode cX4_payFinesOf 17 = .ok (.dup, 1) := by decide +kernel
theorem dX4_payFinesOf_18 : decode cX4_payFinesOf 18 = .ok (.getfield 180, 3) := by decide +kernel
theorem dX4_payFinesOf_21 : decode cX4_payFinesOf 21 = .ok (.iload_n 2, 1) := by decide +kernel
theorem dX4_payFinesOf_22 : decode cX4_payFinesOf 22 = .ok (.iadd, 1) := by decide +kernel
theorem dX4_payFinesOf_23 : decode cX4_payFinesOf 23 = .ok (.putfield 180, 3) := by decide +kernel
theorem dX4_payFinesOf_26 : decode cX4_payFinesOf 26 = .ok (.aload_n 0, 1) := by decide +kernel
theorem dX4_payFinesOf_27 : decode cX4_payFinesOf 27 = .ok (.getfield 49, 3) := by decide +kernel
theorem dX4_payFinesOf_30 : decode cX4_payFinesOf 30 = .ok (.dup, 1) := by decide +kernel
theorem dX4_payFinesOf_31 : decode cX4_payFinesOf 31 = .ok (.getfield 120, 3) := by decide +kernel
theorem dX4_payFinesOf_34 : decode cX4_payFinesOf 34 = .ok (.iload_n 2, 1) := by decide +kernel
theorem dX4_payFinesOf_35 : decode cX4_payFinesOf 35 = .ok (.iadd, 1) := by decide +kernel
theorem dX4_payFinesOf_36 : decode cX4_payFinesOf 36 = .ok (.putfield 120, 3) := by decide +kernel
theorem dX4_payFinesOf_39 : decode cX4_payFinesOf 39 = .ok (.return_, 1) := by decide +kernel
theorem dX4_waitForNextVisit_0 : decode cX4_waitForNextVisit 0 = .ok (.aload_n 0, 1) := by decide +kernel
theorem dX4_waitForNextVisit_1 : decode cX4_waitForNextVisit 1 = .ok (.getfield 35, 3) := by decide +kernel
theorem dX4_waitForNextVisit_4 : decode cX4_waitForNextVisit 4 = .ok (.getfield 183, 3) := by decide +kernel
theorem dX4_waitForNextVisit_7 : decode cX4_waitForNextVisit 7 = .ok (.iload_n 1, 1) := by decide +kernel
theorem dX4_waitForNextVisit_8 : decode cX4_waitForNextVisit 8 = .ok (.iaload, 1) := by decide +kernel
theorem dX4_waitForNextVisit_9 : decode cX4_waitForNextVisit 9 = .ok (.aload_n 0, 1) := by decide +kernel
theorem dX4_waitForNextVisit_10 : decode cX4_waitForNextVisit 10 = .ok (.getfield 64, 3) := by decide +kernel
theorem dX4_waitForNextVisit_13 : decode cX4_waitForNextVisit 13 = .ok (.iadd, 1) := by decide +kernel
theorem dX4_waitForNextVisit_14 : decode cX4_waitForNextVisit 14 = .ok (.istore_n 2, 1) := by decide +kernel
theorem dX4_waitForNextVisit_15 : decode cX4_waitForNextVisit 15 = .ok (.aload_n 0, 1) := by decide +kernel
theorem dX4_waitForNextVisit_16 : decode cX4_waitForNextVisit 16 = .ok (.getfield 35, 3) := by decide +kernel
theorem dX4_waitForNextVisit_19 : decode cX4_waitForNextVisit 19 = .ok (.getfield 183, 3) := by decide +kernel
theorem dX4_waitForNextVisit_22 : decode cX4_waitForNextVisit 22 = .ok (.iload_n 1, 1) := by decide +kernel
theorem dX4_waitForNextVisit_23 : decode cX4_waitForNextVisit 23 = .ok (.iaload, 1) := by decide +kernel
theorem dX4_waitForNextVisit_24 : decode cX4_waitForNextVisit 24 = .ok (.iconst (-1), 1) := by decide +kernel
theorem dX4_waitForNextVisit_25 : decode cX4_waitForNextVisit 25 = .ok (.if_icmp .eq 14, 3) := by decide +kernel
theorem dX4_waitForNextVisit_28 : decode cX4_waitForNextVisit 28 = .ok (.iload_n 2, 1) := by decide +kernel
theorem dX4_waitForNextVisit_29 : decode cX4_waitForNextVisit 29 = .ok (.aload_n 0, 1) := by decide +kernel
theorem dX4_waitForNextVisit_30 : decode cX4_waitForNextVisit 30 = .ok (.getfield 12, 3) := by decide +kernel
theorem dX4_waitForNextVisit_33 : decode cX4_waitForNextVisit 33 = .ok (.getfield 90, 3) := by decide +kernel
theorem dX4_waitForNextVisit_36 : decode cX4_waitForNextVisit 36 = .ok (.if_icmp .ge 5, 3) := by decide +kernel
theorem dX4_waitForNextVisit_39 : decode cX4_waitForNextVisit 39 = .ok (.iconst 0, 1) := by decide +kernel
theorem dX4_waitForNextVisit_40 : decode cX4_waitForNextVisit 40 = .ok (.ireturn, 1) := by decide +kernel
theorem dX4_waitForNextVisit_41 : decode cX4_waitForNextVisit 41 = .ok (.iload_n 2, 1) := by decide +kernel
theorem dX4_waitForNextVisit_42 : decode cX4_waitForNextVisit 42 = .ok (.aload_n 0, 1) := by decide +kernel
theorem dX4_waitForNextVisit_43 : decode cX4_waitForNextVisit 43 = .ok (.getfield 12, 3) := by decide +kernel
theorem dX4_waitForNextVisit_46 : decode cX4_waitForNextVisit 46 = .ok (.getfield 90, 3) := by decide +kernel
theorem dX4_waitForNextVisit_49 : decode cX4_waitForNextVisit 49 = .ok (.isub, 1) := by decide +kernel
theorem dX4_waitForNextVisit_50 : decode cX4_waitForNextVisit 50 = .ok (.ireturn, 1) := by decide +kernel
theorem dX4_reasonOfRefusal_0 : decode cX4_reasonOfRefusal 0 = .ok (.aload_n 0, 1) := by decide +kernel
theorem dX4_reasonOfRefusal_1 : decode cX4_reasonOfRefusal 1 = .ok (.getfield 42, 3) := by decide +kernel
theorem dX4_reasonOfRefusal_4 : decode cX4_reasonOfRefusal 4 = .ok (.getfield 186, 3) := by decide +kernel
theorem dX4_reasonOfRefusal_7 : decode cX4_reasonOfRefusal 7 = .ok (.iload_n 1, 1) := by decide +kernel
theorem dX4_reasonOfRefusal_8 : decode cX4_reasonOfRefusal 8 = .ok (.iaload, 1) := by decide +kernel
theorem dX4_reasonOfRefusal_9 : decode cX4_reasonOfRefusal 9 = .ok (.istore_n 3, 1) := by decide +kernel
theorem dX4_reasonOfRefusal_10 : decode cX4_reasonOfRefusal 10 = .ok (.aload_n 0, 1) := by decide +kernel
theorem dX4_reasonOfRefusal_11 : decode cX4_reasonOfRefusal 11 = .ok (.getfield 12, 3) := by decide +kernel
theorem dX4_reasonOfRefusal_14 : decode cX4_reasonOfRefusal 14 = .ok (.aload_n 0, 1) := by decide +kernel
theorem dX4_reasonOfRefusal_15 : decode cX4_reasonOfRefusal 15 = .ok (.getfield 12, 3) := by decide +kernel
theorem dX4_reasonOfRefusal_18 : decode cX4_reasonOfRefusal 18 = .ok (.invokevirtual 189, 3) := by decide +kernel
theorem dX4_reasonOfRefusal_21 : decode cX4_reasonOfRefusal 21 = .ok (.invokevirtual 192, 3) := by decide +kernel
theorem dX4_reasonOfRefusal_24 : decode cX4_reasonOfRefusal 24 = .ok (.ifCond .ne 5, 3) := by decide +kernel
theorem dX4_reasonOfRefusal_27 : decode cX4_reasonOfRefusal 27 = .ok (.iconst 1, 1) := by decide +kernel
theorem dX4_reasonOfRefusal_28 : decode cX4_reasonOfRefusal 28 = .ok (.ireturn, 1) := by decide +kernel
theorem dX4_reasonOfRefusal_29 : decode cX4_reasonOfRefusal 29 = .ok (.aload_n 0, 1) := by decide +kernel
theorem dX4_reasonOfRefusal_30 : decode cX4_reasonOfRefusal 30 = .ok (.getfield 42, 3) := by decide +kernel
theorem dX4_reasonOfRefusal_33 : decode cX4_reasonOfRefusal 33 = .ok (.getfield 152, 3) := by decide +kernel
theorem dX4_reasonOfRefusal_36 : decode cX4_reasonOfRefusal 36 = .ok (.iload_n 1, 1) := by decide +kernel
theorem dX4_reasonOfRefusal_37 : decode cX4_reasonOfRefusal 37 = .ok (.baload, 1) := by decide +kernel
theorem dX4_reasonOfRefusal_38 : decode cX4_reasonOfRefusal 38 = .ok (.ifCond .eq 5, 3) := by decide +kernel
theorem dX4_reasonOfRefusal_41 : decode cX4_reasonOfRefusal 41 = .ok (.iconst 2, 1) := by decide +kernel
theorem dX4_reasonOfRefusal_42 : decode cX4_reasonOfRefusal 42 = .ok (.ireturn, 1) := by decide +kernel
theorem dX4_reasonOfRefusal_43 : decode cX4_reasonOfRefusal 43 = .ok (.aload_n 0, 1) := by decide +kernel
theorem dX4_reasonOfRefusal_44 : decode cX4_reasonOfRefusal 44 = .ok (.getfield 35, 3) := by decide +kernel
theorem dX4_reasonOfRefusal_47 : decode cX4_reasonOfRefusal 47 = .ok (.iload_n 3, 1) := by decide +kernel
theorem dX4_reasonOfRefusal_48 : decode cX4_reasonOfRefusal 48 = .ok (.aload_n 0, 1) := by decide +kernel
theorem dX4_reasonOfRefusal_49 : decode cX4_reasonOfRefusal 49 = .ok (.getfield 12, 3) := by decide +kernel
theorem dX4_reasonOfRefusal_52 : decode cX4_reasonOfRefusal 52 = .ok (.invokevirtual 86, 3) := by decide +kernel
theorem dX4_reasonOfRefusal_55 : decode cX4_reasonOfRefusal 55 = .ok (.invokevirtual 195, 3) := by decide +kernel
theorem dX4_reasonOfRefusal_58 : decode cX4_reasonOfRefusal 58 = .ok (.ifCond .ne 5, 3) := by decide +kernel
theorem dX4_reasonOfRefusal_61 : decode cX4_reasonOfRefusal 61 = .ok (.iconst 3, 1) := by decide +kernel
theorem dX4_reasonOfRefusal_62 : decode cX4_reasonOfRefusal 62 = .ok (.ireturn, 1) := by decide +kernel
theorem dX4_reasonOfRefusal_63 : decode cX4_reasonOfRefusal 63 = .ok (.aload_n 0, 1) := by decide +kernel
theorem dX4_reasonOfRefusal_64 : decode cX4_reasonOfRefusal 64 = .ok (.getfield 35, 3) := by decide +kernel
theorem dX4_reasonOfRefusal_67 : decode cX4_reasonOfRefusal 67 = .ok (.iload_n 3, 1) := by decide +kernel
theorem dX4_reasonOfRefusal_68 : decode cX4_reasonOfRefusal 68 = .ok (.aload_n 0, 1) := by decide +kernel
theorem dX4_reasonOfRefusal_69 : decode cX4_reasonOfRefusal 69 = .ok (.getfield 28, 3) := by decide +kernel
theorem dX4_reasonOfRefusal_72 : decode cX4_reasonOfRefusal 72 = .ok (.getfield 199, 3) := by decide +kernel
theorem dX4_reasonOfRefusal_75 : decode cX4_reasonOfRefusal 75 = .ok (.iload_n 2, 1) := by decide +kernel
theorem dX4_reasonOfRefusal_76 : decode cX4_reasonOfRefusal 76 = .ok (.iaload, 1) := by decide +kernel
theorem dX4_reasonOfRefusal_77 : decode cX4_reasonOfRefusal 77 = .ok (.invokevirtual 202, 3) := by decide +kernel
theorem dX4_reasonOfRefusal_80 : decode cX4_reasonOfRefusal 80 = .ok (.ifCond .ne 5, 3) := by decide +kernel
theorem dX4_reasonOfRefusal_83 : decode cX4_reasonOfRefusal 83 = .ok (.iconst 4, 1) := by decide +kernel
theorem dX4_reasonOfRefusal_84 : decode cX4_reasonOfRefusal 84 = .ok (.ireturn, 1) := by decide +kernel
theorem dX4_reasonOfRefusal_85 : decode cX4_reasonOfRefusal 85 = .ok (.aload_n 0, 1) := by decide +kernel
theorem dX4_reasonOfRefusal_86 : decode cX4_reasonOfRefusal 86 = .ok (.getfield 35, 3) := by decide +kernel
theorem dX4_reasonOfRefusal_89 : decode cX4_reasonOfRefusal 89 = .ok (.getfield 164, 3) := by decide +kernel
theorem dX4_reasonOfRefusal_92 : decode cX4_reasonOfRefusal 92 = .ok (.iload_n 3, 1) := by decide +kernel
theorem dX4_reasonOfRefusal_93 : decode cX4_reasonOfRefusal 93 = .ok (.iaload, 1) := by decide +kernel
theorem dX4_reasonOfRefusal_94 : decode cX4_reasonOfRefusal 94 = .ok (.bipush 30, 2) := by decide +kernel
theorem dX4_reasonOfRefusal_96 : decode cX4_reasonOfRefusal 96 = .ok (.if_icmp .le 5, 3) := by decide +kernel
theorem dX4_reasonOfRefusal_99 : decode cX4_reasonOfRefusal 99 = .ok (.iconst 5, 1) := by decide +kernel
theorem dX4_reasonOfRefusal_100 : decode cX4_reasonOfRefusal 100 = .ok (.ireturn, 1) := by decide +kernel
theorem dX4_reasonOfRefusal_101 : decode cX4_reasonOfRefusal 101 = .ok (.aload_n 0, 1) := by decide +kernel
theorem dX4_reasonOfRefusal_102 : decode cX4_reasonOfRefusal 102 = .ok (.iload_n 3, 1) := by decide +kernel
theorem dX4_reasonOfRefusal_103 : decode cX4_reasonOfRefusal 103 = .ok (.invokevirtual 205, 3) := by decide +kernel
theorem dX4_reasonOfRefusal_106 : decode cX4_reasonOfRefusal 106 = .ok (.ifCond .le 6, 3) := by decide +kernel
theorem dX4_reasonOfRefusal_109 : decode cX4_reasonOfRefusal 109 = .ok (.bipush 6, 2) := by decide +kernel
theorem dX4_reasonOfRefusal_111 : decode cX4_reasonOfRefusal 111 = .ok (.ireturn, 1) := by decide +kernel
theorem dX4_reasonOfRefusal_112 : decode cX4_reasonOfRefusal 112 = .ok (.aload_n 0, 1) := by decide +kernel
theorem dX4_reasonOfRefusal_113 : decode cX4_reasonOfRefusal 113 = .ok (.getfield 28, 3) := by decide +kernel
theorem dX4_reasonOfRefusal_116 : decode cX4_reasonOfRefusal 116 = .ok (.iload_n 2, 1) := by decide +kernel
theorem dX4_reasonOfRefusal_117 : decode cX4_reasonOfRefusal 117 = .ok (.invokevirtual 208, 3) := by decide +kernel
theorem dX4_reasonOfRefusal_120 : decode cX4_reasonOfRefusal 120 = .ok (.ifCond .le 7, 3) := by decide +kernel
theorem dX4_reasonOfRefusal_123 : decode cX4_reasonOfRefusal 123 = .ok (.iconst 0, 1) := by decide +kernel
theorem dX4_reasonOfRefusal_124 : decode cX4_reasonOfRefusal 124 = .ok (.goto 5, 3) := by decide +kernel
theorem dX4_reasonOfRefusal_127 : decode cX4_reasonOfRefusal 127 = .ok (.bipush 7, 2) := by decide +kernel
theorem dX4_reasonOfRefusal_129 : decode cX4_reasonOfRefusal 129 = .ok (.ireturn, 1) := by decide +kernel
theorem dX4_showCard_0 : decode cX4_showCard 0 = .ok (.aload_n 0, 1) := by decide +kernel
theorem dX4_showCard_1 : decode cX4_showCard 1 = .ok (.iload_n 1, 1) := by decide +kernel
theorem dX4_showCard_2 : decode cX4_showCard 2 = .ok (.iload_n 2, 1) := by decide +kernel
theorem dX4_showCard_3 : decode cX4_showCard 3 = .ok (.invokevirtual 211, 3) := by decide +kernel
theorem dX4_showCard_6 : decode cX4_showCard 6 = .ok (.istore_n 3, 1) := by decide +kernel
theorem dX4_showCard_7 : decode cX4_showCard 7 = .ok (.iload_n 3, 1) := by decide +kernel
theorem dX4_showCard_8 : decode cX4_showCard 8 = .ok (.iconst 2, 1) := by decide +kernel
theorem dX4_showCard_9 : decode cX4_showCard 9 = .ok (.if_icmp .ne 16, 3) := by decide +kernel
theorem dX4_showCard_12 : decode cX4_showCard 12 = .ok (.aload_n 0, 1) := by decide +kernel
theorem dX4_showCard_13 : decode cX4_showCard 13 = .ok (.getfield 49, 3) := by decide +kernel
theorem dX4_showCard_16 : decode cX4_showCard 16 = .ok (.dup, 1) := by decide +kernel
theorem dX4_showCard_17 : decode cX4_showCard 17 = .ok (.getfield 214, 3) := by decide +kernel
theorem dX4_showCard_20 : decode cX4_showCard 20 = .ok (.iconst 1, 1) := by decide +kernel
theorem dX4_showCard_21 : decode cX4_showCard 21 = .ok (.iadd, 1) := by decide +kernel
theorem dX4_showCard_22 : decode cX4_showCard 22 = .ok (.putfield 214, 3) := by decide +kernel
theorem dX4_showCard_25 : decode cX4_showCard 25 = .ok (.iload_n 3, 1) := by decide +kernel
theorem dX4_showCard_26 : decode cX4_showCard 26 = .ok (.ifCond .ne 42, 3) := by decide +kernel
theorem dX4_showCard_29 : decode cX4_showCard 29 = .ok (.aload_n 0, 1) := by decide +kernel
theorem dX4_showCard_30 : decode cX4_showCard 30 = .ok (.getfield 28, 3) := by decide +kernel
theorem dX4_showCard_33 : decode cX4_showCard 33 = .ok (.iload_n 2, 1) := by decide +kernel
theorem dX4_showCard_34 : decode cX4_showCard 34 = .ok (.invokevirtual 217, 3) := by decide +kernel
theorem dX4_showCard_37 : decode cX4_showCard 37 = .ok (.aload_n 0, 1) := by decide +kernel
theorem dX4_showCard_38 : decode cX4_showCard 38 = .ok (.getfield 35, 3) := by decide +kernel
theorem dX4_showCard_41 : decode cX4_showCard 41 = .ok (.aload_n 0, 1) := by decide +kernel
theorem dX4_showCard_42 : decode cX4_showCard 42 = .ok (.getfield 42, 3) := by decide +kernel
theorem dX4_showCard_45 : decode cX4_showCard 45 = .ok (.getfield 186, 3) := by decide +kernel
theorem dX4_showCard_48 : decode cX4_showCard 48 = .ok (.iload_n 1, 1) := by decide +kernel
theorem dX4_showCard_49 : decode cX4_showCard 49 = .ok (.iaload, 1) := by decide +kernel
theorem dX4_showCard_50 : decode cX4_showCard 50 = .ok (.iload_n 2, 1) := by decide +kernel
theorem dX4_showCard_51 : decode cX4_showCard 51 = .ok (.aload_n 0, 1) := by decide +kernel
theorem dX4_showCard_52 : decode cX4_showCard 52 = .ok (.getfield 12, 3) := by decide +kernel
theorem dX4_showCard_55 : decode cX4_showCard 55 = .ok (.getfield 90, 3) := by decide +kernel
theorem dX4_showCard_58 : decode cX4_showCard 58 = .ok (.aload_n 0, 1) := by decide +kernel
theorem dX4_showCard_59 : decode cX4_showCard 59 = .ok (.getfield 12, 3) := by decide +kernel
theorem dX4_showCard_62 : decode cX4_showCard 62 = .ok (.invokevirtual 86, 3) := by decide +kernel
theorem dX4_showCard_65 : decode cX4_showCard 65 = .ok (.invokevirtual 220, 3) := by decide +kernel
theorem dX4_showCard_68 : decode cX4_showCard 68 = .ok (.iload_n 3, 1) := by decide +kernel
theorem dX4_showCard_69 : decode cX4_showCard 69 = .ok (.ireturn, 1) := by decide +kernel
theorem dX4_canPluck_0 : decode cX4_canPluck 0 = .ok (.aload_n 0, 1) := by decide +kernel
theorem dX4_canPluck_1 : decode cX4_canPluck 1 = .ok (.getfield 42, 3) := by decide +kernel
theorem dX4_canPluck_4 : decode cX4_canPluck 4 = .ok (.getfield 186, 3) := by decide +kernel
theorem dX4_canPluck_7 : decode cX4_canPluck 7 = .ok (.iload_n 1, 1) := by decide +kernel
theorem dX4_canPluck_8 : decode cX4_canPluck 8 = .ok (.iaload, 1) := by decide +kernel
theorem dX4_canPluck_9 : decode cX4_canPluck 9 = .ok (.istore_n 3, 1) := by decide +kernel
theorem dX4_canPluck_10 : decode cX4_canPluck 10 = .ok (.aload_n 0, 1) := by decide +kernel
theorem dX4_canPluck_11 : decode cX4_canPluck 11 = .ok (.getfield 35, 3) := by decide +kernel
theorem dX4_canPluck_14 : decode cX4_canPluck 14 = .ok (.getfield 223, 3) := by decide +kernel
theorem dX4_canPluck_17 : decode cX4_canPluck 17 = .ok (.iload_n 3, 1) := by decide +kernel
theorem dX4_canPluck_18 : decode cX4_canPluck 18 = .ok (.iaload, 1) := by decide +kernel
theorem dX4_canPluck_19 : decode cX4_canPluck 19 = .ok (.istore 4, 2) := by decide +kernel
theorem dX4_canPluck_21 : decode cX4_canPluck 21 = .ok (.aload_n 0, 1) := by decide +kernel
theorem dX4_canPluck_22 : decode cX4_canPluck 22 = .ok (.getfield 42, 3) := by decide +kernel
theorem dX4_canPluck_25 : decode cX4_canPluck 25 = .ok (.getfield 152, 3) := by decide +kernel
theorem dX4_canPluck_28 : decode cX4_canPluck 28 = .ok (.iload_n 1, 1) := by decide +kernel
theorem dX4_canPluck_29 : decode cX4_canPluck 29 = .ok (.baload, 1) := by decide +kernel
theorem dX4_canPluck_30 : decode cX4_canPluck 30 = .ok (.ifCond .ne 34, 3) := by decide +kernel
theorem dX4_canPluck_33 : decode cX4_canPluck 33 = .ok (.aload_n 0, 1) := by decide +kernel
theorem dX4_canPluck_34 : decode cX4_canPluck 34 = .ok (.getfield 35, 3) := by decide +kernel
theorem dX4_canPluck_37 : decode cX4_canPluck 37 = .ok (.getfield 183, 3) := by decide +kernel
theorem dX4_canPluck_40 : decode cX4_canPluck 40 = .ok (.iload_n 3, 1) := by decide +kernel
theorem dX4_canPluck_41 : decode cX4_canPluck 41 = .ok (.iaload, 1) := by decide +kernel
theorem dX4_canPluck_42 : decode cX4_canPluck 42 = .ok (.aload_n 0, 1) := by decide +kernel
theorem dX4_canPluck_43 : decode cX4_canPluck 43 = .ok (.getfield 12, 3) := by decide +kernel
theorem dX4_canPluck_46 : decode cX4_canPluck 46 = .ok (.getfield 90, 3) := by decide +kernel
theorem dX4_canPluck_49 : decode cX4_canPluck 49 = .ok (.if_icmp .ne 15, 3) := by decide +kernel
theorem dX4_canPluck_52 : decode cX4_canPluck 52 = .ok (.aload_n 0, 1) := by decide +kernel
theorem dX4_canPluck_53 : decode cX4_canPluck 53 = .ok (.getfield 28, 3) := by decide +kernel
theorem dX4_canPluck_56 : decode cX4_canPluck 56 = .ok (.iload 4, 2) := by decide +kernel
theorem dX4_canPluck_58 : decode cX4_canPluck 58 = .ok (.invokevirtual 226, 3) := by decide +kernel
theorem dX4_canPluck_61 : decode cX4_canPluck 61 = .ok (.ifCond .ne 5, 3) := by decide +kernel
theorem dX4_canPluck_64 : decode cX4_canPluck 64 = .ok (.iconst 0, 1) := by decide +kernel
theorem dX4_canPluck_65 : decode cX4_canPluck 65 = .ok (.ireturn, 1) := by decide +kernel
theorem dX4_canPluck_66 : decode cX4_canPluck 66 = .ok (.aload_n 0, 1) := by decide +kernel
theorem dX4_canPluck_67 : decode cX4_canPluck 67 = .ok (.getfield 28, 3) := by decide +kernel
theorem dX4_canPluck_70 : decode cX4_canPluck 70 = .ok (.getfield 227, 3) := by decide +kernel
theorem dX4_canPluck_73 : decode cX4_canPluck 73 = .ok (.iload 4, 2) := by decide +kernel
theorem dX4_canPluck_75 : decode cX4_canPluck 75 = .ok (.iaload, 1) := by decide +kernel
theorem dX4_canPluck_76 : decode cX4_canPluck 76 = .ok (.iload_n 2, 1) := by decide +kernel
theorem dX4_canPluck_77 : decode cX4_canPluck 77 = .ok (.if_icmp .lt 7, 3) := by decide +kernel
theorem dX4_canPluck_80 : decode cX4_canPluck 80 = .ok (.iconst 1, 1) := by decide +kernel
theorem dX4_canPluck_81 : decode cX4_canPluck 81 = .ok (.goto 4, 3) := by decide +kernel
theorem dX4_canPluck_84 : decode cX4_canPluck 84 = .ok (.iconst 0, 1) := by decide +kernel
theorem dX4_canPluck_85 : decode cX4_canPluck 85 = .ok (.ireturn, 1) := by decide +kernel
theorem dX4_pluckBlooms_0 : decode cX4_pluckBlooms 0 = .ok (.aload_n 0, 1) := by decide +kernel
theorem dX4_pluckBlooms_1 : decode cX4_pluckBlooms 1 = .ok (.getfield 42, 3) := by decide +kernel
theorem dX4_pluckBlooms_4 : decode cX4_pluckBlooms 4 = .ok (.getfield 186, 3) := by decide +kernel
theorem dX4_pluckBlooms_7 : decode cX4_pluckBlooms 7 = .ok (.iload_n 1, 1) := by decide +kernel
theorem dX4_pluckBlooms_8 : decode cX4_pluckBlooms 8 = .ok (.iaload, 1) := by decide +kernel
theorem dX4_pluckBlooms_9 : decode cX4_pluckBlooms 9 = .ok (.istore_n 3, 1) := by decide +kernel
theorem dX4_pluckBlooms_10 : decode cX4_pluckBlooms 10 = .ok (.aload_n 0, 1) := by decide +kernel
theorem dX4_pluckBlooms_11 : decode cX4_pluckBlooms 11 = .ok (.getfield 35, 3) := by decide +kernel
theorem dX4_pluckBlooms_14 : decode cX4_pluckBlooms 14 = .ok (.getfield 223, 3) := by decide +kernel
theorem dX4_pluckBlooms_17 : decode cX4_pluckBlooms 17 = .ok (.iload_n 3, 1) := by decide +kernel
theorem dX4_pluckBlooms_18 : decode cX4_pluckBlooms 18 = .ok (.iaload, 1) := by decide +kernel
theorem dX4_pluckBlooms_19 : decode cX4_pluckBlooms 19 = .ok (.istore 4, 2) := by decide +kernel
theorem dX4_pluckBlooms_21 : decode cX4_pluckBlooms 21 = .ok (.aload_n 0, 1) := by decide +kernel
theorem dX4_pluckBlooms_22 : decode cX4_pluckBlooms 22 = .ok (.iload 4, 2) := by decide +kernel
theorem dX4_pluckBlooms_24 : decode cX4_pluckBlooms 24 = .ok (.iload_n 2, 1) := by decide +kernel
theorem dX4_pluckBlooms_25 : decode cX4_pluckBlooms 25 = .ok (.invokevirtual 230, 3) := by decide +kernel
theorem dX4_pluckBlooms_28 : decode cX4_pluckBlooms 28 = .ok (.istore 5, 2) := by decide +kernel
theorem dX4_pluckBlooms_30 : decode cX4_pluckBlooms 30 = .ok (.aload_n 0, 1) := by decide +kernel
theorem dX4_pluckBlooms_31 : decode cX4_pluckBlooms 31 = .ok (.getfield 28, 3) := by decide +kernel
theorem dX4_pluckBlooms_34 : decode cX4_pluckBlooms 34 = .ok (.getfield 227, 3) := by decide +kernel
theorem dX4_pluckBlooms_37 : decode cX4_pluckBlooms 37 = .ok (.iload 4, 2) := by decide +kernel
theorem dX4_pluckBlooms_39 : decode cX4_pluckBlooms 39 = .ok (.dup2, 1) := by decide +kernel
theorem dX4_pluckBlooms_40 : decode cX4_pluckBlooms 40 = .ok (.iaload, 1) := by decide +kernel
theorem dX4_pluckBlooms_41 : decode cX4_pluckBlooms 41 = .ok (.iload_n 2, 1) := by decide +kernel
theorem dX4_pluckBlooms_42 : decode cX4_pluckBlooms 42 = .ok (.isub, 1) := by decide +kernel
theorem dX4_pluckBlooms_43 : decode cX4_pluckBlooms 43 = .ok (.iastore, 1) := by decide +kernel
theorem dX4_pluckBlooms_44 : decode cX4_pluckBlooms 44 = .ok (.aload_n 0, 1) := by decide +kernel
theorem dX4_pluckBlooms_45 : decode cX4_pluckBlooms 45 = .ok (.getfield 35, 3) := by decide +kernel
theorem dX4_pluckBlooms_48 : decode cX4_pluckBlooms 48 = .ok (.getfield 164, 3) := by decide +kernel
theorem dX4_pluckBlooms_51 : decode cX4_pluckBlooms 51 = .ok (.iload_n 3, 1) := by decide +kernel
theorem dX4_pluckBlooms_52 : decode cX4_pluckBlooms 52 = .ok (.dup2, 1) := by decide +kernel
theorem dX4_pluckBlooms_53 : decode cX4_pluckBlooms 53 = .ok (.iaload, 1) := by decide +kernel
theorem dX4_pluckBlooms_54 : decode cX4_pluckBlooms 54 = .ok (.iload 5, 2) := by decide +kernel
theorem dX4_pluckBlooms_56 : decode cX4_pluckBlooms 56 = .ok (.iadd, 1) := by decide +kernel
theorem dX4_pluckBlooms_57 : decode cX4_pluckBlooms 57 = .ok (.iastore, 1) := by decide +kernel
theorem dX4_pluckBlooms_58 : decode cX4_pluckBlooms 58 = .ok (.aload_n 0, 1) := by decide +kernel
theorem dX4_pluckBlooms_59 : decode cX4_pluckBlooms 59 = .ok (.getfield 49, 3) := by decide +kernel
theorem dX4_pluckBlooms_62 : decode cX4_pluckBlooms 62 = .ok (.dup, 1) := by decide +kernel
theorem dX4_pluckBlooms_63 : decode cX4_pluckBlooms 63 = .ok (.getfield 233, 3) := by decide +kernel
theorem dX4_pluckBlooms_66 : decode cX4_pluckBlooms 66 = .ok (.iload 5, 2) := by decide +kernel
theorem dX4_pluckBlooms_68 : decode cX4_pluckBlooms 68 = .ok (.iadd, 1) := by decide +kernel
theorem dX4_pluckBlooms_69 : decode cX4_pluckBlooms 69 = .ok (.putfield 233, 3) := by decide +kernel
theorem dX4_pluckBlooms_72 : decode cX4_pluckBlooms 72 = .ok (.aload_n 0, 1) := by decide +kernel
theorem dX4_pluckBlooms_73 : decode cX4_pluckBlooms 73 = .ok (.getfield 49, 3) := by decide +kernel
theorem dX4_pluckBlooms_76 : decode cX4_pluckBlooms 76 = .ok (.dup, 1) := by decide +kernel
theorem dX4_pluckBlooms_77 : decode cX4_pluckBlooms 77 = .ok (.getfield 236, 3) := by decide +kernel
theorem dX4_pluckBlooms_80 : decode cX4_pluckBlooms 80 = .ok (.iload_n 2, 1) := by decide +kernel
theorem dX4_pluckBlooms_81 : decode cX4_pluckBlooms 81 = .ok (.iadd, 1) := by decide +kernel
theorem dX4_pluckBlooms_82 : decode cX4_pluckBlooms 82 = .ok (.putfield 236, 3) := by decide +kernel
theorem dX4_pluckBlooms_85 : decode cX4_pluckBlooms 85 = .ok (.iload 5, 2) := by decide +kernel
theorem dX4_pluckBlooms_87 : decode cX4_pluckBlooms 87 = .ok (.ireturn, 1) := by decide +kernel
theorem dX4_fineToday_0 : decode cX4_fineToday 0 = .ok (.aload_n 0, 1) := by decide +kernel
theorem dX4_fineToday_1 : decode cX4_fineToday 1 = .ok (.getfield 28, 3) := by decide +kernel
theorem dX4_fineToday_4 : decode cX4_fineToday 4 = .ok (.iload_n 1, 1) := by decide +kernel
theorem dX4_fineToday_5 : decode cX4_fineToday 5 = .ok (.aload_n 0, 1) := by decide +kernel
theorem dX4_fineToday_6 : decode cX4_fineToday 6 = .ok (.getfield 12, 3) := by decide +kernel
theorem dX4_fineToday_9 : decode cX4_fineToday 9 = .ok (.invokevirtual 86, 3) := by decide +kernel
theorem dX4_fineToday_12 : decode cX4_fineToday 12 = .ok (.invokevirtual 239, 3) := by decide +kernel
theorem dX4_fineToday_15 : decode cX4_fineToday 15 = .ok (.ifCond .eq 15, 3) := by decide +kernel
theorem dX4_fineToday_18 : decode cX4_fineToday 18 = .ok (.iconst 2, 1) := by decide +kernel
theorem dX4_fineToday_19 : decode cX4_fineToday 19 = .ok (.aload_n 0, 1) := by decide +kernel
theorem dX4_fineToday_20 : decode cX4_fineToday 20 = .ok (.getfield 21, 3) := by decide +kernel
theorem dX4_fineToday_23 : decode cX4_fineToday 23 = .ok (.getfield 242, 3) := by decide +kernel
theorem dX4_fineToday_26 : decode cX4_fineToday 26 = .ok (.imul, 1) := by decide +kernel
theorem dX4_fineToday_27 : decode cX4_fineToday 27 = .ok (.goto 10, 3) := by decide +kernel
theorem dX4_fineToday_30 : decode cX4_fineToday 30 = .ok (.aload_n 0, 1) := by decide +kernel
theorem dX4_fineToday_31 : decode cX4_fineToday 31 = .ok (.getfield 21, 3) := by decide +kernel
theorem dX4_fineToday_34 : decode cX4_fineToday 34 = .ok (.getfield 242, 3) := by decide +kernel
theorem dX4_fineToday_37 : decode cX4_fineToday 37 = .ok (.istore_n 3, 1) := by decide +kernel
theorem dX4_fineToday_38 : decode cX4_fineToday 38 = .ok (.iload_n 3, 1) := by decide +kernel
theorem dX4_fineToday_39 : decode cX4_fineToday 39 = .ok (.iload_n 2, 1) := by decide +kernel
theorem dX4_fineToday_40 : decode cX4_fineToday 40 = .ok (.imul, 1) := by decide +kernel
theorem dX4_fineToday_41 : decode cX4_fineToday 41 = .ok (.ireturn, 1) := by decide +kernel
theorem dX4_countWrongPasses_0 : decode cX4_countWrongPasses 0 = .ok (.iconst 0, 1) := by decide +kernel
theorem dX4_countWrongPasses_1 : decode cX4_countWrongPasses 1 = .ok (.istore_n 1, 1) := by decide +kernel
theorem dX4_countWrongPasses_2 : decode cX4_countWrongPasses 2 = .ok (.iconst 0, 1) := by decide +kernel
theorem dX4_countWrongPasses_3 : decode cX4_countWrongPasses 3 = .ok (.istore_n 2, 1) := by decide +kernel
theorem dX4_countWrongPasses_4 : decode cX4_countWrongPasses 4 = .ok (.iload_n 2, 1) := by decide +kernel
theorem dX4_countWrongPasses_5 : decode cX4_countWrongPasses 5 = .ok (.aload_n 0, 1) := by decide +kernel
theorem dX4_countWrongPasses_6 : decode cX4_countWrongPasses 6 = .ok (.getfield 35, 3) := by decide +kernel
theorem dX4_countWrongPasses_9 : decode cX4_countWrongPasses 9 = .ok (.getfield 61, 3) := by decide +kernel
theorem dX4_countWrongPasses_12 : decode cX4_countWrongPasses 12 = .ok (.if_icmp .ge 92, 3) := by decide +kernel
theorem dX4_countWrongPasses_15 : decode cX4_countWrongPasses 15 = .ok (.aload_n 0, 1) := by decide +kernel
theorem dX4_countWrongPasses_16 : decode cX4_countWrongPasses 16 = .ok (.getfield 35, 3) := by decide +kernel
theorem dX4_countWrongPasses_19 : decode cX4_countWrongPasses 19 = .ok (.iload_n 2, 1) := by decide +kernel
theorem dX4_countWrongPasses_20 : decode cX4_countWrongPasses 20 = .ok (.invokevirtual 245, 3) := by decide +kernel
theorem dX4_countWrongPasses_23 : decode cX4_countWrongPasses 23 = .ok (.aload_n 0, 1) := by decide +kernel
theorem dX4_countWrongPasses_24 : decode cX4_countWrongPasses 24 = .ok (.getfield 35, 3) := by decide +kernel
theorem dX4_countWrongPasses_27 : decode cX4_countWrongPasses 27 = .ok (.getfield 133, 3) := by decide +kernel
theorem dX4_countWrongPasses_30 : decode cX4_countWrongPasses 30 = .ok (.iload_n 2, 1) := by decide +kernel
theorem dX4_countWrongPasses_31 : decode cX4_countWrongPasses 31 = .ok (.iaload, 1) := by decide +kernel
theorem dX4_countWrongPasses_32 : decode cX4_countWrongPasses 32 = .ok (.if_icmp .le 6, 3) := by decide +kernel
theorem dX4_countWrongPasses_35 : decode cX4_countWrongPasses 35 = .ok (.iinc 1 1, 3) := by decide +kernel
theorem dX4_countWrongPasses_38 : decode cX4_countWrongPasses 38 = .ok (.aload_n 0, 1) := by decide +kernel
theorem dX4_countWrongPasses_39 : decode cX4_countWrongPasses 39 = .ok (.getfield 35, 3) := by decide +kernel
theorem dX4_countWrongPasses_42 : decode cX4_countWrongPasses 42 = .ok (.iload_n 2, 1) := by decide +kernel
theorem dX4_countWrongPasses_43 : decode cX4_countWrongPasses 43 = .ok (.invokevirtual 155, 3) := by decide +kernel
theorem dX4_countWrongPasses_46 : decode cX4_countWrongPasses 46 = .ok (.ifCond .eq 26, 3) := by decide +kernel
theorem dX4_countWrongPasses_49 : decode cX4_countWrongPasses 49 = .ok (.aload_n 0, 1) := by decide +kernel
theorem dX4_countWrongPasses_50 : decode cX4_countWrongPasses 50 = .ok (.getfield 42, 3) := by decide +kernel
theorem dX4_countWrongPasses_53 : decode cX4_countWrongPasses 53 = .ok (.aload_n 0, 1) := by decide +kernel
theorem dX4_countWrongPasses_54 : decode cX4_countWrongPasses 54 = .ok (.getfield 35, 3) := by decide +kernel
theorem dX4_countWrongPasses_57 : decode cX4_countWrongPasses 57 = .ok (.getfield 113, 3) := by decide +kernel
theorem dX4_countWrongPasses_60 : decode cX4_countWrongPasses 60 = .ok (.iload_n 2, 1) := by decide +kernel
theorem dX4_countWrongPasses_61 : decode cX4_countWrongPasses 61 = .ok (.iaload, 1) := by decide +kernel
theorem dX4_countWrongPasses_62 : decode cX4_countWrongPasses 62 = .ok (.iload_n 2, 1) := by decide +kernel
theorem dX4_countWrongPasses_63 : decode cX4_countWrongPasses 63 = .ok (.invokevirtual 248, 3) := by decide +kernel
theorem dX4_countWrongPasses_66 : decode cX4_countWrongPasses 66 = .ok (.ifCond .ne 6, 3) := by decide +kernel
theorem dX4_countWrongPasses_69 : decode cX4_countWrongPasses 69 = .ok (.iinc 1 1, 3) := by decide +kernel
theorem dX4_countWrongPasses_72 : decode cX4_countWrongPasses 72 = .ok (.aload_n 0, 1) := by decide +kernel
theorem dX4_countWrongPasses_73 : decode cX4_countWrongPasses 73 = .ok (.getfield 35, 3) := by decide +kernel
theorem dX4_countWrongPasses_76 : decode cX4_countWrongPasses 76 = .ok (.iload_n 2, 1) := by decide +kernel
theorem dX4_countWrongPasses_77 : decode cX4_countWrongPasses 77 = .ok (.invokevirtual 155, 3) := by decide +kernel
theorem dX4_countWrongPasses_80 : decode cX4_countWrongPasses 80 = .ok (.ifCond .eq 18, 3) := by decide +kernel
theorem dX4_countWrongPasses_83 : decode cX4_countWrongPasses 83 = .ok (.aload_n 0, 1) := by decide +kernel
theorem dX4_countWrongPasses_84 : decode cX4_countWrongPasses 84 = .ok (.getfield 35, 3) := by decide +kernel
theorem dX4_countWrongPasses_87 : decode cX4_countWrongPasses 87 = .ok (.getfield 123, 3) := by decide +kernel
theorem dX4_countWrongPasses_90 : decode cX4_countWrongPasses 90 = .ok (.iload_n 2, 1) := by decide +kernel
theorem dX4_countWrongPasses_91 : decode cX4_countWrongPasses 91 = .ok (.baload, 1) := by decide +kernel
theorem dX4_countWrongPasses_92 : decode cX4_countWrongPasses 92 = .ok (.ifCond .eq 6, 3) := by decide +kernel
theorem dX4_countWrongPasses_95 : decode cX4_countWrongPasses 95 = .ok (.iinc 1 1, 3) := by decide +kernel
theorem dX4_countWrongPasses_98 : decode cX4_countWrongPasses 98 = .ok (.iinc 2 1, 3) := by decide +kernel
theorem dX4_countWrongPasses_101 : decode cX4_countWrongPasses 101 = .ok (.goto (-97), 3) := by decide +kernel
theorem dX4_countWrongPasses_104 : decode cX4_countWrongPasses 104 = .ok (.iload_n 1, 1) := by decide +kernel
theorem dX4_countWrongPasses_105 : decode cX4_countWrongPasses 105 = .ok (.ireturn, 1) := by decide +kernel
theorem dX4_countWrongSums_0 : decode cX4_countWrongSums 0 = .ok (.aload_n 0, 1) := by decide +kernel
theorem dX4_countWrongSums_1 : decode cX4_countWrongSums 1 = .ok (.getfield 28, 3) := by decide +kernel
theorem dX4_countWrongSums_4 : decode cX4_countWrongSums 4 = .ok (.invokevirtual 251, 3) := by decide +kernel
theorem dX4_countWrongSums_7 : decode cX4_countWrongSums 7 = .ok (.aload_n 0, 1) := by decide +kernel
theorem dX4_countWrongSums_8 : decode cX4_countWrongSums 8 = .ok (.getfield 35, 3) := by decide +kernel
theorem dX4_countWrongSums_11 : decode cX4_countWrongSums 11 = .ok (.invokevirtual 254, 3) := by decide +kernel
theorem dX4_countWrongSums_14 : decode cX4_countWrongSums 14 = .ok (.if_icmp .ne 7, 3) := by decide +kernel
theorem dX4_countWrongSums_17 : decode cX4_countWrongSums 17 = .ok (.iconst 0, 1) := by decide +kernel
theorem dX4_countWrongSums_18 : decode cX4_countWrongSums 18 = .ok (.goto 4, 3) := by decide +kernel
theorem dX4_countWrongSums_21 : decode cX4_countWrongSums 21 = .ok (.iconst 1, 1) := by decide +kernel
theorem dX4_countWrongSums_22 : decode cX4_countWrongSums 22 = .ok (.istore_n 1, 1) := by decide +kernel
theorem dX4_countWrongSums_23 : decode cX4_countWrongSums 23 = .ok (.aload_n 0, 1) := by decide +kernel
theorem dX4_countWrongSums_24 : decode cX4_countWrongSums 24 = .ok (.getfield 49, 3) := by decide +kernel
theorem dX4_countWrongSums_27 : decode cX4_countWrongSums 27 = .ok (.getfield 233, 3) := by decide +kernel
theorem dX4_countWrongSums_30 : decode cX4_countWrongSums 30 = .ok (.aload_n 0, 1) := by decide +kernel
theorem dX4_countWrongSums_31 : decode cX4_countWrongSums 31 = .ok (.getfield 49, 3) := by decide +kernel
theorem dX4_countWrongSums_34 : decode cX4_countWrongSums 34 = .ok (.getfield 180, 3) := by decide +kernel
theorem dX4_countWrongSums_37 : decode cX4_countWrongSums 37 = .ok (.aload_n 0, 1) := by decide +kernel
theorem dX4_countWrongSums_38 : decode cX4_countWrongSums 38 = .ok (.getfield 35, 3) := by decide +kernel
theorem dX4_countWrongSums_41 : decode cX4_countWrongSums 41 = .ok (.invokevirtual 255, 3) := by decide +kernel
theorem dX4_countWrongSums_44 : decode cX4_countWrongSums 44 = .ok (.iadd, 1) := by decide +kernel
theorem dX4_countWrongSums_45 : decode cX4_countWrongSums 45 = .ok (.if_icmp .ne 7, 3) := by decide +kernel
theorem dX4_countWrongSums_48 : decode cX4_countWrongSums 48 = .ok (.iload_n 1, 1) := by decide +kernel
theorem dX4_countWrongSums_49 : decode cX4_countWrongSums 49 = .ok (.goto 6, 3) := by decide +kernel
theorem dX4_countWrongSums_52 : decode cX4_countWrongSums 52 = .ok (.iload_n 1, 1) := by decide +kernel
theorem dX4_countWrongSums_53 : decode cX4_countWrongSums 53 = .ok (.iconst 1, 1) := by decide +kernel
theorem dX4_countWrongSums_54 : decode cX4_countWrongSums 54 = .ok (.iadd, 1) := by decide +kernel
theorem dX4_countWrongSums_55 : decode cX4_countWrongSums 55 = .ok (.ireturn, 1) := by decide +kernel
theorem dX5_init_0 : decode cX5_init 0 = .ok (.aload_n 0, 1) := by decide +kernel
theorem dX5_init_1 : decode cX5_init 1 = .ok (.invokespecial 3, 3) := by decide +kernel
theorem dX5_init_4 : decode cX5_init 4 = .ok (.aload_n 0, 1) := by decide +kernel
theorem dX5_init_5 : decode cX5_init 5 = .ok (.bipush 8, 2) := by decide +kernel
theorem dX5_init_7 : decode cX5_init 7 = .ok (.anewarray 9, 3) := by decide +kernel
theorem dX5_init_10 : decode cX5_init 10 = .ok (.putfield 11, 3) := by decide +kernel
theorem dX5_init_13 : decode cX5_init 13 = .ok (.iconst 0, 1) := by decide +kernel
theorem dX5_init_14 : decode cX5_init 14 = .ok (.istore_n 1, 1) := by decide +kernel
theorem dX5_init_15 : decode cX5_init 15 = .ok (.iload_n 1, 1) := by decide +kernel
theorem dX5_init_16 : decode cX5_init 16 = .ok (.bipush 8, 2) := by decide +kernel
theorem dX5_init_18 : decode cX5_init 18 = .ok (.if_icmp .ge 22, 3) := by decide +kernel
theorem dX5_init_21 : decode cX5_init 21 = .ok (.aload_n 0, 1) := by decide +kernel
theorem dX5_init_22 : decode cX5_init 22 = .ok (.getfield 11, 3) := by decide +kernel
theorem dX5_init_25 : decode cX5_init 25 = .ok (.iload_n 1, 1) := by decide +kernel
theorem dX5_init_26 : decode cX5_init 26 = .ok (.new 9, 3) := by decide +kernel
theorem dX5_init_29 : decode cX5_init 29 = .ok (.dup, 1) := by decide +kernel
theorem dX5_init_30 : decode cX5_init 30 = .ok (.invokespecial 17, 3) := by decide +kernel
theorem dX5_init_33 : decode cX5_init 33 = .ok (.aastore, 1) := by decide +kernel
theorem dX5_init_34 : decode cX5_init 34 = .ok (.iinc 1 1, 3) := by decide +kernel
theorem dX5_init_37 : decode cX5_init 37 = .ok (.goto (-22), 3) := by decide +kernel
theorem dX5_init_40 : decode cX5_init 40 = .ok (.return_, 1) := by decide +kernel
theorem dX5_remember_0 : decode cX5_remember 0 = .ok (.aload_n 0, 1) := by decide +kernel
theorem dX5_remember_1 : decode cX5_remember 1 = .ok (.getfield 11, 3) := by decide +kernel
theorem dX5_remember_4 : decode cX5_remember 4 = .ok (.aload_n 0, 1) := by decide +kernel
theorem dX5_remember_5 : decode cX5_remember 5 = .ok (.getfield 18, 3) := by decide +kernel
theorem dX5_remember_8 : decode cX5_remember 8 = .ok (.aaload, 1) := by decide +kernel
theorem dX5_remember_9 : decode cX5_remember 9 = .ok (.aload_n 1, 1) := by decide +kernel
theorem dX5_remember_10 : decode cX5_remember 10 = .ok (.invokevirtual 22, 3) := by decide +kernel
theorem dX5_remember_13 : decode cX5_remember 13 = .ok (.aload_n 0, 1) := by decide +kernel
theorem dX5_remember_14 : decode cX5_remember 14 = .ok (.aload_n 0, 1) := by decide +kernel
theorem dX5_remember_15 : decode cX5_remember 15 = .ok (.getfield 18, 3) := by decide +kernel
theorem dX5_remember_18 : decode cX5_remember 18 = .ok (.iconst 1, 1) := by decide +kernel
theorem dX5_remember_19 : decode cX5_remember 19 = .ok (.iadd, 1) := by decide +kernel
theorem dX5_remember_20 : decode cX5_remember 20 = .ok (.bipush 8, 2) := by decide +kernel
theorem dX5_remember_22 : decode cX5_remember 22 = .ok (.irem, 1) := by decide +kernel
theorem dX5_remember_23 : decode cX5_remember 23 = .ok (.putfield 18, 3) := by decide +kernel
theorem dX5_remember_26 : decode cX5_remember 26 = .ok (.aload_n 0, 1) := by decide +kernel
theorem dX5_remember_27 : decode cX5_remember 27 = .ok (.bipush 8, 2) := by decide +kernel
theorem dX5_remember_29 : decode cX5_remember 29 = .ok (.aload_n 0, 1) := by decide +kernel
theorem dX5_remember_30 : decode cX5_remember 30 = .ok (.getfield 26, 3) := by decide +kernel
theorem dX5_remember_33 : decode cX5_remember 33 = .ok (.iconst 1, 1) := by decide +kernel
theorem dX5_remember_34 : decode cX5_remember 34 = .ok (.iadd, 1) := by decide +kernel
theorem dX5_remember_35 : decode cX5_remember 35 = .ok (.invokestatic 29, 3) := by decide +kernel
theorem dX5_remember_38 : decode cX5_remember 38 = .ok (.putfield 26, 3) := by decide +kernel
theorem dX5_remember_41 : decode cX5_remember 41 = .ok (.return_, 1) := by decide +kernel
theorem dX5_takeBack_0 : decode cX5_takeBack 0 = .ok (.aload_n 0, 1) := by decide +kernel
theorem dX5_takeBack_1 : decode cX5_takeBack 1 = .ok (.aload_n 0, 1) := by decide +kernel
theorem dX5_takeBack_2 : decode cX5_takeBack 2 = .ok (.getfield 18, 3) := by decide +kernel
theorem dX5_takeBack_5 : decode cX5_takeBack 5 = .ok (.bipush 8, 2) := by decide +kernel
theorem dX5_takeBack_7 : decode cX5_takeBack 7 = .ok (.iadd, 1) := by decide +kernel
theorem dX5_takeBack_8 : decode cX5_takeBack 8 = .ok (.iconst 1, 1) := by decide +kernel
theorem dX5_takeBack_9 : decode cX5_takeBack 9 = .ok (.isub, 1) := by decide +kernel
theorem dX5_takeBack_10 : decode cX5_takeBack 10 = .ok (.bipush 8, 2) := by decide +kernel
theorem dX5_takeBack_12 : decode cX5_takeBack 12 = .ok (.irem, 1) := by decide +kernel
theorem dX5_takeBack_13 : decode cX5_takeBack 13 = .ok (.putfield 18, 3) := by decide +kernel
theorem dX5_takeBack_16 : decode cX5_takeBack 16 = .ok (.aload_n 1, 1) := by decide +kernel
theorem dX5_takeBack_17 : decode cX5_takeBack 17 = .ok (.aload_n 0, 1) := by decide +kernel
theorem dX5_takeBack_18 : decode cX5_takeBack 18 = .ok (.getfield 11, 3) := by decide +kernel
theorem dX5_takeBack_21 : decode cX5_takeBack 21 = .ok (.aload_n 0, 1) := by decide +kernel
theorem dX5_takeBack_22 : decode cX5_takeBack 22 = .ok (.getfield 18, 3) := by decide +kernel
theorem dX5_takeBack_25 : decode cX5_takeBack 25 = .ok (.aaload, 1) := by decide +kernel
theorem dX5_takeBack_26 : decode cX5_takeBack 26 = .ok (.invokevirtual 22, 3) := by decide +kernel
theorem dX5_takeBack_29 : decode cX5_takeBack 29 = .ok (.aload_n 0, 1) := by decide +kernel
theorem dX5_takeBack_30 : decode cX5_takeBack 30 = .ok (.dup, 1) := by decide +kernel
theorem dX5_takeBack_31 : decode cX5_takeBack 31 = .ok (.getfield 26, 3) := by decide +kernel
theorem dX5_takeBack_34 : decode cX5_takeBack 34 = .ok (.iconst 1, 1) := by decide +kernel
theorem dX5_takeBack_35 : decode cX5_takeBack 35 = .ok (.isub, 1) := by decide +kernel
theorem dX5_takeBack_36 : decode cX5_takeBack 36 = .ok (.putfield 26, 3) := by decide +kernel
theorem dX5_takeBack_39 : decode cX5_takeBack 39 = .ok (.return_, 1) := by decide +kernel
theorem dX6_init_0 : decode cX6_init 0 = .ok (.aload_n 0, 1) := by decide +kernel
theorem dX6_init_1 : decode cX6_init 1 = .ok (.invokespecial 3, 3) := by decide +kernel
theorem dX6_init_4 : decode cX6_init 4 = .ok (.aload_n 0, 1) := by decide +kernel
theorem dX6_init_5 : decode cX6_init 5 = .ok (.sipush 500, 3) := by decide +kernel
theorem dX6_init_8 : decode cX6_init 8 = .ok (.newarray .byte, 2) := by decide +kernel
theorem dX6_init_10 : decode cX6_init 10 = .ok (.putfield 9, 3) := by decide +kernel
theorem dX6_init_13 : decode cX6_init 13 = .ok (.return_, 1) := by decide +kernel
theorem dX6_fill_0 : decode cX6_fill 0 = .ok (.aload_n 0, 1) := by decide +kernel
theorem dX6_fill_1 : decode cX6_fill 1 = .ok (.sipush 500, 3) := by decide +kernel
theorem dX6_fill_4 : decode cX6_fill 4 = .ok (.aload_n 1, 1) := by decide +kernel
theorem dX6_fill_5 : decode cX6_fill 5 = .ok (.invokevirtual 15, 3) := by decide +kernel
theorem dX6_fill_8 : decode cX6_fill 8 = .ok (.invokestatic 21, 3) := by decide +kernel
theorem dX6_fill_11 : decode cX6_fill 11 = .ok (.putfield 27, 3) := by decide +kernel
theorem dX6_fill_14 : decode cX6_fill 14 = .ok (.iconst 0, 1) := by decide +kernel
theorem dX6_fill_15 : decode cX6_fill 15 = .ok (.istore_n 2, 1) := by decide +kernel
theorem dX6_fill_16 : decode cX6_fill 16 = .ok (.iload_n 2, 1) := by decide +kernel
theorem dX6_fill_17 : decode cX6_fill 17 = .ok (.aload_n 0, 1) := by decide +kernel
theorem dX6_fill_18 : decode cX6_fill 18 = .ok (.getfield 27, 3) := by decide +kernel
theorem dX6_fill_21 : decode cX6_fill 21 = .ok (.if_icmp .ge 21, 3) := by decide +kernel
theorem dX6_fill_24 : decode cX6_fill 24 = .ok (.aload_n 0, 1) := by decide +kernel
theorem dX6_fill_25 : decode cX6_fill 25 = .ok (.getfield 9, 3) := by decide +kernel
theorem dX6_fill_28 : decode cX6_fill 28 = .ok (.iload_n 2, 1) := by decide +kernel
theorem dX6_fill_29 : decode cX6_fill 29 = .ok (.aload_n 1, 1) := by decide +kernel
theorem dX6_fill_30 : decode cX6_fill 30 = .ok (.iload_n 2, 1) := by decide +kernel
theorem dX6_fill_31 : decode cX6_fill 31 = .ok (.invokevirtual 30, 3) := by decide +kernel
theorem dX6_fill_34 : decode cX6_fill 34 = .ok (.i2b, 1) := by decide +kernel
theorem dX6_fill_35 : decode cX6_fill 35 = .ok (.bastore, 1) := by decide +kernel
theorem dX6_fill_36 : decode cX6_fill 36 = .ok (.iinc 2 1, 3) := by decide +kernel
theorem dX6_fill_39 : decode cX6_fill 39 = .ok (.goto (-23), 3) := by decide +kernel
theorem dX6_fill_42 : decode cX6_fill 42 = .ok (.return_, 1) := by decide +kernel
theorem dX6_addWord_0 : decode cX6_addWord 0 = .ok (.bipush 24, 2) := by decide +kernel
theorem dX6_addWord_2 : decode cX6_addWord 2 = .ok (.istore_n 2, 1) := by decide +kernel
theorem dX6_addWord_3 : decode cX6_addWord 3 = .ok (.iload_n 2, 1) := by decide +kernel
theorem dX6_addWord_4 : decode cX6_addWord 4 = .ok (.ifCond .lt 42, 3) := by decide +kernel
theorem dX6_addWord_7 : decode cX6_addWord 7 = .ok (.aload_n 0, 1) := by decide +kernel
theorem dX6_addWord_8 : decode cX6_addWord 8 = .ok (.getfield 27, 3) := by decide +kernel
theorem dX6_addWord_11 : decode cX6_addWord 11 = .ok (.sipush 500, 3) := by decide +kernel
theorem dX6_addWord_14 : decode cX6_addWord 14 = .ok (.if_icmp .ge 32, 3) := by decide +kernel
theorem dX6_addWord_17 : decode cX6_addWord 17 = .ok (.aload_n 0, 1) := by decide +kernel
theorem dX6_addWord_18 : decode cX6_addWord 18 = .ok (.getfield 9, 3) := by decide +kernel
theorem dX6_addWord_21 : decode cX6_addWord 21 = .ok (.aload_n 0, 1) := by decide +kernel
theorem dX6_addWord_22 : decode cX6_addWord 22 = .ok (.getfield 27, 3) := by decide +kernel
theorem dX6_addWord_25 : decode cX6_addWord 25 = .ok (.iload_n 1, 1) := by decide +kernel
theorem dX6_addWord_26 : decode cX6_addWord 26 = .ok (.iload_n 2, 1) := by decide +kernel
theorem dX6_addWord_27 : decode cX6_addWord 27 = .ok (.iushr, 1) := by decide +kernel
theorem dX6_addWord_28 : decode cX6_addWord 28 = .ok (.i2b, 1) := by decide +kernel
theorem dX6_addWord_29 : decode cX6_addWord 29 = .ok (.bastore, 1) := by decide +kernel
theorem dX6_addWord_30 : decode cX6_addWord 30 = .ok (.aload_n 0, 1) := by decide +kernel
theorem dX6_addWord_31 : decode cX6_addWord 31 = .ok (.dup, 1) := by decide +kernel
theorem dX6_addWord_32 : decode cX6_addWord 32 = .ok (.getfield 27, 3) := by decide +kernel
theorem dX6_addWord_35 : decode cX6_addWord 35 = .ok (.iconst 1, 1) := by decide +kernel
theorem dX6_addWord_36 : decode cX6_addWord 36 = .ok (.iadd, 1) := by decide +kernel
theorem dX6_addWord_37 : decode cX6_addWord 37 = .ok (.putfield 27, 3) := by decide +kernel
theorem dX6_addWord_40 : decode cX6_addWord 40 = .ok (.iinc 2 (-8), 3) := by decide +kernel
theorem dX6_addWord_43 : decode cX6_addWord 43 = .ok (.goto (-40), 3) := by decide +kernel
theorem dX6_addWord_46 : decode cX6_addWord 46 = .ok (.return_, 1) := by decide +kernel
theorem dX6_readFirst_0 : decode cX6_readFirst 0 = .ok (.aload_n 0, 1) := by decide +kernel
theorem dX6_readFirst_1 : decode cX6_readFirst 1 = .ok (.iconst 0, 1) := by decide +kernel
theorem dX6_readFirst_2 : decode cX6_readFirst 2 = .ok (.putfield 34, 3) := by decide +kernel
theorem dX6_readFirst_5 : decode cX6_readFirst 5 = .ok (.aload_n 0, 1) := by decide +kernel
theorem dX6_readFirst_6 : decode cX6_readFirst 6 = .ok (.invokevirtual 37, 3) := by decide +kernel
theorem dX6_readFirst_9 : decode cX6_readFirst 9 = .ok (.return_, 1) := by decide +kernel
theorem dX6_readNext_0 : decode cX6_readNext 0 = .ok (.aload_n 0, 1) := by decide +kernel
theorem dX6_readNext_1 : decode cX6_readNext 1 = .ok (.aload_n 0, 1) := by decide +kernel
theorem dX6_readNext_2 : decode cX6_readNext 2 = .ok (.getfield 34, 3) := by decide +kernel
theorem dX6_readNext_5 : decode cX6_readNext 5 = .ok (.putfield 40, 3) := by decide +kernel
theorem dX6_readNext_8 : decode cX6_readNext 8 = .ok (.aload_n 0, 1) := by decide +kernel
theorem dX6_readNext_9 : decode cX6_readNext 9 = .ok (.getfield 40, 3) := by decide +kernel
theorem dX6_readNext_12 : decode cX6_readNext 12 = .ok (.aload_n 0, 1) := by decide +kernel
theorem dX6_readNext_13 : decode cX6_readNext 13 = .ok (.getfield 27, 3) := by decide +kernel
theorem dX6_readNext_16 : decode cX6_readNext 16 = .ok (.if_icmp .ge 44, 3) := by decide +kernel
theorem dX6_readNext_19 : decode cX6_readNext 19 = .ok (.aload_n 0, 1) := by decide +kernel
theorem dX6_readNext_20 : decode cX6_readNext 20 = .ok (.getfield 9, 3) := by decide +kernel
theorem dX6_readNext_23 : decode cX6_readNext 23 = .ok (.aload_n 0, 1) := by decide +kernel
theorem dX6_readNext_24 : decode cX6_readNext 24 = .ok (.getfield 40, 3) := by decide +kernel
theorem dX6_readNext_27 : decode cX6_readNext 27 = .ok (.baload, 1) := by decide +kernel
theorem dX6_readNext_28 : decode cX6_readNext 28 = .ok (.bipush 32, 2) := by decide +kernel
theorem dX6_readNext_30 : decode cX6_readNext 30 = .ok (.if_icmp .eq 17, 3) := by decide +kernel
theorem dX6_readNext_33 : decode cX6_readNext 33 = .ok (.aload_n 0, 1) := by decide +kernel
theorem dX6_readNext_34 : decode cX6_readNext 34 = .ok (.getfield 9, 3) := by decide +kernel
theorem dX6_readNext_37 : decode cX6_readNext 37 = .ok (.aload_n 0, 1) := by decide +kernel
theorem dX6_readNext_38 : decode cX6_readNext 38 = .ok (.getfield 40, 3) := by decide +kernel
theorem dX6_readNext_41 : decode cX6_readNext 41 = .ok (.baload, 1) := by decide +kernel
theorem dX6_readNext_42 : decode cX6_readNext 42 = .ok (.bipush 10, 2) := by decide +kernel
theorem dX6_readNext_44 : decode cX6_readNext 44 = .ok (.if_icmp .ne 16, 3) := by decide +kernel
theorem dX6_readNext_47 : decode cX6_readNext 47 = .ok (.aload_n 0, 1) := by decide +kernel
theorem dX6_readNext_48 : decode cX6_readNext 48 = .ok (.dup, 1) := by decide +kernel
theorem dX6_readNext_49 : decode cX6_readNext 49 = .ok (.getfield 40, 3) := by decide +kernel
theorem dX6_readNext_52 : decode cX6_readNext 52 = .ok (.iconst 1, 1) := by decide +kernel
theorem dX6_readNext_53 : decode cX6_readNext 53 = .ok (.iadd, 1) := by decide +kernel
theorem dX6_readNext_54 : decode cX6_readNext 54 = .ok (.putfield 40, 3) := by decide +kernel
theorem dX6_readNext_57 : decode cX6_readNext 57 = .ok (.goto (-49), 3) := by decide +kernel
theorem dX6_readNext_60 : decode cX6_readNext 60 = .ok (.aload_n 0, 1) := by decide +kernel
theorem dX6_readNext_61 : decode cX6_readNext 61 = .ok (.aload_n 0, 1) := by decide +kernel
theorem dX6_readNext_62 : decode cX6_readNext 62 = .ok (.getfield 40, 3) := by decide +kernel
theorem dX6_readNext_65 : decode cX6_readNext 65 = .ok (.putfield 34, 3) := by decide +kernel
theorem dX6_readNext_68 : decode cX6_readNext 68 = .ok (.aload_n 0, 1) := by decide +kernel
theorem dX6_readNext_69 : decode cX6_readNext 69 = .ok (.getfield 40, 3) := by decide +kernel
theorem dX6_readNext_72 : decode cX6_readNext 72 = .ok (.aload_n 0, 1) := by decide +kernel
theorem dX6_readNext_73 : decode cX6_readNext 73 = .ok (.getfield 27, 3) := by decide +kernel
theorem dX6_readNext_76 : decode cX6_readNext 76 = .ok (.if_icmp .ne 9, 3) := by decide +kernel
theorem dX6_readNext_79 : decode cX6_readNext 79 = .ok (.aload_n 0, 1) := by decide +kernel
theorem dX6_readNext_80 : decode cX6_readNext 80 = .ok (.iconst 3, 1) := by decide +kernel
theorem dX6_readNext_81 : decode cX6_readNext 81 = .ok (.putfield 43, 3) := by decide +kernel
theorem dX6_readNext_84 : decode cX6_readNext 84 = .ok (.return_, 1) := by decide +kernel
theorem dX6_readNext_85 : decode cX6_readNext 85 = .ok (.aload_n 0, 1) := by decide +kernel
theorem dX6_readNext_86 : decode cX6_readNext 86 = .ok (.aload_n 0, 1) := by decide +kernel
theorem dX6_readNext_87 : decode cX6_readNext 87 = .ok (.getfield 9, 3) := by decide +kernel
theorem dX6_readNext_90 : decode cX6_readNext 90 = .ok (.aload_n 0, 1) := by decide +kernel
theorem dX6_readNext_91 : decode cX6_readNext 91 = .ok (.getfield 40, 3) := by decide +kernel
theorem dX6_readNext_94 : decode cX6_readNext 94 = .ok (.baload, 1) := by decide +kernel
theorem dX6_readNext_95 : decode cX6_readNext 95 = .ok (.invokestatic 46, 3) := by decide +kernel
theorem dX6_readNext_98 : decode cX6_readNext 98 = .ok (.putfield 43, 3) := by decide +kernel
theorem dX6_readNext_101 : decode cX6_readNext 101 = .ok (.aload_n 0, 1) := by decide +kernel
theorem dX6_readNext_102 : decode cX6_readNext 102 = .ok (.dup, 1) := by decide +kernel
theorem dX6_readNext_103 : decode cX6_readNext 103 = .ok (.getfield 34, 3) := by decide +kernel
theorem dX6_readNext_106 : decode cX6_readNext 106 = .ok (.iconst 1, 1) := by decide +kernel
theorem dX6_readNext_107 : decode cX6_readNext 107 = .ok (.iadd, 1) := by decide +kernel
theorem dX6_readNext_108 : decode cX6_readNext 108 = .ok (.putfield 34, 3) := by decide +kernel
theorem dX6_readNext_111 : decode cX6_readNext 111 = .ok (.aload_n 0, 1) := by decide +kernel
theorem dX6_readNext_112 : decode cX6_readNext 112 = .ok (.getfield 43, 3) := by decide +kernel
theorem dX6_readNext_115 : decode cX6_readNext 115 = .ok (.ifCond .eq 11, 3) := by decide +kernel
theorem dX6_readNext_118 : decode cX6_readNext 118 = .ok (.aload_n 0, 1) := by decide +kernel
theorem dX6_readNext_119 : decode cX6_readNext 119 = .ok (.getfield 43, 3) := by decide +kernel
theorem dX6_readNext_122 : decode cX6_readNext 122 = .ok (.iconst 1, 1) := by decide +kernel
theorem dX6_readNext_123 : decode cX6_readNext 123 = .ok (.if_icmp .ne 46, 3) := by decide +kernel
theorem dX6_readNext_126 : decode cX6_readNext 126 = .ok (.aload_n 0, 1) := by decide +kernel
theorem dX6_readNext_127 : decode cX6_readNext 127 = .ok (.getfield 34, 3) := by decide +kernel
theorem dX6_readNext_130 : decode cX6_readNext 130 = .ok (.aload_n 0, 1) := by decide +kernel
theorem dX6_readNext_131 : decode cX6_readNext 131 = .ok (.getfield 27, 3) := by decide +kernel
theorem dX6_readNext_134 : decode cX6_readNext 134 = .ok (.if_icmp .ge 35, 3) := by decide +kernel
theorem dX6_readNext_137 : decode cX6_readNext 137 = .ok (.aload_n 0, 1) := by decide +kernel
theorem dX6_readNext_138 : decode cX6_readNext 138 = .ok (.getfield 9, 3) := by decide +kernel
theorem dX6_readNext_141 : decode cX6_readNext 141 = .ok (.aload_n 0, 1) := by decide +kernel
theorem dX6_readNext_142 : decode cX6_readNext 142 = .ok (.getfield 34, 3) := by decide +kernel
theorem dX6_readNext_145 : decode cX6_readNext 145 = .ok (.baload, 1) := by decide +kernel
theorem dX6_readNext_146 : decode cX6_readNext 146 = .ok (.invokestatic 46, 3) := by decide +kernel
theorem dX6_readNext_149 : decode cX6_readNext 149 = .ok (.aload_n 0, 1) := by decide +kernel
theorem dX6_readNext_150 : decode cX6_readNext 150 = .ok (.getfield 43, 3) := by decide +kernel
theorem dX6_readNext_153 : decode cX6_readNext 153 = .ok (.if_icmp .ne 16, 3) := by decide +kernel
theorem dX6_readNext_156 : decode cX6_readNext 156 = .ok (.aload_n 0, 1) := by decide +kernel
theorem dX6_readNext_157 : decode cX6_readNext 157 = .ok (.dup, 1) := by decide +kernel
theorem dX6_readNext_158 : decode cX6_readNext 158 = .ok (.getfield 34, 3) := by decide +kernel
theorem dX6_readNext_161 : decode cX6_readNext 161 = .ok (.iconst 1, 1) := by decide +kernel
theorem dX6_readNext_162 : decode cX6_readNext 162 = .ok (.iadd, 1) := by decide +kernel
theorem dX6_readNext_163 : decode cX6_readNext 163 = .ok (.putfield 34, 3) := by decide +kernel
theorem dX6_readNext_166 : decode cX6_readNext 166 = .ok (.goto (-55), 3) := by decide +kernel
theorem dX6_readNext_169 : decode cX6_readNext 169 = .ok (.aload_n 0, 1) := by decide +kernel
theorem dX6_readNext_170 : decode cX6_readNext 170 = .ok (.getfield 43, 3) := by decide +kernel
theorem dX6_readNext_173 : decode cX6_readNext 173 = .ok (.iconst 1, 1) := by decide +kernel
theorem dX6_readNext_174 : decode cX6_readNext 174 = .ok (.if_icmp .ne 21, 3) := by decide +kernel
theorem dX6_readNext_177 : decode cX6_readNext 177 = .ok (.aload_n 0, 1) := by decide +kernel
theorem dX6_readNext_178 : decode cX6_readNext 178 = .ok (.getfield 34, 3) := by decide +kernel
theorem dX6_readNext_181 : decode cX6_readNext 181 = .ok (.aload_n 0, 1) := by decide +kernel
theorem dX6_readNext_182 : decode cX6_readNext 182 = .ok (.getfield 40, 3) := by decide +kernel
theorem dX6_readNext_185 : decode cX6_readNext 185 = .ok (.isub, 1) := by decide +kernel
theorem dX6_readNext_186 : decode cX6_readNext 186 = .ok (.iconst 4, 1) := by decide +kernel
theorem dX6_readNext_187 : decode cX6_readNext 187 = .ok (.if_icmp .le 8, 3) := by decide +kernel
theorem dX6_readNext_190 : decode cX6_readNext 190 = .ok (.aload_n 0, 1) := by decide +kernel
theorem dX6_readNext_191 : decode cX6_readNext 191 = .ok (.iconst 4, 1) := by decide +kernel
theorem dX6_readNext_192 : decode cX6_readNext 192 = .ok (.putfield 43, 3) := by decide +kernel
theorem dX6_readNext_195 : decode cX6_readNext 195 = .ok (.return_, 1) := by decide +kernel
theorem dX6_kindOf_0 : decode cX6_kindOf 0 = .ok (.iload_n 0, 1) := by decide +kernel
theorem dX6_kindOf_1 : decode cX6_kindOf 1 = .ok (.bipush 97, 2) := by decide +kernel
theorem dX6_kindOf_3 : decode cX6_kindOf 3 = .ok (.if_icmp .lt 11, 3) := by decide +kernel
theorem dX6_kindOf_6 : decode cX6_kindOf 6 = .ok (.iload_n 0, 1) := by decide +kernel
theorem dX6_kindOf_7 : decode cX6_kindOf 7 = .ok (.bipush 122, 2) := by decide +kernel
theorem dX6_kindOf_9 : decode cX6_kindOf 9 = .ok (.if_icmp .gt 5, 3) := by decide +kernel
theorem dX6_kindOf_12 : decode cX6_kindOf 12 = .ok (.iconst 0, 1) := by decide +kernel
theorem dX6_kindOf_13 : decode cX6_kindOf 13 = .ok (.ireturn, 1) := by decide +kernel
theorem dX6_kindOf_14 : decode cX6_kindOf 14 = .ok (.iload_n 0, 1) := by decide +kernel
theorem dX6_kindOf_15 : decode cX6_kindOf 15 = .ok (.bipush 48, 2) := by decide +kernel
theorem dX6_kindOf_17 : decode cX6_kindOf 17 = .ok (.if_icmp .lt 11, 3) := by decide +kernel
theorem dX6_kindOf_20 : decode cX6_kindOf 20 = .ok (.iload_n 0, 1) := by decide +kernel
theorem dX6_kindOf_21 : decode cX6_kindOf 21 = .ok (.bipush 57, 2) := by decide +kernel
theorem dX6_kindOf_23 : decode cX6_kindOf 23 = .ok (.if_icmp .gt 5, 3) := by decide +kernel
theorem dX6_kindOf_26 : decode cX6_kindOf 26 = .ok (.iconst 1, 1) := by decide +kernel
theorem dX6_kindOf_27 : decode cX6_kindOf 27 = .ok (.ireturn, 1) := by decide +kernel
theorem dX6_kindOf_28 : decode cX6_kindOf 28 = .ok (.iload_n 0, 1) := by decide +kernel
theorem dX6_kindOf_29 : decode cX6_kindOf 29 = .ok (.bipush 59, 2) := by decide +kernel
theorem dX6_kindOf_31 : decode cX6_kindOf 31 = .ok (.if_icmp .ne 7, 3) := by decide +kernel
theorem dX6_kindOf_34 : decode cX6_kindOf 34 = .ok (.iconst 2, 1) := by decide +kernel
theorem dX6_kindOf_35 : decode cX6_kindOf 35 = .ok (.goto 4, 3) := by decide +kernel
theorem dX6_kindOf_38 : decode cX6_kindOf 38 = .ok (.iconst 4, 1) := by decide +kernel
theorem dX6_kindOf_39 : decode cX6_kindOf 39 = .ok (.ireturn, 1) := by decide +kernel
theorem dX6_isWord_0 : decode cX6_isWord 0 = .ok (.aload_n 0, 1) := by decide +kernel
theorem dX6_isWord_1 : decode cX6_isWord 1 = .ok (.getfield 43, 3) := by decide +kernel
theorem dX6_isWord_4 : decode cX6_isWord 4 = .ok (.ifCond .ne 19, 3) := by decide +kernel
theorem dX6_isWord_7 : decode cX6_isWord 7 = .ok (.aload_n 0, 1) := by decide +kernel
theorem dX6_isWord_8 : decode cX6_isWord 8 = .ok (.getfield 34, 3) := by decide +kernel
theorem dX6_isWord_11 : decode cX6_isWord 11 = .ok (.aload_n 0, 1) := by decide +kernel
theorem dX6_isWord_12 : decode cX6_isWord 12 = .ok (.getfield 40, 3) := by decide +kernel
theorem dX6_isWord_15 : decode cX6_isWord 15 = .ok (.isub, 1) := by decide +kernel
theorem dX6_isWord_16 : decode cX6_isWord 16 = .ok (.aload_n 1, 1) := by decide +kernel
theorem dX6_isWord_17 : decode cX6_isWord 17 = .ok (.invokevirtual 15, 3) := by decide +kernel
theorem dX6_isWord_20 : decode cX6_isWord 20 = .ok (.if_icmp .eq 5, 3) := by decide +kernel
theorem dX6_isWord_23 : decode cX6_isWord 23 = .ok (.iconst 0, 1) := by decide +kernel
theorem dX6_isWord_24 : decode cX6_isWord 24 = .ok (.ireturn, 1) := by decide +kernel
theorem dX6_isWord_25 : decode cX6_isWord 25 = .ok (.iconst 0, 1) := by decide +kernel
theorem dX6_isWord_26 : decode cX6_isWord 26 = .ok (.istore_n 2, 1) := by decide +kernel
theorem dX6_isWord_27 : decode cX6_isWord 27 = .ok (.iload_n 2, 1) := by decide +kernel
theorem dX6_isWord_28 : decode cX6_isWord 28 = .ok (.aload_n 1, 1) := by decide +kernel
theorem dX6_isWord_29 : decode cX6_isWord 29 = .ok (.invokevirtual 15, 3) := by decide +kernel
theorem dX6_isWord_32 : decode cX6_isWord 32 = .ok (.if_icmp .ge 30, 3) := by decide +kernel
theorem dX6_isWord_35 : decode cX6_isWord 35 = .ok (.aload_n 0, 1) := by decide +kernel
theorem dX6_isWord_36 : decode cX6_isWord 36 = .ok (.getfield 9, 3) := by decide +kernel
theorem dX6_isWord_39 : decode cX6_isWord 39 = .ok (.aload_n 0, 1) := by decide +kernel
theorem dX6_isWord_40 : decode cX6_isWord 40 = .ok (.getfield 40, 3) := by decide +kernel
theorem dX6_isWord_43 : decode cX6_isWord 43 = .ok (.iload_n 2, 1) := by decide +kernel
theorem dX6_isWord_44 : decode cX6_isWord 44 = .ok (.iadd, 1) := by decide +kernel
theorem dX6_isWord_45 : decode cX6_isWord 45 = .ok (.baload, 1) := by decide +kernel
theorem dX6_isWord_46 : decode cX6_isWord 46 = .ok (.aload_n 1, 1) := by decide +kernel
theorem dX6_isWord_47 : decode cX6_isWord 47 = .ok (.iload_n 2, 1) := by decide +kernel
theorem dX6_isWord_48 : decode cX6_isWord 48 = .ok (.invokevirtual 30, 3) := by decide +kernel
theorem dX6_isWord_51 : decode cX6_isWord 51 = .ok (.if_icmp .eq 5, 3) := by decide +kernel
theorem dX6_isWord_54 : decode cX6_isWord 54 = .ok (.iconst 0, 1) := by decide +kernel
theorem dX6_isWord_55 : decode cX6_isWord 55 = .ok (.ireturn, 1) := by decide +kernel
theorem dX6_isWord_56 : decode cX6_isWord 56 = .ok (.iinc 2 1, 3) := by decide +kernel
theorem dX6_isWord_59 : decode cX6_isWord 59 = .ok (.goto (-32), 3) := by decide +kernel
theorem dX6_isWord_62 : decode cX6_isWord 62 = .ok (.iconst 1, 1) := by decide +kernel
theorem dX6_isWord_63 : decode cX6_isWord 63 = .ok (.ireturn, 1) := by decide +kernel
theorem dX6_valueOfNumber_0 : decode cX6_valueOfNumber 0 = .ok (.iconst 0, 1) := by decide +kernel
theorem dX6_valueOfNumber_1 : decode cX6_valueOfNumber 1 = .ok (.istore_n 1, 1) := by decide +kernel
theorem dX6_valueOfNumber_2 : decode cX6_valueOfNumber 2 = .ok (.aload_n 0, 1) := by decide +kernel
theorem dX6_valueOfNumber_3 : decode cX6_valueOfNumber 3 = .ok (.getfield 40, 3) := by decide +kernel
theorem dX6_valueOfNumber_6 : decode cX6_valueOfNumber 6 = .ok (.istore_n 2, 1) := by decide +kernel
theorem dX6_valueOfNumber_7 : decode cX6_valueOfNumber 7 = .ok (.iload_n 2, 1) := by decide +kernel
theorem dX6_valueOfNumber_8 : decode cX6_valueOfNumber 8 = .ok (.aload_n 0, 1) := by decide +kernel
theorem dX6_valueOfNumber_9 : decode cX6_valueOfNumber 9 = .ok (.getfield 34, 3) := by decide +kernel
theorem dX6_valueOfNumber_12 : decode cX6_valueOfNumber 12 = .ok (.if_icmp .ge 24, 3) := by decide +kernel
theorem dX6_valueOfNumber_15 : decode cX6_valueOfNumber 15 = .ok (.iload_n 1, 1) := by decide +kernel
theorem dX6_valueOfNumber_16 : decode cX6_valueOfNumber 16 = .ok (.bipush 10, 2) := by decide +kernel
theorem dX6_valueOfNumber_18 : decode cX6_valueOfNumber 18 = .ok (.imul, 1) := by decide +kernel
theorem dX6_valueOfNumber_19 : decode cX6_valueOfNumber 19 = .ok (.aload_n 0, 1) := by decide +kernel
theorem dX6_valueOfNumber_20 : decode cX6_valueOfNumber 20 = .ok (.getfield 9, 3) := by decide +kernel
theorem dX6_valueOfNumber_23 : decode cX6_valueOfNumber 23 = .ok (.iload_n 2, 1) := by decide +kernel
theorem dX6_valueOfNumber_24 : decode cX6_valueOfNumber 24 = .ok (.baload, 1) := by decide +kernel
theorem dX6_valueOfNumber_25 : decode cX6_valueOfNumber 25 = .ok (.iadd, 1) := by decide +kernel
theorem dX6_valueOfNumber_26 : decode cX6_valueOfNumber 26 = .ok (.bipush 48, 2) := by decide +kernel
theorem dX6_valueOfNumber_28 : decode cX6_valueOfNumber 28 = .ok (.isub, 1) := by decide +kernel
theorem dX6_valueOfNumber_29 : decode cX6_valueOfNumber 29 = .ok (.istore_n 1, 1) := by decide +kernel
theorem dX6_valueOfNumber_30 : decode cX6_valueOfNumber 30 = .ok (.iinc 2 1, 3) := by decide +kernel
theorem dX6_valueOfNumber_33 : decode cX6_valueOfNumber 33 = .ok (.goto (-26), 3) := by decide +kernel
theorem dX6_valueOfNumber_36 : decode cX6_valueOfNumber 36 = .ok (.iload_n 1, 1) := by decide +kernel
theorem dX6_valueOfNumber_37 : decode cX6_valueOfNumber 37 = .ok (.ireturn, 1) := by decide +kernel
theorem dX7_init_0 : decode cX7_init 0 = .ok (.aload_n 0, 1) := by decide +kernel
theorem dX7_init_1 : decode cX7_init 1 = .ok (.invokespecial 3, 3) := by decide +kernel
theorem dX7_init_4 : decode cX7_init 4 = .ok (.aload_n 0, 1) := by decide +kernel
theorem dX7_init_5 : decode cX7_init 5 = .ok (.bipush 30, 2) := by decide +kernel
theorem dX7_init_7 : decode cX7_init 7 = .ok (.newarray .int, 2) := by decide +kernel
theorem dX7_init_9 : decode cX7_init 9 = .ok (.putfield 9, 3) := by decide +kernel
theorem dX7_init_12 : decode cX7_init 12 = .ok (.aload_n 0, 1) := by decide +kernel
theorem dX7_init_13 : decode cX7_init 13 = .ok (.bipush 30, 2) := by decide +kernel
theorem dX7_init_15 : decode cX7_init 15 = .ok (.newarray .int, 2) := by decide +kernel
theorem dX7_init_17 : decode cX7_init 17 = .ok (.putfield 15, 3) := by decide +kernel
theorem dX7_init_20 : decode cX7_init 20 = .ok (.aload_n 0, 1) := by decide +kernel
theorem dX7_init_21 : decode cX7_init 21 = .ok (.bipush 30, 2) := by decide +kernel
theorem dX7_init_23 : decode cX7_init 23 = .ok (.newarray .int, 2) := by decide +kernel
theorem dX7_init_25 : decode cX7_init 25 = .ok (.putfield 18, 3) := by decide +kernel
theorem dX7_init_28 : decode cX7_init 28 = .ok (.aload_n 0, 1) := by decide +kernel
theorem dX7_init_29 : decode cX7_init 29 = .ok (.bipush 30, 2) := by decide +kernel
theorem dX7_init_31 : decode cX7_init 31 = .ok (.newarray .int, 2) := by decide +kernel
theorem dX7_init_33 : decode cX7_init 33 = .ok (.putfield 21, 3) := by decide +kernel
theorem dX7_init_36 : decode cX7_init 36 = .ok (.aload_n 0, 1) := by decide +kernel
theorem dX7_init_37 : decode cX7_init 37 = .ok (.bipush 30, 2) := by decide +kernel
theorem dX7_init_39 : decode cX7_init 39 = .ok (.newarray .int, 2) := by decide +kernel
theorem dX7_init_41 : decode cX7_init 41 = .ok (.putfield 24, 3) := by decide +kernel
theorem dX7_init_44 : decode cX7_init 44 = .ok (.aload_n 0, 1) := by decide +kernel
theorem dX7_init_45 : decode cX7_init 45 = .ok (.bipush 30, 2) := by decide +kernel
theorem dX7_init_47 : decode cX7_init 47 = .ok (.newarray .int, 2) := by decide +kernel
theorem dX7_init_49 : decode cX7_init 49 = .ok (.putfield 27, 3) := by decide +kernel
theorem dX7_init_52 : decode cX7_init 52 = .ok (.aload_n 0, 1) := by decide +kernel
theorem dX7_init_53 : decode cX7_init 53 = .ok (.bipush 30, 2) := by decide +kernel
theorem dX7_init_55 : decode cX7_init 55 = .ok (.newarray .boolean, 2) := by decide +kernel
theorem dX7_init_57 : decode cX7_init 57 = .ok (.putfield 30, 3) := by decide +kernel
theorem dX7_init_60 : decode cX7_init 60 = .ok (.aload_n 0, 1) := by decide +kernel
theorem dX7_init_61 : decode cX7_init 61 = .ok (.bipush 30, 2) := by decide +kernel
theorem dX7_init_63 : decode cX7_init 63 = .ok (.newarray .int, 2) := by decide +kernel
theorem dX7_init_65 : decode cX7_init 65 = .ok (.putfield 34, 3) := by decide +kernel
theorem dX7_init_68 : decode cX7_init 68 = .ok (.aload_n 0, 1) := by decide +kernel
theorem dX7_init_69 : decode cX7_init 69 = .ok (.bipush 30, 2) := by decide +kernel
theorem dX7_init_71 : decode cX7_init 71 = .ok (.newarray .int, 2) := by decide +kernel
theorem dX7_init_73 : decode cX7_init 73 = .ok (.putfield 37, 3) := by decide +kernel
theorem dX7_init_76 : decode cX7_init 76 = .ok (.aload_n 0, 1) := by decide +kernel
theorem dX7_init_77 : decode cX7_init 77 = .ok (.bipush 30, 2) := by decide +kernel
theorem dX7_init_79 : decode cX7_init 79 = .ok (.newarray .int, 2) := by decide +kernel
theorem dX7_init_81 : decode cX7_init 81 = .ok (.putfield 40, 3) := by decide +kernel
theorem dX7_init_84 : decode cX7_init 84 = .ok (.aload_n 0, 1) := by decide +kernel
theorem dX7_init_85 : decode cX7_init 85 = .ok (.bipush 30, 2) := by decide +kernel
theorem dX7_init_87 : decode cX7_init 87 = .ok (.newarray .int, 2) := by decide +kernel
theorem dX7_init_89 : decode cX7_init 89 = .ok (.putfield 43, 3) := by decide +kernel
theorem dX7_init_92 : decode cX7_init 92 = .ok (.aload_n 0, 1) := by decide +kernel
theorem dX7_init_93 : decode cX7_init 93 = .ok (.bipush 30, 2) := by decide +kernel
theorem dX7_init_95 : decode cX7_init 95 = .ok (.newarray .int, 2) := by decide +kernel
theorem dX7_init_97 : decode cX7_init 97 = .ok (.putfield 46, 3) := by decide +kernel
theorem dX7_init_100 : decode cX7_init 100 = .ok (.return_, 1) := by decide +kernel
theorem dX7_copyFrom_0 : decode cX7_copyFrom 0 = .ok (.aload_n 0, 1) := by decide +kernel
theorem dX7_copyFrom_1 : decode cX7_copyFrom 1 = .ok (.aload_n 1, 1) := by decide +kernel
theorem dX7_copyFrom_2 : decode cX7_copyFrom 2 = .ok (.getfield 49, 3) := by decide +kernel
theorem dX7_copyFrom_5 : decode cX7_copyFrom 5 = .ok (.putfield 49, 3) := by decide +kernel
theorem dX7_copyFrom_8 : decode cX7_copyFrom 8 = .ok (.aload_n 1, 1) := by decide +kernel
theorem dX7_copyFrom_9 : decode cX7_copyFrom 9 = .ok (.getfield 9, 3) := by decide +kernel
theorem dX7_copyFrom_12 : decode cX7_copyFrom 12 = .ok (.iconst 0, 1) := by decide +kernel
theorem dX7_copyFrom_13 : decode cX7_copyFrom 13 = .ok (.aload_n 0, 1) := by decide +kernel
theorem dX7_copyFrom_14 : decode cX7_copyFrom 14 = .ok (.getfield 9, 3) := by decide +kernel
theorem dX7_copyFrom_17 : decode cX7_copyFrom 17 = .ok (.iconst 0, 1) := by decide +kernel
theorem dX7_copyFrom_18 : decode cX7_copyFrom 18 = .ok (.aload_n 0, 1) := by decide +kernel
theorem dX7_copyFrom_19 : decode cX7_copyFrom 19 = .ok (.getfield 49, 3) := by decide +kernel
theorem dX7_copyFrom_22 : decode cX7_copyFrom 22 = .ok (.invokestatic 53, 3) := by decide +kernel
theorem dX7_copyFrom_25 : decode cX7_copyFrom 25 = .ok (.aload_n 1, 1) := by decide +kernel
theorem dX7_copyFrom_26 : decode cX7_copyFrom 26 = .ok (.getfield 15, 3) := by decide +kernel
theorem dX7_copyFrom_29 : decode cX7_copyFrom 29 = .ok (.iconst 0, 1) := by decide +kernel
theorem dX7_copyFrom_30 : decode cX7_copyFrom 30 = .ok (.aload_n 0, 1) := by decide +kernel
theorem dX7_copyFrom_31 : decode cX7_copyFrom 31 = .ok (.getfield 15, 3) := by decide +kernel
theorem dX7_copyFrom_34 : decode cX7_copyFrom 34 = .ok (.iconst 0, 1) := by decide +kernel
theorem dX7_copyFrom_35 : decode cX7_copyFrom 35 = .ok (.aload_n 0, 1) := by decide +kernel
theorem dX7_copyFrom_36 : decode cX7_copyFrom 36 = .ok (.getfield 49, 3) := by decide +kernel
theorem dX7_copyFrom_39 : decode cX7_copyFrom 39 = .ok (.invokestatic 53, 3) := by decide +kernel
theorem dX7_copyFrom_42 : decode cX7_copyFrom 42 = .ok (.aload_n 1, 1) := by decide +kernel
theorem dX7_copyFrom_43 : decode cX7_copyFrom 43 = .ok (.getfield 18, 3) := by decide +kernel
theorem dX7_copyFrom_46 : decode cX7_copyFrom 46 = .ok (.iconst 0, 1) := by decide +kernel
theorem dX7_copyFrom_47 : decode cX7_copyFrom 47 = .ok (.aload_n 0, 1) := by decide +kernel
theorem dX7_copyFrom_48 : decode cX7_copyFrom 48 = .ok (.getfield 18, 3) := by decide +kernel
theorem dX7_copyFrom_51 : decode cX7_copyFrom 51 = .ok (.iconst 0, 1) := by decide +kernel
theorem dX7_copyFrom_52 : decode cX7_copyFrom 52 = .ok (.aload_n 0, 1) := by decide +kernel
theorem dX7_copyFrom_53 : decode cX7_copyFrom 53 = .ok (.getfield 49, 3) := by decide +kernel
theorem dX7_copyFrom_56 : decode cX7_copyFrom 56 = .ok (.invokestatic 53, 3) := by decide +kernel
theorem dX7_copyFrom_59 : decode cX7_copyFrom 59 = .ok (.aload_n 1, 1) := by decide +kernel
theorem dX7_copyFrom_60 : decode cX7_copyFrom 60 = .ok (.getfield 21, 3) := by decide +kernel
theorem dX7_copyFrom_63 : decode cX7_copyFrom 63 = .ok (.iconst 0, 1) := by decide +kernel
theorem dX7_copyFrom_64 : decode cX7_copyFrom 64 = .ok (.aload_n 0, 1) := by decide +kernel
theorem dX7_copyFrom_65 : decode cX7_copyFrom 65 = .ok (.getfield 21, 3) := by decide +kernel
theorem dX7_copyFrom_68 : decode cX7_copyFrom 68 = .ok (.iconst 0, 1) := by decide +kernel
theorem dX7_copyFrom_69 : decode cX7_copyFrom 69 = .ok (.aload_n 0, 1) := by decide +kernel
theorem dX7_copyFrom_70 : decode cX7_copyFrom 70 = .ok (.getfield 49, 3) := by decide +kernel
theorem dX7_copyFrom_73 : decode cX7_copyFrom 73 = .ok (.invokestatic 53, 3) := by decide +kernel
theorem dX7_copyFrom_76 : decode cX7_copyFrom 76 = .ok (.aload_n 1, 1) := by decide +kernel
theorem dX7_copyFrom_77 : decode cX7_copyFrom 77 = .ok (.getfield 24, 3) := by decide +kernel
theorem dX7_copyFrom_80 : decode cX7_copyFrom 80 = .ok (.iconst 0, 1) := by decide +kernel
theorem dX7_copyFrom_81 : decode cX7_copyFrom 81 = .ok (.aload_n 0, 1) := by decide +kernel
theorem dX7_copyFrom_82 : decode cX7_copyFrom 82 = .ok (.getfield 24, 3) := by decide +kernel
theorem dX7_copyFrom_85 : decode cX7_copyFrom 85 = .ok (.iconst 0, 1) := by decide +kernel
theorem dX7_copyFrom_86 : decode cX7_copyFrom 86 = .ok (.aload_n 0, 1) := by decide +kernel
theorem dX7_copyFrom_87 : decode cX7_copyFrom 87 = .ok (.getfield 49, 3) := by decide +kernel
theorem dX7_copyFrom_90 : decode cX7_copyFrom 90 = .ok (.invokestatic 53, 3) := by decide +kernel
theorem dX7_copyFrom_93 : decode cX7_copyFrom 93 = .ok (.aload_n 1, 1) := by decide +kernel
theorem dX7_copyFrom_94 : decode cX7_copyFrom 94 = .ok (.getfield 27, 3) := by decide +kernel
theorem dX7_copyFrom_97 : decode cX7_copyFrom 97 = .ok (.iconst 0, 1) := by decide +kernel
theorem dX7_copyFrom_98 : decode cX7_copyFrom 98 = .ok (.aload_n 0, 1) := by decide +kernel
theorem dX7_copyFrom_99 : decode cX7_copyFrom 99 = .ok (.getfield 27, 3) := by decide +kernel
theorem dX7_copyFrom_102 : decode cX7_copyFrom 102 = .ok (.iconst 0, 1) := by decide +kernel
theorem dX7_copyFrom_103 : decode cX7_copyFrom 103 = .ok (.aload_n 0, 1) := by decide +kernel
theorem dX7_copyFrom_104 : decode cX7_copyFrom 104 = .ok (.getfield 49, 3) := by decide +kernel
theorem dX7_copyFrom_107 : decode cX7_copyFrom 107 = .ok (.invokestatic 53, 3) := by decide +kernel
theorem dX7_copyFrom_110 : decode cX7_copyFrom 110 = .ok (.aload_n 1, 1) := by decide +kernel
theorem dX7_copyFrom_111 : decode cX7_copyFrom 111 = .ok (.getfield 34, 3) := by decide +kernel
theorem dX7_copyFrom_114 : decode cX7_copyFrom 114 = .ok (.iconst 0, 1) := by decide +kernel
theorem dX7_copyFrom_115 : decode cX7_copyFrom 115 = .ok (.aload_n 0, 1) := by decide +kernel
theorem dX7_copyFrom_116 : decode cX7_copyFrom 116 = .ok (.getfield 34, 3) := by decide +kernel
theorem dX7_copyFrom_119 : decode cX7_copyFrom 119 = .ok (.iconst 0, 1) := by decide +kernel
theorem dX7_copyFrom_120 : decode cX7_copyFrom 120 = .ok (.aload_n 0, 1) := by decide +kernel
theorem dX7_copyFrom_121 : decode cX7_copyFrom 121 = .ok (.getfield 49, 3) := by decide +kernel
theorem dX7_copyFrom_124 : decode cX7_copyFrom 124 = .ok (.invokestatic 53, 3) := by decide +kernel
theorem dX7_copyFrom_127 : decode cX7_copyFrom 127 = .ok (.aload_n 1, 1) := by decide +kernel
theorem dX7_copyFrom_128 : decode cX7_copyFrom 128 = .ok (.getfield 37, 3) := by decide +kernel
theorem dX7_copyFrom_131 : decode cX7_copyFrom 131 = .ok (.iconst 0, 1) := by decide +kernel
theorem dX7_copyFrom_132 : decode cX7_copyFrom 132 = .ok (.aload_n 0, 1) := by decide +kernel
theorem dX7_copyFrom_133 : decode cX7_copyFrom 133 = .ok (.getfield 37, 3) := by decide +kernel
theorem dX7_copyFrom_136 : decode cX7_copyFrom 136 = .ok (.iconst 0, 1) := by decide +kernel
theorem dX7_copyFrom_137 : decode cX7_copyFrom 137 = .ok (.aload_n 0, 1) := by decide +kernel
theorem dX7_copyFrom_138 : decode cX7_copyFrom 138 = .ok (.getfield 49, 3) := by decide +kernel
theorem dX7_copyFrom_141 : decode cX7_copyFrom 141 = .ok (.invokestatic 53, 3) := by decide +kernel
theorem dX7_copyFrom_144 : decode cX7_copyFrom 144 = .ok (.aload_n 1, 1) := by decide +kernel
theorem dX7_copyFrom_145 : decode cX7_copyFrom 145 = .ok (.getfield 40, 3) := by decide +kernel
theorem dX7_copyFrom_148 : decode cX7_copyFrom 148 = .ok (.iconst 0, 1) := by decide +kernel
theorem dX7_copyFrom_149 : decode cX7_copyFrom 149 = .ok (.aload_n 0, 1) := by decide +kernel
theorem dX7_copyFrom_150 : decode cX7_copyFrom 150 = .ok (.getfield 40, 3) := by decide +kernel
theorem dX7_copyFrom_153 : decode cX7_copyFrom 153 = .ok (.iconst 0, 1) := by decide +kernel
theorem dX7_copyFrom_154 : decode cX7_copyFrom 154 = .ok (.aload_n 0, 1) := by decide +kernel
theorem dX7_copyFrom_155 : decode cX7_copyFrom 155 = .ok (.getfield 49, 3) := by decide +kernel
theorem dX7_copyFrom_158 : decode cX7_copyFrom 158 = .ok (.invokestatic 53, 3) := by decide +kernel
theorem dX7_copyFrom_161 : decode cX7_copyFrom 161 = .ok (.aload_n 1, 1) := by decide +kernel
theorem dX7_copyFrom_162 : decode cX7_copyFrom 162 = .ok (.getfield 43, 3) := by decide +kernel
theorem dX7_copyFrom_165 : decode cX7_copyFrom 165 = .ok (.iconst 0, 1) := by decide +kernel
theorem dX7_copyFrom_166 : decode cX7_copyFrom 166 = .ok (.aload_n 0, 1) := by decide +kernel
theorem dX7_copyFrom_167 : decode cX7_copyFrom 167 = .ok (.getfield 43, 3) := by decide +kernel
theorem dX7_copyFrom_170 : decode cX7_copyFrom 170 = .ok (.iconst 0, 1) := by decide +kernel
theorem dX7_copyFrom_171 : decode cX7_copyFrom 171 = .ok (.aload_n 0, 1) := by decide +kernel
theorem dX7_copyFrom_172 : decode cX7_copyFrom 172 = .ok (.getfield 49, 3) := by decide +kernel
theorem dX7_copyFrom_175 : decode cX7_copyFrom 175 = .ok (.invokestatic 53, 3) := by decide +kernel
theorem dX7_copyFrom_178 : decode cX7_copyFrom 178 = .ok (.aload_n 1, 1) := by decide +kernel
theorem dX7_copyFrom_179 : decode cX7_copyFrom 179 = .ok (.getfield 46, 3) := by decide +kernel
theorem dX7_copyFrom_182 : decode cX7_copyFrom 182 = .ok (.iconst 0, 1) := by decide +kernel
theorem dX7_copyFrom_183 : decode cX7_copyFrom 183 = .ok (.aload_n 0, 1) := by decide +kernel
theorem dX7_copyFrom_184 : decode cX7_copyFrom 184 = .ok (.getfield 46, 3) := by decide +kernel
theorem dX7_copyFrom_187 : decode cX7_copyFrom 187 = .ok (.iconst 0, 1) := by decide +kernel
theorem dX7_copyFrom_188 : decode cX7_copyFrom 188 = .ok (.aload_n 0, 1) := by decide +kernel
theorem dX7_copyFrom_189 : decode cX7_copyFrom 189 = .ok (.getfield 49, 3) := by decide +kernel
theorem dX7_copyFrom_192 : decode cX7_copyFrom 192 = .ok (.invokestatic 53, 3) := by decide +kernel
theorem dX7_copyFrom_195 : decode cX7_copyFrom 195 = .ok (.iconst 0, 1) := by decide +kernel
theorem dX7_copyFrom_196 : decode cX7_copyFrom 196 = .ok (.istore_n 2, 1) := by decide +kernel
theorem dX7_copyFrom_197 : decode cX7_copyFrom 197 = .ok (.iload_n 2, 1) := by decide +kernel
theorem dX7_copyFrom_198 : decode cX7_copyFrom 198 = .ok (.aload_n 0, 1) := by decide +kernel
theorem dX7_copyFrom_199 : decode cX7_copyFrom 199 = .ok (.getfield 49, 3) := by decide +kernel
theorem dX7_copyFrom_202 : decode cX7_copyFrom 202 = .ok (.if_icmp .ge 21, 3) := by decide +kernel
theorem dX7_copyFrom_205 : decode cX7_copyFrom 205 = .ok (.aload_n 0, 1) := by decide +kernel
theorem dX7_copyFrom_206 : decode cX7_copyFrom 206 = .ok (.getfield 30, 3) := by decide +kernel
theorem dX7_copyFrom_209 : decode cX7_copyFrom 209 = .ok (.iload_n 2, 1) := by decide +kernel
theorem dX7_copyFrom_210 : decode cX7_copyFrom 210 = .ok (.aload_n 1, 1) := by decide +kernel
theorem dX7_copyFrom_211 : decode cX7_copyFrom 211 = .ok (.getfield 30, 3) := by decide +kernel
theorem dX7_copyFrom_214 : decode cX7_copyFrom 214 = .ok (.iload_n 2, 1) := by decide +kernel
theorem dX7_copyFrom_215 : decode cX7_copyFrom 215 = .ok (.baload, 1) := by decide +kernel
theorem dX7_copyFrom_216 : decode cX7_copyFrom 216 = .ok (.bastore, 1) := by decide +kernel
theorem dX7_copyFrom_217 : decode cX7_copyFrom 217 = .ok (.iinc 2 1, 3) := by decide +kernel
theorem dX7_copyFrom_220 : decode cX7_copyFrom 220 = .ok (.goto (-23), 3) := by decide +kernel
theorem dX7_copyFrom_223 : decode cX7_copyFrom 223 = .ok (.return_, 1) := by decide +kernel
theorem dX7_has_0 : decode cX7_has 0 = .ok (.iload_n 1, 1) := by decide +kernel
theorem dX7_has_1 : decode cX7_has 1 = .ok (.ifCond .lt 15, 3) := by decide +kernel
theorem dX7_has_4 : decode cX7_has 4 = .ok (.iload_n 1, 1) := by decide +kernel
theorem dX7_has_5 : decode cX7_has 5 = .ok (.aload_n 0, 1) := by decide +kernel
theorem dX7_has_6 : decode cX7_has 6 = .ok (.getfield 49, 3) := by decide +kernel
theorem dX7_has_9 : decode cX7_has 9 = .ok (.if_icmp .ge 7, 3) := by decide +kernel
theorem dX7_has_12 : decode cX7_has 12 = .ok (.iconst 1, 1) := by decide +kernel
theorem dX7_has_13 : decode cX7_has 13 = .ok (.goto 4, 3) := by decide +kernel
theorem dX7_has_16 : decode cX7_has 16 = .ok (.iconst 0, 1) := by decide +kernel
theorem dX7_has_17 : decode cX7_has 17 = .ok (.ireturn, 1) := by decide +kernel
theorem dX7_hasRoom_0 : decode cX7_hasRoom 0 = .ok (.aload_n 0, 1) := by decide +kernel
theorem dX7_hasRoom_1 : decode cX7_hasRoom 1 = .ok (.getfield 49, 3) := by decide +kernel
theorem dX7_hasRoom_4 : decode cX7_hasRoom 4 = .ok (.bipush 30, 2) := by decide +kernel
theorem dX7_hasRoom_6 : decode cX7_hasRoom 6 = .ok (.if_icmp .ge 7, 3) := by decide +kernel
theorem dX7_hasRoom_9 : decode cX7_hasRoom 9 = .ok (.iconst 1, 1) := by decide +kernel
theorem dX7_hasRoom_10 : decode cX7_hasRoom 10 = .ok (.goto 4, 3) := by decide +kernel
theorem dX7_hasRoom_13 : decode cX7_hasRoom 13 = .ok (.iconst 0, 1) := by decide +kernel
theorem dX7_hasRoom_14 : decode cX7_hasRoom 14 = .ok (.ireturn, 1) := by decide +kernel
theorem dX7_add_0 : decode cX7_add 0 = .ok (.aload_n 0, 1) := by decide +kernel
theorem dX7_add_1 : decode cX7_add 1 = .ok (.getfield 49, 3) := by decide +kernel
theorem dX7_add_4 : decode cX7_add 4 = .ok (.istore 6, 2) := by decide +kernel
theorem dX7_add_6 : decode cX7_add 6 = .ok (.aload_n 0, 1) := by decide +kernel
theorem dX7_add_7 : decode cX7_add 7 = .ok (.getfield 9, 3) := by decide +kernel
theorem dX7_add_10 : decode cX7_add 10 = .ok (.iload 6, 2) := by decide +kernel
theorem dX7_add_12 : decode cX7_add 12 = .ok (.iload_n 1, 1) := by decide +kernel
theorem dX7_add_13 : decode cX7_add 13 = .ok (.iastore, 1) := by decide +kernel
theorem dX7_add_14 : decode cX7_add 14 = .ok (.aload_n 0, 1) := by decide +kernel
theorem dX7_add_15 : decode cX7_add 15 = .ok (.getfield 15, 3) := by decide +kernel
theorem dX7_add_18 : decode cX7_add 18 = .ok (.iload 6, 2) := by decide +kernel
theorem dX7_add_20 : decode cX7_add 20 = .ok (.iload_n 2, 1) := by decide +kernel
theorem dX7_add_21 : decode cX7_add 21 = .ok (.iastore, 1) := by decide +kernel
theorem dX7_add_22 : decode cX7_add 22 = .ok (.aload_n 0, 1) := by decide +kernel
theorem dX7_add_23 : decode cX7_add 23 = .ok (.getfield 18, 3) := by decide +kernel
theorem dX7_add_26 : decode cX7_add 26 = .ok (.iload 6, 2) := by decide +kernel
theorem dX7_add_28 : decode cX7_add 28 = .ok (.iload_n 3, 1) := by decide +kernel
theorem dX7_add_29 : decode cX7_add 29 = .ok (.iastore, 1) := by decide +kernel
theorem dX7_add_30 : decode cX7_add 30 = .ok (.aload_n 0, 1) := by decide +kernel
theorem dX7_add_31 : decode cX7_add 31 = .ok (.getfield 21, 3) := by decide +kernel
theorem dX7_add_34 : decode cX7_add 34 = .ok (.iload 6, 2) := by decide +kernel
theorem dX7_add_36 : decode cX7_add 36 = .ok (.iload 4, 2) := by decide +kernel
theorem dX7_add_38 : decode cX7_add 38 = .ok (.iastore, 1) := by decide +kernel
theorem dX7_add_39 : decode cX7_add 39 = .ok (.aload_n 0, 1) := by decide +kernel
theorem dX7_add_40 : decode cX7_add 40 = .ok (.getfield 24, 3) := by decide +kernel
theorem dX7_add_43 : decode cX7_add 43 = .ok (.iload 6, 2) := by decide +kernel
theorem dX7_add_45 : decode cX7_add 45 = .ok (.iload 5, 2) := by decide +kernel
theorem dX7_add_47 : decode cX7_add 47 = .ok (.iastore, 1) := by decide +kernel
theorem dX7_add_48 : decode cX7_add 48 = .ok (.aload_n 0, 1) := by decide +kernel
theorem dX7_add_49 : decode cX7_add 49 = .ok (.getfield 27, 3) := by decide +kernel
theorem dX7_add_52 : decode cX7_add 52 = .ok (.iload 6, 2) := by decide +kernel
theorem dX7_add_54 : decode cX7_add 54 = .ok (.iconst (-1), 1) := by decide +kernel
theorem dX7_add_55 : decode cX7_add 55 = .ok (.iastore, 1) := by decide +kernel
theorem dX7_add_56 : decode cX7_add 56 = .ok (.aload_n 0, 1) := by decide +kernel
theorem dX7_add_57 : decode cX7_add 57 = .ok (.getfield 30, 3) := by decide +kernel
theorem dX7_add_60 : decode cX7_add 60 = .ok (.iload 6, 2) := by decide +kernel
theorem dX7_add_62 : decode cX7_add 62 = .ok (.iconst 0, 1) := by decide +kernel
theorem dX7_add_63 : decode cX7_add 63 = .ok (.bastore, 1) := by decide +kernel
theorem dX7_add_64 : decode cX7_add 64 = .ok (.aload_n 0, 1) := by decide +kernel
theorem dX7_add_65 : decode cX7_add 65 = .ok (.getfield 34, 3) := by decide +kernel
theorem dX7_add_68 : decode cX7_add 68 = .ok (.iload 6, 2) := by decide +kernel
theorem dX7_add_70 : decode cX7_add 70 = .ok (.iconst 0, 1) := by decide +kernel
theorem dX7_add_71 : decode cX7_add 71 = .ok (.iastore, 1) := by decide +kernel
theorem dX7_add_72 : decode cX7_add 72 = .ok (.aload_n 0, 1) := by decide +kernel
theorem dX7_add_73 : decode cX7_add 73 = .ok (.getfield 37, 3) := by decide +kernel
theorem dX7_add_76 : decode cX7_add 76 = .ok (.iload 6, 2) := by decide +kernel
theorem dX7_add_78 : decode cX7_add 78 = .ok (.iconst 0, 1) := by decide +kernel
theorem dX7_add_79 : decode cX7_add 79 = .ok (.iastore, 1) := by decide +kernel
theorem dX7_add_80 : decode cX7_add 80 = .ok (.aload_n 0, 1) := by decide +kernel
theorem dX7_add_81 : decode cX7_add 81 = .ok (.getfield 40, 3) := by decide +kernel
theorem dX7_add_84 : decode cX7_add 84 = .ok (.iload 6, 2) := by decide +kernel
theorem dX7_add_86 : decode cX7_add 86 = .ok (.iconst (-1), 1) := by decide +kernel
theorem dX7_add_87 : decode cX7_add 87 = .ok (.iastore, 1) := by decide +kernel
theorem dX7_add_88 : decode cX7_add 88 = .ok (.aload_n 0, 1) := by decide +kernel
theorem dX7_add_89 : decode cX7_add 89 = .ok (.getfield 43, 3) := by decide +kernel
theorem dX7_add_92 : decode cX7_add 92 = .ok (.iload 6, 2) := by decide +kernel
theorem dX7_add_94 : decode cX7_add 94 = .ok (.iconst (-1), 1) := by decide +kernel
theorem dX7_add_95 : decode cX7_add 95 = .ok (.iastore, 1) := by decide +kernel
theorem dX7_add_96 : decode cX7_add 96 = .ok (.aload_n 0, 1) := by decide +kernel
theorem dX7_add_97 : decode cX7_add 97 = .ok (.getfield 46, 3) := by decide +kernel
theorem dX7_add_100 : decode cX7_add 100 = .ok (.iload 6, 2) := by decide +kernel
theorem dX7_add_102 : decode cX7_add 102 = .ok (.iconst 0, 1) := by decide +kernel
theorem dX7_add_103 : decode cX7_add 103 = .ok (.iastore, 1) := by decide +kernel
theorem dX7_add_104 : decode cX7_add 104 = .ok (.aload_n 0, 1) := by decide +kernel
theorem dX7_add_105 : decode cX7_add 105 = .ok (.dup, 1) := by decide +kernel
theorem dX7_add_106 : decode cX7_add 106 = .ok (.getfield 49, 3) := by decide +kernel
theorem dX7_add_109 : decode cX7_add 109 = .ok (.iconst 1, 1) := by decide +kernel
theorem dX7_add_110 : decode cX7_add 110 = .ok (.iadd, 1) := by decide +kernel
theorem dX7_add_111 : decode cX7_add 111 = .ok (.putfield 49, 3) := by decide +kernel
theorem dX7_add_114 : decode cX7_add 114 = .ok (.iload 6, 2) := by decide +kernel
theorem dX7_add_116 : decode cX7_add 116 = .ok (.ireturn, 1) := by decide +kernel
theorem dX7_hasCard_0 : decode cX7_hasCard 0 = .ok (.aload_n 0, 1) := by decide +kernel
theorem dX7_hasCard_1 : decode cX7_hasCard 1 = .ok (.getfield 27, 3) := by decide +kernel
theorem dX7_hasCard_4 : decode cX7_hasCard 4 = .ok (.iload_n 1, 1) := by decide +kernel
theorem dX7_hasCard_5 : decode cX7_hasCard 5 = .ok (.iaload, 1) := by decide +kernel
theorem dX7_hasCard_6 : decode cX7_hasCard 6 = .ok (.iconst (-1), 1) := by decide +kernel
theorem dX7_hasCard_7 : decode cX7_hasCard 7 = .ok (.if_icmp .eq 7, 3) := by decide +kernel
theorem dX7_hasCard_10 : decode cX7_hasCard 10 = .ok (.iconst 1, 1) := by decide +kernel
theorem dX7_hasCard_11 : decode cX7_hasCard 11 = .ok (.goto 4, 3) := by decide +kernel
theorem dX7_hasCard_14 : decode cX7_hasCard 14 = .ok (.iconst 0, 1) := by decide +kernel
theorem dX7_hasCard_15 : decode cX7_hasCard 15 = .ok (.ireturn, 1) := by decide +kernel
theorem dX7_hasScent_0 : decode cX7_hasScent 0 = .ok (.aload_n 0, 1) := by decide +kernel
theorem dX7_hasScent_1 : decode cX7_hasScent 1 = .ok (.getfield 9, 3) := by decide +kernel
theorem dX7_hasScent_4 : decode cX7_hasScent 4 = .ok (.iload_n 1, 1) := by decide +kernel
theorem dX7_hasScent_5 : decode cX7_hasScent 5 = .ok (.iaload, 1) := by decide +kernel
theorem dX7_hasScent_6 : decode cX7_hasScent 6 = .ok (.iload_n 2, 1) := by decide +kernel
theorem dX7_hasScent_7 : decode cX7_hasScent 7 = .ok (.ishr, 1) := by decide +kernel
theorem dX7_hasScent_8 : decode cX7_hasScent 8 = .ok (.iconst 1, 1) := by decide +kernel
theorem dX7_hasScent_9 : decode cX7_hasScent 9 = .ok (.iand, 1) := by decide +kernel
theorem dX7_hasScent_10 : decode cX7_hasScent 10 = .ok (.iconst 1, 1) := by decide +kernel
theorem dX7_hasScent_11 : decode cX7_hasScent 11 = .ok (.if_icmp .ne 7, 3) := by decide +kernel
theorem dX7_hasScent_14 : decode cX7_hasScent 14 = .ok (.iconst 1, 1) := by decide +kernel
theorem dX7_hasScent_15 : decode cX7_hasScent 15 = .ok (.goto 4, 3) := by decide +kernel
theorem dX7_hasScent_18 : decode cX7_hasScent 18 = .ok (.iconst 0, 1) := by decide +kernel
theorem dX7_hasScent_19 : decode cX7_hasScent 19 = .ok (.ireturn, 1) := by decide +kernel
theorem dX7_finalDay_0 : decode cX7_finalDay 0 = .ok (.aload_n 0, 1) := by decide +kernel
theorem dX7_finalDay_1 : decode cX7_finalDay 1 = .ok (.getfield 15, 3) := by decide +kernel
theorem dX7_finalDay_4 : decode cX7_finalDay 4 = .ok (.iload_n 1, 1) := by decide +kernel
theorem dX7_finalDay_5 : decode cX7_finalDay 5 = .ok (.iaload, 1) := by decide +kernel
theorem dX7_finalDay_6 : decode cX7_finalDay 6 = .ok (.aload_n 0, 1) := by decide +kernel
theorem dX7_finalDay_7 : decode cX7_finalDay 7 = .ok (.getfield 18, 3) := by decide +kernel
theorem dX7_finalDay_10 : decode cX7_finalDay 10 = .ok (.iload_n 1, 1) := by decide +kernel
theorem dX7_finalDay_11 : decode cX7_finalDay 11 = .ok (.iaload, 1) := by decide +kernel
theorem dX7_finalDay_12 : decode cX7_finalDay 12 = .ok (.iadd, 1) := by decide +kernel
theorem dX7_finalDay_13 : decode cX7_finalDay 13 = .ok (.iconst 1, 1) := by decide +kernel
theorem dX7_finalDay_14 : decode cX7_finalDay 14 = .ok (.isub, 1) := by decide +kernel
theorem dX7_finalDay_15 : decode cX7_finalDay 15 = .ok (.ireturn, 1) := by decide +kernel
theorem dX7_isValidOn_0 : decode cX7_isValidOn 0 = .ok (.iload_n 2, 1) := by decide +kernel
theorem dX7_isValidOn_1 : decode cX7_isValidOn 1 = .ok (.aload_n 0, 1) := by decide +kernel
theorem dX7_isValidOn_2 : decode cX7_isValidOn 2 = .ok (.getfield 15, 3) := by decide +kernel
theorem dX7_isValidOn_5 : decode cX7_isValidOn 5 = .ok (.iload_n 1, 1) := by decide +kernel
theorem dX7_isValidOn_6 : decode cX7_isValidOn 6 = .ok (.iaload, 1) := by decide +kernel
theorem dX7_isValidOn_7 : decode cX7_isValidOn 7 = .ok (.if_icmp .lt 24, 3) := by decide +kernel
theorem dX7_isValidOn_10 : decode cX7_isValidOn 10 = .ok (.iload_n 2, 1) := by decide +kernel
theorem dX7_isValidOn_11 : decode cX7_isValidOn 11 = .ok (.aload_n 0, 1) := by decide +kernel
theorem dX7_isValidOn_12 : decode cX7_isValidOn 12 = .ok (.getfield 15, 3) := by decide +kernel
theorem dX7_isValidOn_15 : decode cX7_isValidOn 15 = .ok (.iload_n 1, 1) := by decide +kernel
theorem dX7_isValidOn_16 : decode cX7_isValidOn 16 = .ok (.iaload, 1) := by decide +kernel
theorem dX7_isValidOn_17 : decode cX7_isValidOn 17 = .ok (.aload_n 0, 1) := by decide +kernel
theorem dX7_isValidOn_18 : decode cX7_isValidOn 18 = .ok (.getfield 18, 3) := by decide +kernel
theorem dX7_isValidOn_21 : decode cX7_isValidOn 21 = .ok (.iload_n 1, 1) := by decide +kernel
theorem dX7_isValidOn_22 : decode cX7_isValidOn 22 = .ok (.iaload, 1) := by decide +kernel
theorem dX7_isValidOn_23 : decode cX7_isValidOn 23 = .ok (.iadd, 1) := by decide +kernel
theorem dX7_isValidOn_24 : decode cX7_isValidOn 24 = .ok (.if_icmp .ge 7, 3) := by decide +kernel
theorem dX7_isValidOn_27 : decode cX7_isValidOn 27 = .ok (.iconst 1, 1) := by decide +kernel
theorem dX7_isValidOn_28 : decode cX7_isValidOn 28 = .ok (.goto 4, 3) := by decide +kernel
theorem dX7_isValidOn_31 : decode cX7_isValidOn 31 = .ok (.iconst 0, 1) := by decide +kernel
theorem dX7_isValidOn_32 : decode cX7_isValidOn 32 = .ok (.ireturn, 1) := by decide +kernel
theorem dX7_countUsedDays_0 : decode cX7_countUsedDays 0 = .ok (.aload_n 0, 1) := by decide +kernel
theorem dX7_countUsedDays_1 : decode cX7_countUsedDays 1 = .ok (.getfield 34, 3) := by decide +kernel
theorem dX7_countUsedDays_4 : decode cX7_countUsedDays 4 = .ok (.iload_n 1, 1) := by decide +kernel
theorem dX7_countUsedDays_5 : decode cX7_countUsedDays 5 = .ok (.iaload, 1) := by decide +kernel
theorem dX7_countUsedDays_6 : decode cX7_countUsedDays 6 = .ok (.invokestatic 59, 3) := by decide +kernel
theorem dX7_countUsedDays_9 : decode cX7_countUsedDays 9 = .ok (.ireturn, 1) := by decide +kernel
theorem dX7_countDaysLeft_0 : decode cX7_countDaysLeft 0 = .ok (.iconst 0, 1) := by decide +kernel
theorem dX7_countDaysLeft_1 : decode cX7_countDaysLeft 1 = .ok (.istore_n 3, 1) := by decide +kernel
theorem dX7_countDaysLeft_2 : decode cX7_countDaysLeft 2 = .ok (.iconst 0, 1) := by decide +kernel
theorem dX7_countDaysLeft_3 : decode cX7_countDaysLeft 3 = .ok (.iload_n 2, 1) := by decide +kernel
theorem dX7_countDaysLeft_4 : decode cX7_countDaysLeft 4 = .ok (.aload_n 0, 1) := by decide +kernel
theorem dX7_countDaysLeft_5 : decode cX7_countDaysLeft 5 = .ok (.getfield 15, 3) := by decide +kernel
theorem dX7_countDaysLeft_8 : decode cX7_countDaysLeft 8 = .ok (.iload_n 1, 1) := by decide +kernel
theorem dX7_countDaysLeft_9 : decode cX7_countDaysLeft 9 = .ok (.iaload, 1) := by decide +kernel
theorem dX7_countDaysLeft_10 : decode cX7_countDaysLeft 10 = .ok (.isub, 1) := by decide +kernel
theorem dX7_countDaysLeft_11 : decode cX7_countDaysLeft 11 = .ok (.invokestatic 65, 3) := by decide +kernel
theorem dX7_countDaysLeft_14 : decode cX7_countDaysLeft 14 = .ok (.istore 4, 2) := by decide +kernel
theorem dX7_countDaysLeft_16 : decode cX7_countDaysLeft 16 = .ok (.iload 4, 2) := by decide +kernel
theorem dX7_countDaysLeft_18 : decode cX7_countDaysLeft 18 = .ok (.aload_n 0, 1) := by decide +kernel
theorem dX7_countDaysLeft_19 : decode cX7_countDaysLeft 19 = .ok (.getfield 18, 3) := by decide +kernel
theorem dX7_countDaysLeft_22 : decode cX7_countDaysLeft 22 = .ok (.iload_n 1, 1) := by decide +kernel
theorem dX7_countDaysLeft_23 : decode cX7_countDaysLeft 23 = .ok (.iaload, 1) := by decide +kernel
theorem dX7_countDaysLeft_24 : decode cX7_countDaysLeft 24 = .ok (.if_icmp .ge 26, 3) := by decide +kernel
theorem dX7_countDaysLeft_27 : decode cX7_countDaysLeft 27 = .ok (.aload_n 0, 1) := by decide +kernel
theorem dX7_countDaysLeft_28 : decode cX7_countDaysLeft 28 = .ok (.getfield 34, 3) := by decide +kernel
theorem dX7_countDaysLeft_31 : decode cX7_countDaysLeft 31 = .ok (.iload_n 1, 1) := by decide +kernel
theorem dX7_countDaysLeft_32 : decode cX7_countDaysLeft 32 = .ok (.iaload, 1) := by decide +kernel
theorem dX7_countDaysLeft_33 : decode cX7_countDaysLeft 33 = .ok (.iload 4, 2) := by decide +kernel
theorem dX7_countDaysLeft_35 : decode cX7_countDaysLeft 35 = .ok (.ishr, 1) := by decide +kernel
theorem dX7_countDaysLeft_36 : decode cX7_countDaysLeft 36 = .ok (.iconst 1, 1) := by decide +kernel
theorem dX7_countDaysLeft_37 : decode cX7_countDaysLeft 37 = .ok (.iand, 1) := by decide +kernel
theorem dX7_countDaysLeft_38 : decode cX7_countDaysLeft 38 = .ok (.ifCond .ne 6, 3) := by decide +kernel
theorem dX7_countDaysLeft_41 : decode cX7_countDaysLeft 41 = .ok (.iinc 3 1, 3) := by decide +kernel
theorem dX7_countDaysLeft_44 : decode cX7_countDaysLeft 44 = .ok (.iinc 4 1, 3) := by decide +kernel
theorem dX7_countDaysLeft_47 : decode cX7_countDaysLeft 47 = .ok (.goto (-31), 3) := by decide +kernel
theorem dX7_countDaysLeft_50 : decode cX7_countDaysLeft 50 = .ok (.iload_n 3, 1) := by decide +kernel
theorem dX7_countDaysLeft_51 : decode cX7_countDaysLeft 51 = .ok (.ireturn, 1) := by decide +kernel
theorem dX7_countVisit_0 : decode cX7_countVisit 0 = .ok (.aload_n 0, 1) := by decide +kernel
theorem dX7_countVisit_1 : decode cX7_countVisit 1 = .ok (.getfield 34, 3) := by decide +kernel
theorem dX7_countVisit_4 : decode cX7_countVisit 4 = .ok (.iload_n 1, 1) := by decide +kernel
theorem dX7_countVisit_5 : decode cX7_countVisit 5 = .ok (.dup2, 1) := by decide +kernel
theorem dX7_countVisit_6 : decode cX7_countVisit 6 = .ok (.iaload, 1) := by decide +kernel
theorem dX7_countVisit_7 : decode cX7_countVisit 7 = .ok (.iconst 1, 1) := by decide +kernel
theorem dX7_countVisit_8 : decode cX7_countVisit 8 = .ok (.iload 4, 2) := by decide +kernel
theorem dX7_countVisit_10 : decode cX7_countVisit 10 = .ok (.aload_n 0, 1) := by decide +kernel
theorem dX7_countVisit_11 : decode cX7_countVisit 11 = .ok (.getfield 15, 3) := by decide +kernel
theorem dX7_countVisit_14 : decode cX7_countVisit 14 = .ok (.iload_n 1, 1) := by decide +kernel
theorem dX7_countVisit_15 : decode cX7_countVisit 15 = .ok (.iaload, 1) := by decide +kernel
theorem dX7_countVisit_16 : decode cX7_countVisit 16 = .ok (.isub, 1) := by decide +kernel
theorem dX7_countVisit_17 : decode cX7_countVisit 17 = .ok (.ishl, 1) := by decide +kernel
theorem dX7_countVisit_18 : decode cX7_countVisit 18 = .ok (.ior, 1) := by decide +kernel
theorem dX7_countVisit_19 : decode cX7_countVisit 19 = .ok (.iastore, 1) := by decide +kernel
theorem dX7_countVisit_20 : decode cX7_countVisit 20 = .ok (.aload_n 0, 1) := by decide +kernel
theorem dX7_countVisit_21 : decode cX7_countVisit 21 = .ok (.getfield 37, 3) := by decide +kernel
theorem dX7_countVisit_24 : decode cX7_countVisit 24 = .ok (.iload_n 1, 1) := by decide +kernel
theorem dX7_countVisit_25 : decode cX7_countVisit 25 = .ok (.dup2, 1) := by decide +kernel
theorem dX7_countVisit_26 : decode cX7_countVisit 26 = .ok (.iaload, 1) := by decide +kernel
theorem dX7_countVisit_27 : decode cX7_countVisit 27 = .ok (.iconst 1, 1) := by decide +kernel
theorem dX7_countVisit_28 : decode cX7_countVisit 28 = .ok (.iadd, 1) := by decide +kernel
theorem dX7_countVisit_29 : decode cX7_countVisit 29 = .ok (.iastore, 1) := by decide +kernel
theorem dX7_countVisit_30 : decode cX7_countVisit 30 = .ok (.aload_n 0, 1) := by decide +kernel
theorem dX7_countVisit_31 : decode cX7_countVisit 31 = .ok (.getfield 40, 3) := by decide +kernel
theorem dX7_countVisit_34 : decode cX7_countVisit 34 = .ok (.iload_n 1, 1) := by decide +kernel
theorem dX7_countVisit_35 : decode cX7_countVisit 35 = .ok (.iload_n 3, 1) := by decide +kernel
theorem dX7_countVisit_36 : decode cX7_countVisit 36 = .ok (.iastore, 1) := by decide +kernel
theorem dX7_countVisit_37 : decode cX7_countVisit 37 = .ok (.aload_n 0, 1) := by decide +kernel
theorem dX7_countVisit_38 : decode cX7_countVisit 38 = .ok (.getfield 43, 3) := by decide +kernel
theorem dX7_countVisit_41 : decode cX7_countVisit 41 = .ok (.iload_n 1, 1) := by decide +kernel
theorem dX7_countVisit_42 : decode cX7_countVisit 42 = .ok (.iload_n 2, 1) := by decide +kernel
theorem dX7_countVisit_43 : decode cX7_countVisit 43 = .ok (.iastore, 1) := by decide +kernel
theorem dX7_countVisit_44 : decode cX7_countVisit 44 = .ok (.return_, 1) := by decide +kernel
theorem dX7_sumOfVisits_0 : decode cX7_sumOfVisits 0 = .ok (.iconst 0, 1) := by decide +kernel
theorem dX7_sumOfVisits_1 : decode cX7_sumOfVisits 1 = .ok (.istore_n 1, 1) := by decide +kernel
theorem dX7_sumOfVisits_2 : decode cX7_sumOfVisits 2 = .ok (.iconst 0, 1) := by decide +kernel
theorem dX7_sumOfVisits_3 : decode cX7_sumOfVisits 3 = .ok (.istore_n 2, 1) := by decide +kernel
theorem dX7_sumOfVisits_4 : decode cX7_sumOfVisits 4 = .ok (.iload_n 2, 1) := by decide +kernel
theorem dX7_sumOfVisits_5 : decode cX7_sumOfVisits 5 = .ok (.aload_n 0, 1) := by decide +kernel
theorem dX7_sumOfVisits_6 : decode cX7_sumOfVisits 6 = .ok (.getfield 49, 3) := by decide +kernel
theorem dX7_sumOfVisits_9 : decode cX7_sumOfVisits 9 = .ok (.if_icmp .ge 18, 3) := by decide +kernel
theorem dX7_sumOfVisits_12 : decode cX7_sumOfVisits 12 = .ok (.iload_n 1, 1) := by decide +kernel
theorem dX7_sumOfVisits_13 : decode cX7_sumOfVisits 13 = .ok (.aload_n 0, 1) := by decide +kernel
theorem dX7_sumOfVisits_14 : decode cX7_sumOfVisits 14 = .ok (.getfield 37, 3) := by decide +kernel
theorem dX7_sumOfVisits_17 : decode cX7_sumOfVisits 17 = .ok (.iload_n 2, 1) := by decide +kernel
theorem dX7_sumOfVisits_18 : decode cX7_sumOfVisits 18 = .ok (.iaload, 1) := by decide +kernel
theorem dX7_sumOfVisits_19 : decode cX7_sumOfVisits 19 = .ok (.iadd, 1) := by decide +kernel
theorem dX7_sumOfVisits_20 : decode cX7_sumOfVisits 20 = .ok (.istore_n 1, 1) := by decide +kernel
theorem dX7_sumOfVisits_21 : decode cX7_sumOfVisits 21 = .ok (.iinc 2 1, 3) := by decide +kernel
theorem dX7_sumOfVisits_24 : decode cX7_sumOfVisits 24 = .ok (.goto (-20), 3) := by decide +kernel
theorem dX7_sumOfVisits_27 : decode cX7_sumOfVisits 27 = .ok (.iload_n 1, 1) := by decide +kernel
theorem dX7_sumOfVisits_28 : decode cX7_sumOfVisits 28 = .ok (.ireturn, 1) := by decide +kernel
theorem dX7_sumOfOwed_0 : decode cX7_sumOfOwed 0 = .ok (.iconst 0, 1) := by decide +kernel
theorem dX7_sumOfOwed_1 : decode cX7_sumOfOwed 1 = .ok (.istore_n 1, 1) := by decide +kernel
theorem dX7_sumOfOwed_2 : decode cX7_sumOfOwed 2 = .ok (.iconst 0, 1) := by decide +kernel
theorem dX7_sumOfOwed_3 : decode cX7_sumOfOwed 3 = .ok (.istore_n 2, 1) := by decide +kernel
theorem dX7_sumOfOwed_4 : decode cX7_sumOfOwed 4 = .ok (.iload_n 2, 1) := by decide +kernel
theorem dX7_sumOfOwed_5 : decode cX7_sumOfOwed 5 = .ok (.aload_n 0, 1) := by decide +kernel
theorem dX7_sumOfOwed_6 : decode cX7_sumOfOwed 6 = .ok (.getfield 49, 3) := by decide +kernel
theorem dX7_sumOfOwed_9 : decode cX7_sumOfOwed 9 = .ok (.if_icmp .ge 18, 3) := by decide +kernel
theorem dX7_sumOfOwed_12 : decode cX7_sumOfOwed 12 = .ok (.iload_n 1, 1) := by decide +kernel
theorem dX7_sumOfOwed_13 : decode cX7_sumOfOwed 13 = .ok (.aload_n 0, 1) := by decide +kernel
theorem dX7_sumOfOwed_14 : decode cX7_sumOfOwed 14 = .ok (.getfield 46, 3) := by decide +kernel
theorem dX7_sumOfOwed_17 : decode cX7_sumOfOwed 17 = .ok (.iload_n 2, 1) := by decide +kernel
theorem dX7_sumOfOwed_18 : decode cX7_sumOfOwed 18 = .ok (.iaload, 1) := by decide +kernel
theorem dX7_sumOfOwed_19 : decode cX7_sumOfOwed 19 = .ok (.iadd, 1) := by decide +kernel
theorem dX7_sumOfOwed_20 : decode cX7_sumOfOwed 20 = .ok (.istore_n 1, 1) := by decide +kernel
theorem dX7_sumOfOwed_21 : decode cX7_sumOfOwed 21 = .ok (.iinc 2 1, 3) := by decide +kernel
theorem dX7_sumOfOwed_24 : decode cX7_sumOfOwed 24 = .ok (.goto (-20), 3) := by decide +kernel
theorem dX7_sumOfOwed_27 : decode cX7_sumOfOwed 27 = .ok (.iload_n 1, 1) := by decide +kernel
theorem dX7_sumOfOwed_28 : decode cX7_sumOfOwed 28 = .ok (.ireturn, 1) := by decide +kernel
theorem dX8_init_0 : decode cX8_init 0 = .ok (.aload_n 0, 1) := by decide +kernel
theorem dX8_init_1 : decode cX8_init 1 = .ok (.invokespecial 3, 3) := by decide +kernel
theorem dX8_init_4 : decode cX8_init 4 = .ok (.aload_n 0, 1) := by decide +kernel
theorem dX8_init_5 : decode cX8_init 5 = .ok (.bipush 14, 2) := by decide +kernel
theorem dX8_init_7 : decode cX8_init 7 = .ok (.newarray .byte, 2) := by decide +kernel
theorem dX8_init_9 : decode cX8_init 9 = .ok (.putfield 9, 3) := by decide +kernel
theorem dX8_init_12 : decode cX8_init 12 = .ok (.return_, 1) := by decide +kernel
theorem dX9_init_0 : decode cX9_init 0 = .ok (.aload_n 0, 1) := by decide +kernel
theorem dX9_init_1 : decode cX9_init 1 = .ok (.invokespecial 3, 3) := by decide +kernel
theorem dX9_init_4 : decode cX9_init 4 = .ok (.aload_n 0, 1) := by decide +kernel
theorem dX9_init_5 : decode cX9_init 5 = .ok (.new 9, 3) := by decide +kernel
theorem dX9_init_8 : decode cX9_init 8 = .ok (.dup, 1) := by decide +kernel
theorem dX9_init_9 : decode cX9_init 9 = .ok (.invokespecial 11, 3) := by decide +kernel
theorem dX9_init_12 : decode cX9_init 12 = .ok (.putfield 12, 3) := by decide +kernel
theorem dX9_init_15 : decode cX9_init 15 = .ok (.aload_n 0, 1) := by decide +kernel
theorem dX9_init_16 : decode cX9_init 16 = .ok (.new 18, 3) := by decide +kernel
theorem dX9_init_19 : decode cX9_init 19 = .ok (.dup, 1) := by decide +kernel
theorem dX9_init_20 : decode cX9_init 20 = .ok (.invokespecial 20, 3) := by decide +kernel
theorem dX9_init_23 : decode cX9_init 23 = .ok (.putfield 21, 3) := by decide +kernel
theorem dX9_init_26 : decode cX9_init 26 = .ok (.aload_n 0, 1) := by decide +kernel
theorem dX9_init_27 : decode cX9_init 27 = .ok (.iconst 0, 1) := by decide +kernel
theorem dX9_init_28 : decode cX9_init 28 = .ok (.putfield 25, 3) := by decide +kernel
theorem dX9_init_31 : decode cX9_init 31 = .ok (.aload_n 0, 1) := by decide +kernel
theorem dX9_init_32 : decode cX9_init 32 = .ok (.iconst (-1), 1) := by decide +kernel
theorem dX9_init_33 : decode cX9_init 33 = .ok (.putfield 29, 3) := by decide +kernel
theorem dX9_init_36 : decode cX9_init 36 = .ok (.return_, 1) := by decide +kernel
theorem dX9_execute_0 : decode cX9_execute 0 = .ok (.aload_n 0, 1) := by decide +kernel
theorem dX9_execute_1 : decode cX9_execute 1 = .ok (.getfield 12, 3) := by decide +kernel
theorem dX9_execute_4 : decode cX9_execute 4 = .ok (.invokevirtual 32, 3) := by decide +kernel
theorem dX9_execute_7 : decode cX9_execute 7 = .ok (.aload_n 0, 1) := by decide +kernel
theorem dX9_execute_8 : decode cX9_execute 8 = .ok (.iconst 0, 1) := by decide +kernel
theorem dX9_execute_9 : decode cX9_execute 9 = .ok (.putfield 25, 3) := by decide +kernel
theorem dX9_execute_12 : decode cX9_execute 12 = .ok (.aload_n 0, 1) := by decide +kernel
theorem dX9_execute_13 : decode cX9_execute 13 = .ok (.iconst (-1), 1) := by decide +kernel
theorem dX9_execute_14 : decode cX9_execute 14 = .ok (.putfield 29, 3) := by decide +kernel
theorem dX9_execute_17 : decode cX9_execute 17 = .ok (.aload_n 0, 1) := by decide +kernel
theorem dX9_execute_18 : decode cX9_execute 18 = .ok (.getfield 21, 3) := by decide +kernel
theorem dX9_execute_21 : decode cX9_execute 21 = .ok (.invokevirtual 35, 3) := by decide +kernel
theorem dX9_execute_24 : decode cX9_execute 24 = .ok (.aload_n 0, 1) := by decide +kernel
theorem dX9_execute_25 : decode cX9_execute 25 = .ok (.invokevirtual 38, 3) := by decide +kernel
theorem dX9_execute_28 : decode cX9_execute 28 = .ok (.iconst 0, 1) := by decide +kernel
theorem dX9_execute_29 : decode cX9_execute 29 = .ok (.istore_n 1, 1) := by decide +kernel
theorem dX9_execute_30 : decode cX9_execute 30 = .ok (.iload_n 1, 1) := by decide +kernel
theorem dX9_execute_31 : decode cX9_execute 31 = .ok (.sipush 500, 3) := by decide +kernel
theorem dX9_execute_34 : decode cX9_execute 34 = .ok (.if_icmp .ge 20, 3) := by decide +kernel
theorem dX9_execute_37 : decode cX9_execute 37 = .ok (.aload_n 0, 1) := by decide +kernel
theorem dX9_execute_38 : decode cX9_execute 38 = .ok (.invokevirtual 41, 3) := by decide +kernel
theorem dX9_execute_41 : decode cX9_execute 41 = .ok (.ifCond .eq 13, 3) := by decide +kernel
theorem dX9_execute_44 : decode cX9_execute 44 = .ok (.aload_n 0, 1) := by decide +kernel
theorem dX9_execute_45 : decode cX9_execute 45 = .ok (.invokevirtual 45, 3) := by decide +kernel
theorem dX9_execute_48 : decode cX9_execute 48 = .ok (.iinc 1 1, 3) := by decide +kernel
theorem dX9_execute_51 : decode cX9_execute 51 = .ok (.goto (-21), 3) := by decide +kernel
theorem dX9_execute_54 : decode cX9_execute 54 = .ok (.return_, 1) := by decide +kernel
theorem dX9_goesOn_0 : decode cX9_goesOn 0 = .ok (.aload_n 0, 1) := by decide +kernel
theorem dX9_goesOn_1 : decode cX9_goesOn 1 = .ok (.getfield 25, 3) := by decide +kernel
theorem dX9_goesOn_4 : decode cX9_goesOn 4 = .ok (.ifCond .ne 18, 3) := by decide +kernel
theorem dX9_goesOn_7 : decode cX9_goesOn 7 = .ok (.aload_n 0, 1) := by decide +kernel
theorem dX9_goesOn_8 : decode cX9_goesOn 8 = .ok (.getfield 21, 3) := by decide +kernel
theorem dX9_goesOn_11 : decode cX9_goesOn 11 = .ok (.getfield 48, 3) := by decide +kernel
theorem dX9_goesOn_14 : decode cX9_goesOn 14 = .ok (.iconst 3, 1) := by decide +kernel
theorem dX9_goesOn_15 : decode cX9_goesOn 15 = .ok (.if_icmp .eq 7, 3) := by decide +kernel
theorem dX9_goesOn_18 : decode cX9_goesOn 18 = .ok (.iconst 1, 1) := by decide +kernel
theorem dX9_goesOn_19 : decode cX9_goesOn 19 = .ok (.goto 4, 3) := by decide +kernel
theorem dX9_goesOn_22 : decode cX9_goesOn 22 = .ok (.iconst 0, 1) := by decide +kernel
theorem dX9_goesOn_23 : decode cX9_goesOn 23 = .ok (.ireturn, 1) := by decide +kernel
theorem dX9_fail_0 : decode cX9_fail 0 = .ok (.aload_n 0, 1) := by decide +kernel
theorem dX9_fail_1 : decode cX9_fail 1 = .ok (.getfield 25, 3) := by decide +kernel
theorem dX9_fail_4 : decode cX9_fail 4 = .ok (.ifCond .ne 19, 3) := by decide +kernel
theorem dX9_fail_7 : decode cX9_fail 7 = .ok (.aload_n 0, 1) := by decide +kernel
theorem dX9_fail_8 : decode cX9_fail 8 = .ok (.iload_n 1, 1) := by decide +kernel
theorem dX9_fail_9 : decode cX9_fail 9 = .ok (.putfield 25, 3) := by decide +kernel
theorem dX9_fail_12 : decode cX9_fail 12 = .ok (.aload_n 0, 1) := by decide +kernel
theorem dX9_fail_13 : decode cX9_fail 13 = .ok (.aload_n 0, 1) := by decide +kernel
theorem dX9_fail_14 : decode cX9_fail 14 = .ok (.getfield 21, 3) := by decide +kernel
theorem dX9_fail_17 : decode cX9_fail 17 = .ok (.getfield 51, 3) := by decide +kernel
theorem dX9_fail_20 : decode cX9_fail 20 = .ok (.putfield 29, 3) := by decide +kernel
theorem dX9_fail_23 : decode cX9_fail 23 = .ok (.return_, 1) := by decide +kernel
theorem dX9_readGarden_0 : decode cX9_readGarden 0 = .ok (.aload_n 0, 1) := by decide +kernel
theorem dX9_readGarden_1 : decode cX9_readGarden 1 = .ok (.getfield 21, 3) := by decide +kernel
theorem dX9_readGarden_4 : decode cX9_readGarden 4 = .ok (.ldc 54, 2) := by decide +kernel
theorem dX9_readGarden_6 : decode cX9_readGarden 6 = .ok (.invokevirtual 55, 3) := by decide +kernel
theorem dX9_readGarden_9 : decode cX9_readGarden 9 = .ok (.ifCond .ne 9, 3) := by decide +kernel
theorem dX9_readGarden_12 : decode cX9_readGarden 12 = .ok (.aload_n 0, 1) := by decide +kernel
theorem dX9_readGarden_13 : decode cX9_readGarden 13 = .ok (.iconst 1, 1) := by decide +kernel
theorem dX9_readGarden_14 : decode cX9_readGarden 14 = .ok (.invokevirtual 59, 3) := by decide +kernel
theorem dX9_readGarden_17 : decode cX9_readGarden 17 = .ok (.return_, 1) := by decide +kernel
theorem dX9_readGarden_18 : decode cX9_readGarden 18 = .ok (.aload_n 0, 1) := by decide +kernel
theorem dX9_readGarden_19 : decode cX9_readGarden 19 = .ok (.getfield 21, 3) := by decide +kernel
theorem dX9_readGarden_22 : decode cX9_readGarden 22 = .ok (.invokevirtual 63, 3) := by decide +kernel
theorem dX9_readGarden_25 : decode cX9_readGarden 25 = .ok (.aload_n 0, 1) := by decide +kernel
theorem dX9_readGarden_26 : decode cX9_readGarden 26 = .ok (.invokevirtual 66, 3) := by decide +kernel
theorem dX9_readGarden_29 : decode cX9_readGarden 29 = .ok (.iconst 1, 1) := by decide +kernel
theorem dX9_readGarden_30 : decode cX9_readGarden 30 = .ok (.istore_n 1, 1) := by decide +kernel
theorem dX9_readGarden_31 : decode cX9_readGarden 31 = .ok (.iload_n 1, 1) := by decide +kernel
theorem dX9_readGarden_32 : decode cX9_readGarden 32 = .ok (.iconst 5, 1) := by decide +kernel
theorem dX9_readGarden_33 : decode cX9_readGarden 33 = .ok (.if_icmp .gt 31, 3) := by decide +kernel
theorem dX9_readGarden_36 : decode cX9_readGarden 36 = .ok (.aload_n 0, 1) := by decide +kernel
theorem dX9_readGarden_37 : decode cX9_readGarden 37 = .ok (.getfield 25, 3) := by decide +kernel
theorem dX9_readGarden_40 : decode cX9_readGarden 40 = .ok (.ifCond .ne 24, 3) := by decide +kernel
theorem dX9_readGarden_43 : decode cX9_readGarden 43 = .ok (.aload_n 0, 1) := by decide +kernel
theorem dX9_readGarden_44 : decode cX9_readGarden 44 = .ok (.getfield 21, 3) := by decide +kernel
theorem dX9_readGarden_47 : decode cX9_readGarden 47 = .ok (.getfield 48, 3) := by decide +kernel
theorem dX9_readGarden_50 : decode cX9_readGarden 50 = .ok (.iconst 1, 1) := by decide +kernel
theorem dX9_readGarden_51 : decode cX9_readGarden 51 = .ok (.if_icmp .ne 13, 3) := by decide +kernel
theorem dX9_readGarden_54 : decode cX9_readGarden 54 = .ok (.aload_n 0, 1) := by decide +kernel
theorem dX9_readGarden_55 : decode cX9_readGarden 55 = .ok (.invokevirtual 66, 3) := by decide +kernel
theorem dX9_readGarden_58 : decode cX9_readGarden 58 = .ok (.iinc 1 1, 3) := by decide +kernel
theorem dX9_readGarden_61 : decode cX9_readGarden 61 = .ok (.goto (-30), 3) := by decide +kernel
theorem dX9_readGarden_64 : decode cX9_readGarden 64 = .ok (.aload_n 0, 1) := by decide +kernel
theorem dX9_readGarden_65 : decode cX9_readGarden 65 = .ok (.invokevirtual 69, 3) := by decide +kernel
theorem dX9_readGarden_68 : decode cX9_readGarden 68 = .ok (.ifCond .eq 10, 3) := by decide +kernel
theorem dX9_readGarden_71 : decode cX9_readGarden 71 = .ok (.aload_n 0, 1) := by decide +kernel
theorem dX9_readGarden_72 : decode cX9_readGarden 72 = .ok (.getfield 21, 3) := by decide +kernel
theorem dX9_readGarden_75 : decode cX9_readGarden 75 = .ok (.invokevirtual 63, 3) := by decide +kernel
theorem dX9_readGarden_78 : decode cX9_readGarden 78 = .ok (.return_, 1) := by decide +kernel
theorem dX9_readPrice_0 : decode cX9_readPrice 0 = .ok (.aload_n 0, 1) := by decide +kernel
theorem dX9_readPrice_1 : decode cX9_readPrice 1 = .ok (.iconst 1, 1) := by decide +kernel
theorem dX9_readPrice_2 : decode cX9_readPrice 2 = .ok (.bipush 99, 2) := by decide +kernel
theorem dX9_readPrice_4 : decode cX9_readPrice 4 = .ok (.invokevirtual 72, 3) := by decide +kernel
theorem dX9_readPrice_7 : decode cX9_readPrice 7 = .ok (.istore_n 1, 1) := by decide +kernel
theorem dX9_readPrice_8 : decode cX9_readPrice 8 = .ok (.aload_n 0, 1) := by decide +kernel
theorem dX9_readPrice_9 : decode cX9_readPrice 9 = .ok (.getfield 12, 3) := by decide +kernel
theorem dX9_readPrice_12 : decode cX9_readPrice 12 = .ok (.getfield 76, 3) := by decide +kernel
theorem dX9_readPrice_15 : decode cX9_readPrice 15 = .ok (.invokevirtual 80, 3) := by decide +kernel
theorem dX9_readPrice_18 : decode cX9_readPrice 18 = .ok (.ifCond .ne 8, 3) := by decide +kernel
theorem dX9_readPrice_21 : decode cX9_readPrice 21 = .ok (.aload_n 0, 1) := by decide +kernel
theorem dX9_readPrice_22 : decode cX9_readPrice 22 = .ok (.iconst 3, 1) := by decide +kernel
theorem dX9_readPrice_23 : decode cX9_readPrice 23 = .ok (.invokevirtual 59, 3) := by decide +kernel
theorem dX9_readPrice_26 : decode cX9_readPrice 26 = .ok (.aload_n 0, 1) := by decide +kernel
theorem dX9_readPrice_27 : decode cX9_readPrice 27 = .ok (.getfield 25, 3) := by decide +kernel
theorem dX9_readPrice_30 : decode cX9_readPrice 30 = .ok (.ifCond .ne 21, 3) := by decide +kernel
theorem dX9_readPrice_33 : decode cX9_readPrice 33 = .ok (.aload_n 0, 1) := by decide +kernel
theorem dX9_readPrice_34 : decode cX9_readPrice 34 = .ok (.getfield 12, 3) := by decide +kernel
theorem dX9_readPrice_37 : decode cX9_readPrice 37 = .ok (.getfield 76, 3) := by decide +kernel
theorem dX9_readPrice_40 : decode cX9_readPrice 40 = .ok (.iload_n 1, 1) := by decide +kernel
theorem dX9_readPrice_41 : decode cX9_readPrice 41 = .ok (.invokevirtual 85, 3) := by decide +kernel
theorem dX9_readPrice_44 : decode cX9_readPrice 44 = .ok (.aload_n 0, 1) := by decide +kernel
theorem dX9_readPrice_45 : decode cX9_readPrice 45 = .ok (.getfield 21, 3) := by decide +kernel
theorem dX9_readPrice_48 : decode cX9_readPrice 48 = .ok (.invokevirtual 63, 3) := by decide +kernel
theorem dX9_readPrice_51 : decode cX9_readPrice 51 = .ok (.return_, 1) := by decide +kernel
theorem dX9_readCommand_0 : decode cX9_readCommand 0 = .ok (.aload_n 0, 1) := by decide +kernel
theorem dX9_readCommand_1 : decode cX9_readCommand 1 = .ok (.getfield 21, 3) := by decide +kernel
theorem dX9_readCommand_4 : decode cX9_readCommand 4 = .ok (.ldc 88, 2) := by decide +kernel
theorem dX9_readCommand_6 : decode cX9_readCommand 6 = .ok (.invokevirtual 55, 3) := by decide +kernel
theorem dX9_readCommand_9 : decode cX9_readCommand 9 = .ok (.ifCond .eq 10, 3) := by decide +kernel
theorem dX9_readCommand_12 : decode cX9_readCommand 12 = .ok (.aload_n 0, 1) := by decide +kernel
theorem dX9_readCommand_13 : decode cX9_readCommand 13 = .ok (.invokevirtual 90, 3) := by decide +kernel
theorem dX9_readCommand_16 : decode cX9_readCommand 16 = .ok (.goto 179, 3) := by decide +kernel
theorem dX9_readCommand_19 : decode cX9_readCommand 19 = .ok (.aload_n 0, 1) := by decide +kernel
theorem dX9_readCommand_20 : decode cX9_readCommand 20 = .ok (.getfield 21, 3) := by decide +kernel
theorem dX9_readCommand_23 : decode cX9_readCommand 23 = .ok (.ldc 93, 2) := by decide +kernel
theorem dX9_readCommand_25 : decode cX9_readCommand 25 = .ok (.invokevirtual 55, 3) := by decide +kernel
theorem dX9_readCommand_28 : decode cX9_readCommand 28 = .ok (.ifCond .eq 10, 3) := by decide +kernel
theorem dX9_readCommand_31 : decode cX9_readCommand 31 = .ok (.aload_n 0, 1) := by decide +kernel
theorem dX9_readCommand_32 : decode cX9_readCommand 32 = .ok (.invokevirtual 95, 3) := by decide +kernel
theorem dX9_readCommand_35 : decode cX9_readCommand 35 = .ok (.goto 160, 3) := by decide +kernel
theorem dX9_readCommand_38 : decode cX9_readCommand 38 = .ok (.aload_n 0, 1) := by decide +kernel
theorem dX9_readCommand_39 : decode cX9_readCommand 39 = .ok (.getfield 21, 3) := by decide +kernel
theorem dX9_readCommand_42 : decode cX9_readCommand 42 = .ok (.ldc 98, 2) := by decide +kernel
theorem dX9_readCommand_44 : decode cX9_readCommand 44 = .ok (.invokevirtual 55, 3) := by decide +kernel
theorem dX9_readCommand_47 : decode cX9_readCommand 47 = .ok (.ifCond .eq 10, 3) := by decide +kernel
theorem dX9_readCommand_50 : decode cX9_readCommand 50 = .ok (.aload_n 0, 1) := by decide +kernel
theorem dX9_readCommand_51 : decode cX9_readCommand 51 = .ok (.invokevirtual 100, 3) := by decide +kernel
theorem dX9_readCommand_54 : decode cX9_readCommand 54 = .ok (.goto 141, 3) := by decide +kernel
theorem dX9_readCommand_57 : decode cX9_readCommand 57 = .ok (.aload_n 0, 1) := by decide +kernel
theorem dX9_readCommand_58 : decode cX9_readCommand 58 = .ok (.getfield 21, 3) := by decide +kernel
theorem dX9_readCommand_61 : decode cX9_readCommand 61 = .ok (.ldc 103, 2) := by decide +kernel
theorem dX9_readCommand_63 : decode cX9_readCommand 63 = .ok (.invokevirtual 55, 3) := by decide +kernel
theorem dX9_readCommand_66 : decode cX9_readCommand 66 = .ok (.ifCond .eq 10, 3) := by decide +kernel
theorem dX9_readCommand_69 : decode cX9_readCommand 69 = .ok (.aload_n 0, 1) := by decide +kernel
theorem dX9_readCommand_70 : decode cX9_readCommand 70 = .ok (.invokevirtual 105, 3) := by decide +kernel
theorem dX9_readCommand_73 : decode cX9_readCommand 73 = .ok (.goto 122, 3) := by decide +kernel
theorem dX9_readCommand_76 : decode cX9_readCommand 76 = .ok (.aload_n 0, 1) := by decide +kernel
theorem dX9_readCommand_77 : decode cX9_readCommand 77 = .ok (.getfield 21, 3) := by decide +kernel
theorem dX9_readCommand_80 : decode cX9_readCommand 80 = .ok (.ldc 108, 2) := by decide +kernel
theorem dX9_readCommand_82 : decode cX9_readCommand 82 = .ok (.invokevirtual 55, 3) := by decide +kernel
theorem dX9_readCommand_85 : decode cX9_readCommand 85 = .ok (.ifCond .eq 10, 3) := by decide +kernel
theorem dX9_readCommand_88 : decode cX9_readCommand 88 = .ok (.aload_n 0, 1) := by decide +kernel
theorem dX9_readCommand_89 : decode cX9_readCommand 89 = .ok (.invokevirtual 110, 3) := by decide +kernel
theorem dX9_readCommand_92 : decode cX9_readCommand 92 = .ok (.goto 103, 3) := by decide +kernel
theorem dX9_readCommand_95 : decode cX9_readCommand 95 = .ok (.aload_n 0, 1) := by decide +kernel
theorem dX9_readCommand_96 : decode cX9_readCommand 96 = .ok (.getfield 21, 3) := by decide +kernel
theorem dX9_readCommand_99 : decode cX9_readCommand 99 = .ok (.ldc 113, 2) := by decide +kernel
theorem dX9_readCommand_101 : decode cX9_readCommand 101 = .ok (.invokevirtual 55, 3) := by decide +kernel
theorem dX9_readCommand_104 : decode cX9_readCommand 104 = .ok (.ifCond .eq 10, 3) := by decide +kernel
theorem dX9_readCommand_107 : decode cX9_readCommand 107 = .ok (.aload_n 0, 1) := by decide +kernel
theorem dX9_readCommand_108 : decode cX9_readCommand 108 = .ok (.invokevirtual 115, 3) := by decide +kernel
theorem dX9_readCommand_111 : decode cX9_readCommand 111 = .ok (.goto 84, 3) := by decide +kernel
theorem dX9_readCommand_114 : decode cX9_readCommand 114 = .ok (.aload_n 0, 1) := by decide +kernel
theorem dX9_readCommand_115 : decode cX9_readCommand 115 = .ok (.getfield 21, 3) := by decide +kernel
theorem dX9_readCommand_118 : decode cX9_readCommand 118 = .ok (.ldc 118, 2) := by decide +kernel
theorem dX9_readCommand_120 : decode cX9_readCommand 120 = .ok (.invokevirtual 55, 3) := by decide +kernel
theorem dX9_readCommand_123 : decode cX9_readCommand 123 = .ok (.ifCond .eq 10, 3) := by decide +kernel
theorem dX9_readCommand_126 : decode cX9_readCommand 126 = .ok (.aload_n 0, 1) := by decide +kernel
theorem dX9_readCommand_127 : decode cX9_readCommand 127 = .ok (.invokevirtual 120, 3) := by decide +kernel
theorem dX9_readCommand_130 : decode cX9_readCommand 130 = .ok (.goto 65, 3) := by decide +kernel
theorem dX9_readCommand_133 : decode cX9_readCommand 133 = .ok (.aload_n 0, 1) := by decide +kernel
theorem dX9_readCommand_134 : decode cX9_readCommand 134 = .ok (.getfield 21, 3) := by decide +kernel
theorem dX9_readCommand_137 : decode cX9_readCommand 137 = .ok (.ldc 123, 2) := by decide +kernel
theorem dX9_readCommand_139 : decode cX9_readCommand 139 = .ok (.invokevirtual 55, 3) := by decide +kernel
theorem dX9_readCommand_142 : decode cX9_readCommand 142 = .ok (.ifCond .eq 10, 3) := by decide +kernel
theorem dX9_readCommand_145 : decode cX9_readCommand 145 = .ok (.aload_n 0, 1) := by decide +kernel
theorem dX9_readCommand_146 : decode cX9_readCommand 146 = .ok (.invokevirtual 125, 3) := by decide +kernel
theorem dX9_readCommand_149 : decode cX9_readCommand 149 = .ok (.goto 46, 3) := by decide +kernel
theorem dX9_readCommand_152 : decode cX9_readCommand 152 = .ok (.aload_n 0, 1) := by decide +kernel
theorem dX9_readCommand_153 : decode cX9_readCommand 153 = .ok (.getfield 21, 3) := by decide +kernel
theorem dX9_readCommand_156 : decode cX9_readCommand 156 = .ok (.ldc 128, 2) := by decide +kernel
theorem dX9_readCommand_158 : decode cX9_readCommand 158 = .ok (.invokevirtual 55, 3) := by decide +kernel
theorem dX9_readCommand_161 : decode cX9_readCommand 161 = .ok (.ifCond .eq 10, 3) := by decide +kernel
theorem dX9_readCommand_164 : decode cX9_readCommand 164 = .ok (.aload_n 0, 1) := by decide +kernel
theorem dX9_readCommand_165 : decode cX9_readCommand 165 = .ok (.invokevirtual 130, 3) := by decide +kernel
theorem dX9_readCommand_168 : decode cX9_readCommand 168 = .ok (.goto 27, 3) := by decide +kernel
theorem dX9_readCommand_171 : decode cX9_readCommand 171 = .ok (.aload_n 0, 1) := by decide +kernel
theorem dX9_readCommand_172 : decode cX9_readCommand 172 = .ok (.getfield 21, 3) := by decide +kernel
theorem dX9_readCommand_175 : decode cX9_readCommand 175 = .ok (.ldc 133, 2) := by decide +kernel
theorem dX9_readCommand_177 : decode cX9_readCommand 177 = .ok (.invokevirtual 55, 3) := by decide +kernel
theorem dX9_readCommand_180 : decode cX9_readCommand 180 = .ok (.ifCond .eq 10, 3) := by decide +kernel
theorem dX9_readCommand_183 : decode cX9_readCommand 183 = .ok (.aload_n 0, 1) := by decide +kernel
theorem dX9_readCommand_184 : decode cX9_readCommand 184 = .ok (.invokevirtual 135, 3) := by decide +kernel
theorem dX9_readCommand_187 : decode cX9_readCommand 187 = .ok (.goto 8, 3) := by decide +kernel
theorem dX9_readCommand_190 : decode cX9_readCommand 190 = .ok (.aload_n 0, 1) := by decide +kernel
theorem dX9_readCommand_191 : decode cX9_readCommand 191 = .ok (.iconst 1, 1) := by decide +kernel
theorem dX9_readCommand_192 : decode cX9_readCommand 192 = .ok (.invokevirtual 59, 3) := by decide +kernel
theorem dX9_readCommand_195 : decode cX9_readCommand 195 = .ok (.aload_n 0, 1) := by decide +kernel
theorem dX9_readCommand_196 : decode cX9_readCommand 196 = .ok (.getfield 25, 3) := by decide +kernel
theorem dX9_readCommand_199 : decode cX9_readCommand 199 = .ok (.ifCond .ne 10, 3) := by decide +kernel
theorem dX9_readCommand_202 : decode cX9_readCommand 202 = .ok (.aload_n 0, 1) := by decide +kernel
theorem dX9_readCommand_203 : decode cX9_readCommand 203 = .ok (.getfield 21, 3) := by decide +kernel
theorem dX9_readCommand_206 : decode cX9_readCommand 206 = .ok (.invokevirtual 63, 3) := by decide +kernel
theorem dX9_readCommand_209 : decode cX9_readCommand 209 = .ok (.return_, 1) := by decide +kernel
theorem dX9_readBed_0 : decode cX9_readBed 0 = .ok (.aload_n 0, 1) := by decide +kernel
theorem dX9_readBed_1 : decode cX9_readBed 1 = .ok (.iconst 0, 1) := by decide +kernel
theorem dX9_readBed_2 : decode cX9_readBed 2 = .ok (.aload_n 0, 1) := by decide +kernel
theorem dX9_readBed_3 : decode cX9_readBed 3 = .ok (.getfield 12, 3) := by decide +kernel
theorem dX9_readBed_6 : decode cX9_readBed 6 = .ok (.getfield 76, 3) := by decide +kernel
theorem dX9_readBed_9 : decode cX9_readBed 9 = .ok (.getfield 138, 3) := by decide +kernel
theorem dX9_readBed_12 : decode cX9_readBed 12 = .ok (.iconst 1, 1) := by decide +kernel
theorem dX9_readBed_13 : decode cX9_readBed 13 = .ok (.isub, 1) := by decide +kernel
theorem dX9_readBed_14 : decode cX9_readBed 14 = .ok (.invokevirtual 141, 3) := by decide +kernel
theorem dX9_readBed_17 : decode cX9_readBed 17 = .ok (.istore_n 1, 1) := by decide +kernel
theorem dX9_readBed_18 : decode cX9_readBed 18 = .ok (.aload_n 0, 1) := by decide +kernel
theorem dX9_readBed_19 : decode cX9_readBed 19 = .ok (.iconst 1, 1) := by decide +kernel
theorem dX9_readBed_20 : decode cX9_readBed 20 = .ok (.bipush 20, 2) := by decide +kernel
theorem dX9_readBed_22 : decode cX9_readBed 22 = .ok (.invokevirtual 141, 3) := by decide +kernel
theorem dX9_readBed_25 : decode cX9_readBed 25 = .ok (.istore_n 2, 1) := by decide +kernel
theorem dX9_readBed_26 : decode cX9_readBed 26 = .ok (.aload_n 0, 1) := by decide +kernel
theorem dX9_readBed_27 : decode cX9_readBed 27 = .ok (.iconst 0, 1) := by decide +kernel
theorem dX9_readBed_28 : decode cX9_readBed 28 = .ok (.bipush 99, 2) := by decide +kernel
theorem dX9_readBed_30 : decode cX9_readBed 30 = .ok (.invokevirtual 141, 3) := by decide +kernel
theorem dX9_readBed_33 : decode cX9_readBed 33 = .ok (.istore_n 3, 1) := by decide +kernel
theorem dX9_readBed_34 : decode cX9_readBed 34 = .ok (.aload_n 0, 1) := by decide +kernel
theorem dX9_readBed_35 : decode cX9_readBed 35 = .ok (.iload_n 3, 1) := by decide +kernel
theorem dX9_readBed_36 : decode cX9_readBed 36 = .ok (.bipush 99, 2) := by decide +kernel
theorem dX9_readBed_38 : decode cX9_readBed 38 = .ok (.invokevirtual 141, 3) := by decide +kernel
theorem dX9_readBed_41 : decode cX9_readBed 41 = .ok (.istore 4, 2) := by decide +kernel
theorem dX9_readBed_43 : decode cX9_readBed 43 = .ok (.aload_n 0, 1) := by decide +kernel
theorem dX9_readBed_44 : decode cX9_readBed 44 = .ok (.invokevirtual 144, 3) := by decide +kernel
theorem dX9_readBed_47 : decode cX9_readBed 47 = .ok (.ifCond .eq 36, 3) := by decide +kernel
theorem dX9_readBed_50 : decode cX9_readBed 50 = .ok (.aload_n 0, 1) := by decide +kernel
theorem dX9_readBed_51 : decode cX9_readBed 51 = .ok (.aload_n 0, 1) := by decide +kernel
theorem dX9_readBed_52 : decode cX9_readBed 52 = .ok (.getfield 12, 3) := by decide +kernel
theorem dX9_readBed_55 : decode cX9_readBed 55 = .ok (.getfield 147, 3) := by decide +kernel
theorem dX9_readBed_58 : decode cX9_readBed 58 = .ok (.invokevirtual 151, 3) := by decide +kernel
theorem dX9_readBed_61 : decode cX9_readBed 61 = .ok (.invokevirtual 154, 3) := by decide +kernel
theorem dX9_readBed_64 : decode cX9_readBed 64 = .ok (.ifCond .eq 19, 3) := by decide +kernel
theorem dX9_readBed_67 : decode cX9_readBed 67 = .ok (.aload_n 0, 1) := by decide +kernel
theorem dX9_readBed_68 : decode cX9_readBed 68 = .ok (.getfield 12, 3) := by decide +kernel
theorem dX9_readBed_71 : decode cX9_readBed 71 = .ok (.getfield 147, 3) := by decide +kernel
theorem dX9_readBed_74 : decode cX9_readBed 74 = .ok (.iload_n 1, 1) := by decide +kernel
theorem dX9_readBed_75 : decode cX9_readBed 75 = .ok (.iload_n 2, 1) := by decide +kernel
theorem dX9_readBed_76 : decode cX9_readBed 76 = .ok (.iload_n 3, 1) := by decide +kernel
theorem dX9_readBed_77 : decode cX9_readBed 77 = .ok (.iload 4, 2) := by decide +kernel
theorem dX9_readBed_79 : decode cX9_readBed 79 = .ok (.invokevirtual 158, 3) := by decide +kernel
theorem dX9_readBed_82 : decode cX9_readBed 82 = .ok (.pop, 1) := by decide +kernel
theorem dX9_readBed_83 : decode cX9_readBed 83 = .ok (.return_, 1) := by decide +kernel
theorem dX9_readSell_0 : decode cX9_readSell 0 = .ok (.aload_n 0, 1) := by decide +kernel
theorem dX9_readSell_1 : decode cX9_readSell 1 = .ok (.iconst 1, 1) := by decide +kernel
theorem dX9_readSell_2 : decode cX9_readSell 2 = .ok (.aload_n 0, 1) := by decide +kernel
theorem dX9_readSell_3 : decode cX9_readSell 3 = .ok (.getfield 12, 3) := by decide +kernel
theorem dX9_readSell_6 : decode cX9_readSell 6 = .ok (.getfield 76, 3) := by decide +kernel
theorem dX9_readSell_9 : decode cX9_readSell 9 = .ok (.invokevirtual 161, 3) := by decide +kernel
theorem dX9_readSell_12 : decode cX9_readSell 12 = .ok (.invokevirtual 141, 3) := by decide +kernel
theorem dX9_readSell_15 : decode cX9_readSell 15 = .ok (.istore_n 1, 1) := by decide +kernel
theorem dX9_readSell_16 : decode cX9_readSell 16 = .ok (.aload_n 0, 1) := by decide +kernel
theorem dX9_readSell_17 : decode cX9_readSell 17 = .ok (.aload_n 0, 1) := by decide +kernel
theorem dX9_readSell_18 : decode cX9_readSell 18 = .ok (.getfield 12, 3) := by decide +kernel
theorem dX9_readSell_21 : decode cX9_readSell 21 = .ok (.getfield 165, 3) := by decide +kernel
theorem dX9_readSell_24 : decode cX9_readSell 24 = .ok (.invokevirtual 169, 3) := by decide +kernel
theorem dX9_readSell_27 : decode cX9_readSell 27 = .ok (.bipush 99, 2) := by decide +kernel
theorem dX9_readSell_29 : decode cX9_readSell 29 = .ok (.invokevirtual 141, 3) := by decide +kernel
theorem dX9_readSell_32 : decode cX9_readSell 32 = .ok (.istore_n 2, 1) := by decide +kernel
theorem dX9_readSell_33 : decode cX9_readSell 33 = .ok (.aload_n 0, 1) := by decide +kernel
theorem dX9_readSell_34 : decode cX9_readSell 34 = .ok (.iconst 1, 1) := by decide +kernel
theorem dX9_readSell_35 : decode cX9_readSell 35 = .ok (.bipush 14, 2) := by decide +kernel
theorem dX9_readSell_37 : decode cX9_readSell 37 = .ok (.invokevirtual 141, 3) := by decide +kernel
theorem dX9_readSell_40 : decode cX9_readSell 40 = .ok (.istore_n 3, 1) := by decide +kernel
theorem dX9_readSell_41 : decode cX9_readSell 41 = .ok (.aload_n 0, 1) := by decide +kernel
theorem dX9_readSell_42 : decode cX9_readSell 42 = .ok (.invokevirtual 174, 3) := by decide +kernel
theorem dX9_readSell_45 : decode cX9_readSell 45 = .ok (.istore 4, 2) := by decide +kernel
theorem dX9_readSell_47 : decode cX9_readSell 47 = .ok (.aload_n 0, 1) := by decide +kernel
theorem dX9_readSell_48 : decode cX9_readSell 48 = .ok (.invokevirtual 144, 3) := by decide +kernel
theorem dX9_readSell_51 : decode cX9_readSell 51 = .ok (.ifCond .eq 30, 3) := by decide +kernel
theorem dX9_readSell_54 : decode cX9_readSell 54 = .ok (.aload_n 0, 1) := by decide +kernel
theorem dX9_readSell_55 : decode cX9_readSell 55 = .ok (.aload_n 0, 1) := by decide +kernel
theorem dX9_readSell_56 : decode cX9_readSell 56 = .ok (.getfield 12, 3) := by decide +kernel
theorem dX9_readSell_59 : decode cX9_readSell 59 = .ok (.invokevirtual 177, 3) := by decide +kernel
theorem dX9_readSell_62 : decode cX9_readSell 62 = .ok (.invokevirtual 154, 3) := by decide +kernel
theorem dX9_readSell_65 : decode cX9_readSell 65 = .ok (.ifCond .eq 16, 3) := by decide +kernel
theorem dX9_readSell_68 : decode cX9_readSell 68 = .ok (.aload_n 0, 1) := by decide +kernel
theorem dX9_readSell_69 : decode cX9_readSell 69 = .ok (.getfield 12, 3) := by decide +kernel
theorem dX9_readSell_72 : decode cX9_readSell 72 = .ok (.iload_n 1, 1) := by decide +kernel
theorem dX9_readSell_73 : decode cX9_readSell 73 = .ok (.iload_n 2, 1) := by decide +kernel
theorem dX9_readSell_74 : decode cX9_readSell 74 = .ok (.iload_n 3, 1) := by decide +kernel
theorem dX9_readSell_75 : decode cX9_readSell 75 = .ok (.iload 4, 2) := by decide +kernel
theorem dX9_readSell_77 : decode cX9_readSell 77 = .ok (.invokevirtual 180, 3) := by decide +kernel
theorem dX9_readSell_80 : decode cX9_readSell 80 = .ok (.pop, 1) := by decide +kernel
theorem dX9_readSell_81 : decode cX9_readSell 81 = .ok (.return_, 1) := by decide +kernel
theorem dX9_readVisit_0 : decode cX9_readVisit 0 = .ok (.aload_n 0, 1) := by decide +kernel
theorem dX9_readVisit_1 : decode cX9_readVisit 1 = .ok (.iconst 0, 1) := by decide +kernel
theorem dX9_readVisit_2 : decode cX9_readVisit 2 = .ok (.aload_n 0, 1) := by decide +kernel
theorem dX9_readVisit_3 : decode cX9_readVisit 3 = .ok (.getfield 12, 3) := by decide +kernel
theorem dX9_readVisit_6 : decode cX9_readVisit 6 = .ok (.getfield 183, 3) := by decide +kernel
theorem dX9_readVisit_9 : decode cX9_readVisit 9 = .ok (.getfield 187, 3) := by decide +kernel
theorem dX9_readVisit_12 : decode cX9_readVisit 12 = .ok (.iconst 1, 1) := by decide +kernel
theorem dX9_readVisit_13 : decode cX9_readVisit 13 = .ok (.isub, 1) := by decide +kernel
theorem dX9_readVisit_14 : decode cX9_readVisit 14 = .ok (.invokevirtual 141, 3) := by decide +kernel
theorem dX9_readVisit_17 : decode cX9_readVisit 17 = .ok (.istore_n 1, 1) := by decide +kernel
theorem dX9_readVisit_18 : decode cX9_readVisit 18 = .ok (.aload_n 0, 1) := by decide +kernel
theorem dX9_readVisit_19 : decode cX9_readVisit 19 = .ok (.iconst 0, 1) := by decide +kernel
theorem dX9_readVisit_20 : decode cX9_readVisit 20 = .ok (.aload_n 0, 1) := by decide +kernel
theorem dX9_readVisit_21 : decode cX9_readVisit 21 = .ok (.getfield 12, 3) := by decide +kernel
theorem dX9_readVisit_24 : decode cX9_readVisit 24 = .ok (.getfield 147, 3) := by decide +kernel
theorem dX9_readVisit_27 : decode cX9_readVisit 27 = .ok (.getfield 192, 3) := by decide +kernel
theorem dX9_readVisit_30 : decode cX9_readVisit 30 = .ok (.iconst 1, 1) := by decide +kernel
theorem dX9_readVisit_31 : decode cX9_readVisit 31 = .ok (.isub, 1) := by decide +kernel
theorem dX9_readVisit_32 : decode cX9_readVisit 32 = .ok (.invokevirtual 141, 3) := by decide +kernel
theorem dX9_readVisit_35 : decode cX9_readVisit 35 = .ok (.istore_n 2, 1) := by decide +kernel
theorem dX9_readVisit_36 : decode cX9_readVisit 36 = .ok (.aload_n 0, 1) := by decide +kernel
theorem dX9_readVisit_37 : decode cX9_readVisit 37 = .ok (.invokevirtual 144, 3) := by decide +kernel
theorem dX9_readVisit_40 : decode cX9_readVisit 40 = .ok (.ifCond .eq 25, 3) := by decide +kernel
theorem dX9_readVisit_43 : decode cX9_readVisit 43 = .ok (.aload_n 0, 1) := by decide +kernel
theorem dX9_readVisit_44 : decode cX9_readVisit 44 = .ok (.aload_n 0, 1) := by decide +kernel
theorem dX9_readVisit_45 : decode cX9_readVisit 45 = .ok (.getfield 12, 3) := by decide +kernel
theorem dX9_readVisit_48 : decode cX9_readVisit 48 = .ok (.iload_n 1, 1) := by decide +kernel
theorem dX9_readVisit_49 : decode cX9_readVisit 49 = .ok (.iload_n 2, 1) := by decide +kernel
theorem dX9_readVisit_50 : decode cX9_readVisit 50 = .ok (.invokevirtual 193, 3) := by decide +kernel
theorem dX9_readVisit_53 : decode cX9_readVisit 53 = .ok (.ifCond .ne 7, 3) := by decide +kernel
theorem dX9_readVisit_56 : decode cX9_readVisit 56 = .ok (.iconst 1, 1) := by decide +kernel
theorem dX9_readVisit_57 : decode cX9_readVisit 57 = .ok (.goto 4, 3) := by decide +kernel
theorem dX9_readVisit_60 : decode cX9_readVisit 60 = .ok (.iconst 0, 1) := by decide +kernel
theorem dX9_readVisit_61 : decode cX9_readVisit 61 = .ok (.invokevirtual 154, 3) := by decide +kernel
theorem dX9_readVisit_64 : decode cX9_readVisit 64 = .ok (.pop, 1) := by decide +kernel
theorem dX9_readVisit_65 : decode cX9_readVisit 65 = .ok (.return_, 1) := by decide +kernel
theorem dX9_readPluck_0 : decode cX9_readPluck 0 = .ok (.aload_n 0, 1) := by decide +kernel
theorem dX9_readPluck_1 : decode cX9_readPluck 1 = .ok (.iconst 0, 1) := by decide +kernel
theorem dX9_readPluck_2 : decode cX9_readPluck 2 = .ok (.aload_n 0, 1) := by decide +kernel
theorem dX9_readPluck_3 : decode cX9_readPluck 3 = .ok (.getfield 12, 3) := by decide +kernel
theorem dX9_readPluck_6 : decode cX9_readPluck 6 = .ok (.getfield 183, 3) := by decide +kernel
theorem dX9_readPluck_9 : decode cX9_readPluck 9 = .ok (.getfield 187, 3) := by decide +kernel
theorem dX9_readPluck_12 : decode cX9_readPluck 12 = .ok (.iconst 1, 1) := by decide +kernel
theorem dX9_readPluck_13 : decode cX9_readPluck 13 = .ok (.isub, 1) := by decide +kernel
theorem dX9_readPluck_14 : decode cX9_readPluck 14 = .ok (.invokevirtual 141, 3) := by decide +kernel
theorem dX9_readPluck_17 : decode cX9_readPluck 17 = .ok (.istore_n 1, 1) := by decide +kernel
theorem dX9_readPluck_18 : decode cX9_readPluck 18 = .ok (.aload_n 0, 1) := by decide +kernel
theorem dX9_readPluck_19 : decode cX9_readPluck 19 = .ok (.iconst 1, 1) := by decide +kernel
theorem dX9_readPluck_20 : decode cX9_readPluck 20 = .ok (.bipush 9, 2) := by decide +kernel
theorem dX9_readPluck_22 : decode cX9_readPluck 22 = .ok (.invokevirtual 141, 3) := by decide +kernel
theorem dX9_readPluck_25 : decode cX9_readPluck 25 = .ok (.istore_n 2, 1) := by decide +kernel
theorem dX9_readPluck_26 : decode cX9_readPluck 26 = .ok (.aload_n 0, 1) := by decide +kernel
theorem dX9_readPluck_27 : decode cX9_readPluck 27 = .ok (.invokevirtual 144, 3) := by decide +kernel
theorem dX9_readPluck_30 : decode cX9_readPluck 30 = .ok (.ifCond .eq 29, 3) := by decide +kernel
theorem dX9_readPluck_33 : decode cX9_readPluck 33 = .ok (.aload_n 0, 1) := by decide +kernel
theorem dX9_readPluck_34 : decode cX9_readPluck 34 = .ok (.aload_n 0, 1) := by decide +kernel
theorem dX9_readPluck_35 : decode cX9_readPluck 35 = .ok (.getfield 12, 3) := by decide +kernel
theorem dX9_readPluck_38 : decode cX9_readPluck 38 = .ok (.iload_n 1, 1) := by decide +kernel
theorem dX9_readPluck_39 : decode cX9_readPluck 39 = .ok (.iload_n 2, 1) := by decide +kernel
theorem dX9_readPluck_40 : decode cX9_readPluck 40 = .ok (.invokevirtual 196, 3) := by decide +kernel
theorem dX9_readPluck_43 : decode cX9_readPluck 43 = .ok (.invokevirtual 154, 3) := by decide +kernel
theorem dX9_readPluck_46 : decode cX9_readPluck 46 = .ok (.ifCond .eq 13, 3) := by decide +kernel
theorem dX9_readPluck_49 : decode cX9_readPluck 49 = .ok (.aload_n 0, 1) := by decide +kernel
theorem dX9_readPluck_50 : decode cX9_readPluck 50 = .ok (.getfield 12, 3) := by decide +kernel
theorem dX9_readPluck_53 : decode cX9_readPluck 53 = .ok (.iload_n 1, 1) := by decide +kernel
theorem dX9_readPluck_54 : decode cX9_readPluck 54 = .ok (.iload_n 2, 1) := by decide +kernel
theorem dX9_readPluck_55 : decode cX9_readPluck 55 = .ok (.invokevirtual 200, 3) := by decide +kernel
theorem dX9_readPluck_58 : decode cX9_readPluck 58 = .ok (.pop, 1) := by decide +kernel
theorem dX9_readPluck_59 : decode cX9_readPluck 59 = .ok (.return_, 1) := by decide +kernel
theorem dX9_readPay_0 : decode cX9_readPay 0 = .ok (.aload_n 0, 1) := by decide +kernel
theorem dX9_readPay_1 : decode cX9_readPay 1 = .ok (.iconst 0, 1) := by decide +kernel
theorem dX9_readPay_2 : decode cX9_readPay 2 = .ok (.aload_n 0, 1) := by decide +kernel
theorem dX9_readPay_3 : decode cX9_readPay 3 = .ok (.getfield 12, 3) := by decide +kernel
theorem dX9_readPay_6 : decode cX9_readPay 6 = .ok (.getfield 203, 3) := by decide +kernel
theorem dX9_readPay_9 : decode cX9_readPay 9 = .ok (.getfield 207, 3) := by decide +kernel
theorem dX9_readPay_12 : decode cX9_readPay 12 = .ok (.iconst 1, 1) := by decide +kernel
theorem dX9_readPay_13 : decode cX9_readPay 13 = .ok (.isub, 1) := by decide +kernel
theorem dX9_readPay_14 : decode cX9_readPay 14 = .ok (.invokevirtual 141, 3) := by decide +kernel
theorem dX9_readPay_17 : decode cX9_readPay 17 = .ok (.istore_n 1, 1) := by decide +kernel
theorem dX9_readPay_18 : decode cX9_readPay 18 = .ok (.aload_n 0, 1) := by decide +kernel
theorem dX9_readPay_19 : decode cX9_readPay 19 = .ok (.iconst 1, 1) := by decide +kernel
theorem dX9_readPay_20 : decode cX9_readPay 20 = .ok (.sipush 9999, 3) := by decide +kernel
theorem dX9_readPay_23 : decode cX9_readPay 23 = .ok (.invokevirtual 141, 3) := by decide +kernel
theorem dX9_readPay_26 : decode cX9_readPay 26 = .ok (.istore_n 2, 1) := by decide +kernel
theorem dX9_readPay_27 : decode cX9_readPay 27 = .ok (.aload_n 0, 1) := by decide +kernel
theorem dX9_readPay_28 : decode cX9_readPay 28 = .ok (.invokevirtual 144, 3) := by decide +kernel
theorem dX9_readPay_31 : decode cX9_readPay 31 = .ok (.ifCond .eq 40, 3) := by decide +kernel
theorem dX9_readPay_34 : decode cX9_readPay 34 = .ok (.aload_n 0, 1) := by decide +kernel
theorem dX9_readPay_35 : decode cX9_readPay 35 = .ok (.aload_n 0, 1) := by decide +kernel
theorem dX9_readPay_36 : decode cX9_readPay 36 = .ok (.getfield 12, 3) := by decide +kernel
theorem dX9_readPay_39 : decode cX9_readPay 39 = .ok (.getfield 203, 3) := by decide +kernel
theorem dX9_readPay_42 : decode cX9_readPay 42 = .ok (.getfield 210, 3) := by decide +kernel
theorem dX9_readPay_45 : decode cX9_readPay 45 = .ok (.iload_n 1, 1) := by decide +kernel
theorem dX9_readPay_46 : decode cX9_readPay 46 = .ok (.iaload, 1) := by decide +kernel
theorem dX9_readPay_47 : decode cX9_readPay 47 = .ok (.iload_n 2, 1) := by decide +kernel
theorem dX9_readPay_48 : decode cX9_readPay 48 = .ok (.if_icmp .lt 7, 3) := by decide +kernel
theorem dX9_readPay_51 : decode cX9_readPay 51 = .ok (.iconst 1, 1) := by decide +kernel
theorem dX9_readPay_52 : decode cX9_readPay 52 = .ok (.goto 4, 3) := by decide +kernel
theorem dX9_readPay_55 : decode cX9_readPay 55 = .ok (.iconst 0, 1) := by decide +kernel
theorem dX9_readPay_56 : decode cX9_readPay 56 = .ok (.invokevirtual 154, 3) := by decide +kernel
theorem dX9_readPay_59 : decode cX9_readPay 59 = .ok (.ifCond .eq 12, 3) := by decide +kernel
theorem dX9_readPay_62 : decode cX9_readPay 62 = .ok (.aload_n 0, 1) := by decide +kernel
theorem dX9_readPay_63 : decode cX9_readPay 63 = .ok (.getfield 12, 3) := by decide +kernel
theorem dX9_readPay_66 : decode cX9_readPay 66 = .ok (.iload_n 1, 1) := by decide +kernel
theorem dX9_readPay_67 : decode cX9_readPay 67 = .ok (.iload_n 2, 1) := by decide +kernel
theorem dX9_readPay_68 : decode cX9_readPay 68 = .ok (.invokevirtual 214, 3) := by decide +kernel
theorem dX9_readPay_71 : decode cX9_readPay 71 = .ok (.return_, 1) := by decide +kernel
theorem dX9_readLost_0 : decode cX9_readLost 0 = .ok (.aload_n 0, 1) := by decide +kernel
theorem dX9_readLost_1 : decode cX9_readLost 1 = .ok (.iconst 0, 1) := by decide +kernel
theorem dX9_readLost_2 : decode cX9_readLost 2 = .ok (.aload_n 0, 1) := by decide +kernel
theorem dX9_readLost_3 : decode cX9_readLost 3 = .ok (.getfield 12, 3) := by decide +kernel
theorem dX9_readLost_6 : decode cX9_readLost 6 = .ok (.getfield 203, 3) := by decide +kernel
theorem dX9_readLost_9 : decode cX9_readLost 9 = .ok (.getfield 207, 3) := by decide +kernel
theorem dX9_readLost_12 : decode cX9_readLost 12 = .ok (.iconst 1, 1) := by decide +kernel
theorem dX9_readLost_13 : decode cX9_readLost 13 = .ok (.isub, 1) := by decide +kernel
theorem dX9_readLost_14 : decode cX9_readLost 14 = .ok (.invokevirtual 141, 3) := by decide +kernel
theorem dX9_readLost_17 : decode cX9_readLost 17 = .ok (.istore_n 1, 1) := by decide +kernel
theorem dX9_readLost_18 : decode cX9_readLost 18 = .ok (.aload_n 0, 1) := by decide +kernel
theorem dX9_readLost_19 : decode cX9_readLost 19 = .ok (.invokevirtual 144, 3) := by decide +kernel
theorem dX9_readLost_22 : decode cX9_readLost 22 = .ok (.ifCond .eq 30, 3) := by decide +kernel
theorem dX9_readLost_25 : decode cX9_readLost 25 = .ok (.aload_n 0, 1) := by decide +kernel
theorem dX9_readLost_26 : decode cX9_readLost 26 = .ok (.aload_n 0, 1) := by decide +kernel
theorem dX9_readLost_27 : decode cX9_readLost 27 = .ok (.getfield 12, 3) := by decide +kernel
theorem dX9_readLost_30 : decode cX9_readLost 30 = .ok (.getfield 203, 3) := by decide +kernel
theorem dX9_readLost_33 : decode cX9_readLost 33 = .ok (.iload_n 1, 1) := by decide +kernel
theorem dX9_readLost_34 : decode cX9_readLost 34 = .ok (.invokevirtual 218, 3) := by decide +kernel
theorem dX9_readLost_37 : decode cX9_readLost 37 = .ok (.invokevirtual 154, 3) := by decide +kernel
theorem dX9_readLost_40 : decode cX9_readLost 40 = .ok (.ifCond .eq 12, 3) := by decide +kernel
theorem dX9_readLost_43 : decode cX9_readLost 43 = .ok (.aload_n 0, 1) := by decide +kernel
theorem dX9_readLost_44 : decode cX9_readLost 44 = .ok (.getfield 12, 3) := by decide +kernel
theorem dX9_readLost_47 : decode cX9_readLost 47 = .ok (.iload_n 1, 1) := by decide +kernel
theorem dX9_readLost_48 : decode cX9_readLost 48 = .ok (.invokevirtual 222, 3) := by decide +kernel
theorem dX9_readLost_51 : decode cX9_readLost 51 = .ok (.pop, 1) := by decide +kernel
theorem dX9_readLost_52 : decode cX9_readLost 52 = .ok (.return_, 1) := by decide +kernel
theorem dX9_readReplace_0 : decode cX9_readReplace 0 = .ok (.aload_n 0, 1) := by decide +kernel
theorem dX9_readReplace_1 : decode cX9_readReplace 1 = .ok (.iconst 0, 1) := by decide +kernel
theorem dX9_readReplace_2 : decode cX9_readReplace 2 = .ok (.aload_n 0, 1) := by decide +kernel
theorem dX9_readReplace_3 : decode cX9_readReplace 3 = .ok (.getfield 12, 3) := by decide +kernel
theorem dX9_readReplace_6 : decode cX9_readReplace 6 = .ok (.getfield 203, 3) := by decide +kernel
theorem dX9_readReplace_9 : decode cX9_readReplace 9 = .ok (.getfield 207, 3) := by decide +kernel
theorem dX9_readReplace_12 : decode cX9_readReplace 12 = .ok (.iconst 1, 1) := by decide +kernel
theorem dX9_readReplace_13 : decode cX9_readReplace 13 = .ok (.isub, 1) := by decide +kernel
theorem dX9_readReplace_14 : decode cX9_readReplace 14 = .ok (.invokevirtual 141, 3) := by decide +kernel
theorem dX9_readReplace_17 : decode cX9_readReplace 17 = .ok (.istore_n 1, 1) := by decide +kernel
theorem dX9_readReplace_18 : decode cX9_readReplace 18 = .ok (.aload_n 0, 1) := by decide +kernel
theorem dX9_readReplace_19 : decode cX9_readReplace 19 = .ok (.invokevirtual 144, 3) := by decide +kernel
theorem dX9_readReplace_22 : decode cX9_readReplace 22 = .ok (.ifCond .eq 27, 3) := by decide +kernel
theorem dX9_readReplace_25 : decode cX9_readReplace 25 = .ok (.aload_n 0, 1) := by decide +kernel
theorem dX9_readReplace_26 : decode cX9_readReplace 26 = .ok (.aload_n 0, 1) := by decide +kernel
theorem dX9_readReplace_27 : decode cX9_readReplace 27 = .ok (.getfield 12, 3) := by decide +kernel
theorem dX9_readReplace_30 : decode cX9_readReplace 30 = .ok (.iload_n 1, 1) := by decide +kernel
theorem dX9_readReplace_31 : decode cX9_readReplace 31 = .ok (.invokevirtual 226, 3) := by decide +kernel
theorem dX9_readReplace_34 : decode cX9_readReplace 34 = .ok (.invokevirtual 154, 3) := by decide +kernel
theorem dX9_readReplace_37 : decode cX9_readReplace 37 = .ok (.ifCond .eq 12, 3) := by decide +kernel
theorem dX9_readReplace_40 : decode cX9_readReplace 40 = .ok (.aload_n 0, 1) := by decide +kernel
theorem dX9_readReplace_41 : decode cX9_readReplace 41 = .ok (.getfield 12, 3) := by decide +kernel
theorem dX9_readReplace_44 : decode cX9_readReplace 44 = .ok (.iload_n 1, 1) := by decide +kernel
theorem dX9_readReplace_45 : decode cX9_readReplace 45 = .ok (.invokevirtual 229, 3) := by decide +kernel
theorem dX9_readReplace_48 : decode cX9_readReplace 48 = .ok (.pop, 1) := by decide +kernel
theorem dX9_readReplace_49 : decode cX9_readReplace 49 = .ok (.return_, 1) := by decide +kernel
theorem dX9_readPeacocks_0 : decode cX9_readPeacocks 0 = .ok (.aload_n 0, 1) := by decide +kernel
theorem dX9_readPeacocks_1 : decode cX9_readPeacocks 1 = .ok (.iconst 0, 1) := by decide +kernel
theorem dX9_readPeacocks_2 : decode cX9_readPeacocks 2 = .ok (.bipush 95, 2) := by decide +kernel
theorem dX9_readPeacocks_4 : decode cX9_readPeacocks 4 = .ok (.invokevirtual 141, 3) := by decide +kernel
theorem dX9_readPeacocks_7 : decode cX9_readPeacocks 7 = .ok (.istore_n 1, 1) := by decide +kernel
theorem dX9_readPeacocks_8 : decode cX9_readPeacocks 8 = .ok (.aload_n 0, 1) := by decide +kernel
theorem dX9_readPeacocks_9 : decode cX9_readPeacocks 9 = .ok (.iload_n 1, 1) := by decide +kernel
theorem dX9_readPeacocks_10 : decode cX9_readPeacocks 10 = .ok (.bipush 95, 2) := by decide +kernel
theorem dX9_readPeacocks_12 : decode cX9_readPeacocks 12 = .ok (.invokevirtual 141, 3) := by decide +kernel
theorem dX9_readPeacocks_15 : decode cX9_readPeacocks 15 = .ok (.istore_n 2, 1) := by decide +kernel
theorem dX9_readPeacocks_16 : decode cX9_readPeacocks 16 = .ok (.aload_n 0, 1) := by decide +kernel
theorem dX9_readPeacocks_17 : decode cX9_readPeacocks 17 = .ok (.invokevirtual 144, 3) := by decide +kernel
theorem dX9_readPeacocks_20 : decode cX9_readPeacocks 20 = .ok (.ifCond .eq 15, 3) := by decide +kernel
theorem dX9_readPeacocks_23 : decode cX9_readPeacocks 23 = .ok (.aload_n 0, 1) := by decide +kernel
theorem dX9_readPeacocks_24 : decode cX9_readPeacocks 24 = .ok (.getfield 12, 3) := by decide +kernel
theorem dX9_readPeacocks_27 : decode cX9_readPeacocks 27 = .ok (.getfield 165, 3) := by decide +kernel
theorem dX9_readPeacocks_30 : decode cX9_readPeacocks 30 = .ok (.iload_n 1, 1) := by decide +kernel
theorem dX9_readPeacocks_31 : decode cX9_readPeacocks 31 = .ok (.iload_n 2, 1) := by decide +kernel
theorem dX9_readPeacocks_32 : decode cX9_readPeacocks 32 = .ok (.invokevirtual 232, 3) := by decide +kernel
theorem dX9_readPeacocks_35 : decode cX9_readPeacocks 35 = .ok (.return_, 1) := by decide +kernel
theorem dX9_readPass_0 : decode cX9_readPass 0 = .ok (.aload_n 0, 1) := by decide +kernel
theorem dX9_readPass_1 : decode cX9_readPass 1 = .ok (.iconst 1, 1) := by decide +kernel
theorem dX9_readPass_2 : decode cX9_readPass 2 = .ok (.sipush 500, 3) := by decide +kernel
theorem dX9_readPass_5 : decode cX9_readPass 5 = .ok (.invokevirtual 141, 3) := by decide +kernel
theorem dX9_readPass_8 : decode cX9_readPass 8 = .ok (.istore_n 1, 1) := by decide +kernel
theorem dX9_readPass_9 : decode cX9_readPass 9 = .ok (.aload_n 0, 1) := by decide +kernel
theorem dX9_readPass_10 : decode cX9_readPass 10 = .ok (.invokevirtual 144, 3) := by decide +kernel
theorem dX9_readPass_13 : decode cX9_readPass 13 = .ok (.ifCond .eq 29, 3) := by decide +kernel
theorem dX9_readPass_16 : decode cX9_readPass 16 = .ok (.aload_n 0, 1) := by decide +kernel
theorem dX9_readPass_17 : decode cX9_readPass 17 = .ok (.aload_n 0, 1) := by decide +kernel
theorem dX9_readPass_18 : decode cX9_readPass 18 = .ok (.getfield 12, 3) := by decide +kernel
theorem dX9_readPass_21 : decode cX9_readPass 21 = .ok (.getfield 165, 3) := by decide +kernel
theorem dX9_readPass_24 : decode cX9_readPass 24 = .ok (.iload_n 1, 1) := by decide +kernel
theorem dX9_readPass_25 : decode cX9_readPass 25 = .ok (.invokevirtual 235, 3) := by decide +kernel
theorem dX9_readPass_28 : decode cX9_readPass 28 = .ok (.invokevirtual 154, 3) := by decide +kernel
theorem dX9_readPass_31 : decode cX9_readPass 31 = .ok (.ifCond .eq 11, 3) := by decide +kernel
theorem dX9_readPass_34 : decode cX9_readPass 34 = .ok (.aload_n 0, 1) := by decide +kernel
theorem dX9_readPass_35 : decode cX9_readPass 35 = .ok (.getfield 12, 3) := by decide +kernel
theorem dX9_readPass_38 : decode cX9_readPass 38 = .ok (.iload_n 1, 1) := by decide +kernel
theorem dX9_readPass_39 : decode cX9_readPass 39 = .ok (.invokevirtual 238, 3) := by decide +kernel
theorem dX9_readPass_42 : decode cX9_readPass 42 = .ok (.return_, 1) := by decide +kernel
theorem dX9_readRefund_0 : decode cX9_readRefund 0 = .ok (.aload_n 0, 1) := by decide +kernel
theorem dX9_readRefund_1 : decode cX9_readRefund 1 = .ok (.iconst 0, 1) := by decide +kernel
theorem dX9_readRefund_2 : decode cX9_readRefund 2 = .ok (.aload_n 0, 1) := by decide +kernel
theorem dX9_readRefund_3 : decode cX9_readRefund 3 = .ok (.getfield 12, 3) := by decide +kernel
theorem dX9_readRefund_6 : decode cX9_readRefund 6 = .ok (.getfield 203, 3) := by decide +kernel
theorem dX9_readRefund_9 : decode cX9_readRefund 9 = .ok (.getfield 207, 3) := by decide +kernel
theorem dX9_readRefund_12 : decode cX9_readRefund 12 = .ok (.iconst 1, 1) := by decide +kernel
theorem dX9_readRefund_13 : decode cX9_readRefund 13 = .ok (.isub, 1) := by decide +kernel
theorem dX9_readRefund_14 : decode cX9_readRefund 14 = .ok (.invokevirtual 141, 3) := by decide +kernel
theorem dX9_readRefund_17 : decode cX9_readRefund 17 = .ok (.istore_n 1, 1) := by decide +kernel
theorem dX9_readRefund_18 : decode cX9_readRefund 18 = .ok (.aload_n 0, 1) := by decide +kernel
theorem dX9_readRefund_19 : decode cX9_readRefund 19 = .ok (.invokevirtual 144, 3) := by decide +kernel
theorem dX9_readRefund_22 : decode cX9_readRefund 22 = .ok (.ifCond .eq 39, 3) := by decide +kernel
theorem dX9_readRefund_25 : decode cX9_readRefund 25 = .ok (.aload_n 0, 1) := by decide +kernel
theorem dX9_readRefund_26 : decode cX9_readRefund 26 = .ok (.aload_n 0, 1) := by decide +kernel
theorem dX9_readRefund_27 : decode cX9_readRefund 27 = .ok (.getfield 12, 3) := by decide +kernel
theorem dX9_readRefund_30 : decode cX9_readRefund 30 = .ok (.getfield 203, 3) := by decide +kernel
theorem dX9_readRefund_33 : decode cX9_readRefund 33 = .ok (.getfield 241, 3) := by decide +kernel
theorem dX9_readRefund_36 : decode cX9_readRefund 36 = .ok (.iload_n 1, 1) := by decide +kernel
theorem dX9_readRefund_37 : decode cX9_readRefund 37 = .ok (.baload, 1) := by decide +kernel
theorem dX9_readRefund_38 : decode cX9_readRefund 38 = .ok (.ifCond .ne 7, 3) := by decide +kernel
theorem dX9_readRefund_41 : decode cX9_readRefund 41 = .ok (.iconst 1, 1) := by decide +kernel
theorem dX9_readRefund_42 : decode cX9_readRefund 42 = .ok (.goto 4, 3) := by decide +kernel
theorem dX9_readRefund_45 : decode cX9_readRefund 45 = .ok (.iconst 0, 1) := by decide +kernel
theorem dX9_readRefund_46 : decode cX9_readRefund 46 = .ok (.invokevirtual 154, 3) := by decide +kernel
theorem dX9_readRefund_49 : decode cX9_readRefund 49 = .ok (.ifCond .eq 12, 3) := by decide +kernel
theorem dX9_readRefund_52 : decode cX9_readRefund 52 = .ok (.aload_n 0, 1) := by decide +kernel
theorem dX9_readRefund_53 : decode cX9_readRefund 53 = .ok (.getfield 12, 3) := by decide +kernel
theorem dX9_readRefund_56 : decode cX9_readRefund 56 = .ok (.iload_n 1, 1) := by decide +kernel
theorem dX9_readRefund_57 : decode cX9_readRefund 57 = .ok (.invokevirtual 245, 3) := by decide +kernel
theorem dX9_readRefund_60 : decode cX9_readRefund 60 = .ok (.pop, 1) := by decide +kernel
theorem dX9_readRefund_61 : decode cX9_readRefund 61 = .ok (.return_, 1) := by decide +kernel
theorem dX9_nextKind_0 : decode cX9_nextKind 0 = .ok (.aload_n 0, 1) := by decide +kernel
theorem dX9_nextKind_1 : decode cX9_nextKind 1 = .ok (.getfield 25, 3) := by decide +kernel
theorem dX9_nextKind_4 : decode cX9_nextKind 4 = .ok (.ifCond .ne 39, 3) := by decide +kernel
theorem dX9_nextKind_7 : decode cX9_nextKind 7 = .ok (.aload_n 0, 1) := by decide +kernel
theorem dX9_nextKind_8 : decode cX9_nextKind 8 = .ok (.getfield 21, 3) := by decide +kernel
theorem dX9_nextKind_11 : decode cX9_nextKind 11 = .ok (.invokevirtual 63, 3) := by decide +kernel
theorem dX9_nextKind_14 : decode cX9_nextKind 14 = .ok (.aload_n 0, 1) := by decide +kernel
theorem dX9_nextKind_15 : decode cX9_nextKind 15 = .ok (.getfield 21, 3) := by decide +kernel
theorem dX9_nextKind_18 : decode cX9_nextKind 18 = .ok (.ldc 248, 2) := by decide +kernel
theorem dX9_nextKind_20 : decode cX9_nextKind 20 = .ok (.invokevirtual 55, 3) := by decide +kernel
theorem dX9_nextKind_23 : decode cX9_nextKind 23 = .ok (.ifCond .ne 20, 3) := by decide +kernel
theorem dX9_nextKind_26 : decode cX9_nextKind 26 = .ok (.aload_n 0, 1) := by decide +kernel
theorem dX9_nextKind_27 : decode cX9_nextKind 27 = .ok (.getfield 21, 3) := by decide +kernel
theorem dX9_nextKind_30 : decode cX9_nextKind 30 = .ok (.ldc 250, 2) := by decide +kernel
theorem dX9_nextKind_32 : decode cX9_nextKind 32 = .ok (.invokevirtual 55, 3) := by decide +kernel
theorem dX9_nextKind_35 : decode cX9_nextKind 35 = .ok (.ifCond .ne 8, 3) := by decide +kernel
theorem dX9_nextKind_38 : decode cX9_nextKind 38 = .ok (.aload_n 0, 1) := by decide +kernel
theorem dX9_nextKind_39 : decode cX9_nextKind 39 = .ok (.iconst 1, 1) := by decide +kernel
theorem dX9_nextKind_40 : decode cX9_nextKind 40 = .ok (.invokevirtual 59, 3) := by decide +kernel
theorem dX9_nextKind_43 : decode cX9_nextKind 43 = .ok (.aload_n 0, 1) := by decide +kernel
theorem dX9_nextKind_44 : decode cX9_nextKind 44 = .ok (.getfield 21, 3) := by decide +kernel
theorem dX9_nextKind_47 : decode cX9_nextKind 47 = .ok (.ldc 250, 2) := by decide +kernel
theorem dX9_nextKind_49 : decode cX9_nextKind 49 = .ok (.invokevirtual 55, 3) := by decide +kernel
theorem dX9_nextKind_52 : decode cX9_nextKind 52 = .ok (.ifCond .eq 7, 3) := by decide +kernel
theorem dX9_nextKind_55 : decode cX9_nextKind 55 = .ok (.iconst 1, 1) := by decide +kernel
theorem dX9_nextKind_56 : decode cX9_nextKind 56 = .ok (.goto 4, 3) := by decide +kernel
theorem dX9_nextKind_59 : decode cX9_nextKind 59 = .ok (.iconst 0, 1) := by decide +kernel
theorem dX9_nextKind_60 : decode cX9_nextKind 60 = .ok (.ireturn, 1) := by decide +kernel
theorem dX9_nextNumber_0 : decode cX9_nextNumber 0 = .ok (.aload_n 0, 1) := by decide +kernel
theorem dX9_nextNumber_1 : decode cX9_nextNumber 1 = .ok (.getfield 25, 3) := by decide +kernel
theorem dX9_nextNumber_4 : decode cX9_nextNumber 4 = .ok (.ifCond .ne 10, 3) := by decide +kernel
theorem dX9_nextNumber_7 : decode cX9_nextNumber 7 = .ok (.aload_n 0, 1) := by decide +kernel
theorem dX9_nextNumber_8 : decode cX9_nextNumber 8 = .ok (.getfield 21, 3) := by decide +kernel
theorem dX9_nextNumber_11 : decode cX9_nextNumber 11 = .ok (.invokevirtual 63, 3) := by decide +kernel
theorem dX9_nextNumber_14 : decode cX9_nextNumber 14 = .ok (.aload_n 0, 1) := by decide +kernel
theorem dX9_nextNumber_15 : decode cX9_nextNumber 15 = .ok (.iload_n 1, 1) := by decide +kernel
theorem dX9_nextNumber_16 : decode cX9_nextNumber 16 = .ok (.iload_n 2, 1) := by decide +kernel
theorem dX9_nextNumber_17 : decode cX9_nextNumber 17 = .ok (.invokevirtual 72, 3) := by decide +kernel
theorem dX9_nextNumber_20 : decode cX9_nextNumber 20 = .ok (.ireturn, 1) := by decide +kernel
theorem dX9_numberHere_0 : decode cX9_numberHere 0 = .ok (.aload_n 0, 1) := by decide +kernel
theorem dX9_numberHere_1 : decode cX9_numberHere 1 = .ok (.getfield 21, 3) := by decide +kernel
theorem dX9_numberHere_4 : decode cX9_numberHere 4 = .ok (.getfield 48, 3) := by decide +kernel
theorem dX9_numberHere_7 : decode cX9_numberHere 7 = .ok (.iconst 1, 1) := by decide +kernel
theorem dX9_numberHere_8 : decode cX9_numberHere 8 = .ok (.if_icmp .eq 10, 3) := by decide +kernel
theorem dX9_numberHere_11 : decode cX9_numberHere 11 = .ok (.aload_n 0, 1) := by decide +kernel
theorem dX9_numberHere_12 : decode cX9_numberHere 12 = .ok (.iconst 1, 1) := by decide +kernel
theorem dX9_numberHere_13 : decode cX9_numberHere 13 = .ok (.invokevirtual 59, 3) := by decide +kernel
theorem dX9_numberHere_16 : decode cX9_numberHere 16 = .ok (.iload_n 1, 1) := by decide +kernel
theorem dX9_numberHere_17 : decode cX9_numberHere 17 = .ok (.ireturn, 1) := by decide +kernel
theorem dX9_numberHere_18 : decode cX9_numberHere 18 = .ok (.aload_n 0, 1) := by decide +kernel
theorem dX9_numberHere_19 : decode cX9_numberHere 19 = .ok (.getfield 21, 3) := by decide +kernel
theorem dX9_numberHere_22 : decode cX9_numberHere 22 = .ok (.invokevirtual 252, 3) := by decide +kernel
theorem dX9_numberHere_25 : decode cX9_numberHere 25 = .ok (.istore_n 3, 1) := by decide +kernel
theorem dX9_numberHere_26 : decode cX9_numberHere 26 = .ok (.iload_n 3, 1) := by decide +kernel
theorem dX9_numberHere_27 : decode cX9_numberHere 27 = .ok (.iload_n 1, 1) := by decide +kernel
theorem dX9_numberHere_28 : decode cX9_numberHere 28 = .ok (.if_icmp .lt 8, 3) := by decide +kernel
theorem dX9_numberHere_31 : decode cX9_numberHere 31 = .ok (.iload_n 3, 1) := by decide +kernel
theorem dX9_numberHere_32 : decode cX9_numberHere 32 = .ok (.iload_n 2, 1) := by decide +kernel
theorem dX9_numberHere_33 : decode cX9_numberHere 33 = .ok (.if_icmp .le 8, 3) := by decide +kernel
theorem dX9_numberHere_36 : decode cX9_numberHere 36 = .ok (.aload_n 0, 1) := by decide +kernel
theorem dX9_numberHere_37 : decode cX9_numberHere 37 = .ok (.iconst 2, 1) := by decide +kernel
theorem dX9_numberHere_38 : decode cX9_numberHere 38 = .ok (.invokevirtual 59, 3) := by decide +kernel
theorem dX9_numberHere_41 : decode cX9_numberHere 41 = .ok (.iload_n 3, 1) := by decide +kernel
theorem dX9_numberHere_42 : decode cX9_numberHere 42 = .ok (.ireturn, 1) := by decide +kernel
theorem dX9_isAtSemicolon_0 : decode cX9_isAtSemicolon 0 = .ok (.aload_n 0, 1) := by decide +kernel
theorem dX9_isAtSemicolon_1 : decode cX9_isAtSemicolon 1 = .ok (.getfield 21, 3) := by decide +kernel
theorem dX9_isAtSemicolon_4 : decode cX9_isAtSemicolon 4 = .ok (.getfield 48, 3) := by decide +kernel
theorem dX9_isAtSemicolon_7 : decode cX9_isAtSemicolon 7 = .ok (.iconst 2, 1) := by decide +kernel
theorem dX9_isAtSemicolon_8 : decode cX9_isAtSemicolon 8 = .ok (.if_icmp .eq 8, 3) := by decide +kernel
theorem dX9_isAtSemicolon_11 : decode cX9_isAtSemicolon 11 = .ok (.aload_n 0, 1) := by decide +kernel
theorem dX9_isAtSemicolon_12 : decode cX9_isAtSemicolon 12 = .ok (.iconst 1, 1) := by decide +kernel
theorem dX9_isAtSemicolon_13 : decode cX9_isAtSemicolon 13 = .ok (.invokevirtual 59, 3) := by decide +kernel
theorem dX9_isAtSemicolon_16 : decode cX9_isAtSemicolon 16 = .ok (.aload_n 0, 1) := by decide +kernel
theorem dX9_isAtSemicolon_17 : decode cX9_isAtSemicolon 17 = .ok (.getfield 25, 3) := by decide +kernel
theorem dX9_isAtSemicolon_20 : decode cX9_isAtSemicolon 20 = .ok (.ifCond .ne 7, 3) := by decide +kernel
theorem dX9_isAtSemicolon_23 : decode cX9_isAtSemicolon 23 = .ok (.iconst 1, 1) := by decide +kernel
theorem dX9_isAtSemicolon_24 : decode cX9_isAtSemicolon 24 = .ok (.goto 4, 3) := by decide +kernel
theorem dX9_isAtSemicolon_27 : decode cX9_isAtSemicolon 27 = .ok (.iconst 0, 1) := by decide +kernel
theorem dX9_isAtSemicolon_28 : decode cX9_isAtSemicolon 28 = .ok (.ireturn, 1) := by decide +kernel
theorem dX9_isComplete_0 : decode cX9_isComplete 0 = .ok (.aload_n 0, 1) := by decide +kernel
theorem dX9_isComplete_1 : decode cX9_isComplete 1 = .ok (.getfield 25, 3) := by decide +kernel
theorem dX9_isComplete_4 : decode cX9_isComplete 4 = .ok (.ifCond .ne 10, 3) := by decide +kernel
theorem dX9_isComplete_7 : decode cX9_isComplete 7 = .ok (.aload_n 0, 1) := by decide +kernel
theorem dX9_isComplete_8 : decode cX9_isComplete 8 = .ok (.getfield 21, 3) := by decide +kernel
theorem dX9_isComplete_11 : decode cX9_isComplete 11 = .ok (.invokevirtual 63, 3) := by decide +kernel
theorem dX9_isComplete_14 : decode cX9_isComplete 14 = .ok (.aload_n 0, 1) := by decide +kernel
theorem dX9_isComplete_15 : decode cX9_isComplete 15 = .ok (.invokevirtual 69, 3) := by decide +kernel
theorem dX9_isComplete_18 : decode cX9_isComplete 18 = .ok (.ireturn, 1) := by decide +kernel
theorem dX9_executes_0 : decode cX9_executes 0 = .ok (.iload_n 1, 1) := by decide +kernel
theorem dX9_executes_1 : decode cX9_executes 1 = .ok (.ifCond .ne 8, 3) := by decide +kernel
theorem dX9_executes_4 : decode cX9_executes 4 = .ok (.aload_n 0, 1) := by decide +kernel
theorem dX9_executes_5 : decode cX9_executes 5 = .ok (.iconst 4, 1) := by decide +kernel
theorem dX9_executes_6 : decode cX9_executes 6 = .ok (.invokevirtual 59, 3) := by decide +kernel
theorem dX9_executes_9 : decode cX9_executes 9 = .ok (.iload_n 1, 1) := by decide +kernel
theorem dX9_executes_10 : decode cX9_executes 10 = .ok (.ireturn, 1) := by decide +kernel
theorem dX10_init_0 : decode cX10_init 0 = .ok (.aload_n 0, 1) := by decide +kernel
theorem dX10_init_1 : decode cX10_init 1 = .ok (.invokespecial 3, 3) := by decide +kernel
theorem dX10_init_4 : decode cX10_init 4 = .ok (.aload_n 0, 1) := by decide +kernel
theorem dX10_init_5 : decode cX10_init 5 = .ok (.iconst 5, 1) := by decide +kernel
theorem dX10_init_6 : decode cX10_init 6 = .ok (.newarray .int, 2) := by decide +kernel
theorem dX10_init_8 : decode cX10_init 8 = .ok (.putfield 9, 3) := by decide +kernel
theorem dX10_init_11 : decode cX10_init 11 = .ok (.return_, 1) := by decide +kernel
theorem dX10_reset_0 : decode cX10_reset 0 = .ok (.aload_n 0, 1) := by decide +kernel
theorem dX10_reset_1 : decode cX10_reset 1 = .ok (.iconst 0, 1) := by decide +kernel
theorem dX10_reset_2 : decode cX10_reset 2 = .ok (.putfield 15, 3) := by decide +kernel
theorem dX10_reset_5 : decode cX10_reset 5 = .ok (.aload_n 0, 1) := by decide +kernel
theorem dX10_reset_6 : decode cX10_reset 6 = .ok (.iconst 2, 1) := by decide +kernel
theorem dX10_reset_7 : decode cX10_reset 7 = .ok (.putfield 19, 3) := by decide +kernel
theorem dX10_reset_10 : decode cX10_reset 10 = .ok (.return_, 1) := by decide +kernel
theorem dX10_copyFrom_0 : decode cX10_copyFrom 0 = .ok (.aload_n 0, 1) := by decide +kernel
theorem dX10_copyFrom_1 : decode cX10_copyFrom 1 = .ok (.aload_n 1, 1) := by decide +kernel
theorem dX10_copyFrom_2 : decode cX10_copyFrom 2 = .ok (.getfield 15, 3) := by decide +kernel
theorem dX10_copyFrom_5 : decode cX10_copyFrom 5 = .ok (.putfield 15, 3) := by decide +kernel
theorem dX10_copyFrom_8 : decode cX10_copyFrom 8 = .ok (.aload_n 0, 1) := by decide +kernel
theorem dX10_copyFrom_9 : decode cX10_copyFrom 9 = .ok (.aload_n 1, 1) := by decide +kernel
theorem dX10_copyFrom_10 : decode cX10_copyFrom 10 = .ok (.getfield 19, 3) := by decide +kernel
theorem dX10_copyFrom_13 : decode cX10_copyFrom 13 = .ok (.putfield 19, 3) := by decide +kernel
theorem dX10_copyFrom_16 : decode cX10_copyFrom 16 = .ok (.aload_n 1, 1) := by decide +kernel
theorem dX10_copyFrom_17 : decode cX10_copyFrom 17 = .ok (.getfield 9, 3) := by decide +kernel
theorem dX10_copyFrom_20 : decode cX10_copyFrom 20 = .ok (.iconst 0, 1) := by decide +kernel
theorem dX10_copyFrom_21 : decode cX10_copyFrom 21 = .ok (.aload_n 0, 1) := by decide +kernel
theorem dX10_copyFrom_22 : decode cX10_copyFrom 22 = .ok (.getfield 9, 3) := by decide +kernel
theorem dX10_copyFrom_25 : decode cX10_copyFrom 25 = .ok (.iconst 0, 1) := by decide +kernel
theorem dX10_copyFrom_26 : decode cX10_copyFrom 26 = .ok (.aload_n 0, 1) := by decide +kernel
theorem dX10_copyFrom_27 : decode cX10_copyFrom 27 = .ok (.getfield 15, 3) := by decide +kernel
theorem dX10_copyFrom_30 : decode cX10_copyFrom 30 = .ok (.invokestatic 22, 3) := by decide +kernel
theorem dX10_copyFrom_33 : decode cX10_copyFrom 33 = .ok (.return_, 1) := by decide +kernel
theorem dX10_has_0 : decode cX10_has 0 = .ok (.iload_n 1, 1) := by decide +kernel
theorem dX10_has_1 : decode cX10_has 1 = .ok (.ifCond .lt 15, 3) := by decide +kernel
theorem dX10_has_4 : decode cX10_has 4 = .ok (.iload_n 1, 1) := by decide +kernel
theorem dX10_has_5 : decode cX10_has 5 = .ok (.aload_n 0, 1) := by decide +kernel
theorem dX10_has_6 : decode cX10_has 6 = .ok (.getfield 15, 3) := by decide +kernel
theorem dX10_has_9 : decode cX10_has 9 = .ok (.if_icmp .ge 7, 3) := by decide +kernel
theorem dX10_has_12 : decode cX10_has 12 = .ok (.iconst 1, 1) := by decide +kernel
theorem dX10_has_13 : decode cX10_has 13 = .ok (.goto 4, 3) := by decide +kernel
theorem dX10_has_16 : decode cX10_has 16 = .ok (.iconst 0, 1) := by decide +kernel
theorem dX10_has_17 : decode cX10_has 17 = .ok (.ireturn, 1) := by decide +kernel
theorem dX10_hasRoom_0 : decode cX10_hasRoom 0 = .ok (.aload_n 0, 1) := by decide +kernel
theorem dX10_hasRoom_1 : decode cX10_hasRoom 1 = .ok (.getfield 15, 3) := by decide +kernel
theorem dX10_hasRoom_4 : decode cX10_hasRoom 4 = .ok (.iconst 5, 1) := by decide +kernel
theorem dX10_hasRoom_5 : decode cX10_hasRoom 5 = .ok (.if_icmp .ge 7, 3) := by decide +kernel
theorem dX10_hasRoom_8 : decode cX10_hasRoom 8 = .ok (.iconst 1, 1) := by decide +kernel
theorem dX10_hasRoom_9 : decode cX10_hasRoom 9 = .ok (.goto 4, 3) := by decide +kernel
theorem dX10_hasRoom_12 : decode cX10_hasRoom 12 = .ok (.iconst 0, 1) := by decide +kernel
theorem dX10_hasRoom_13 : decode cX10_hasRoom 13 = .ok (.ireturn, 1) := by decide +kernel
theorem dX10_add_0 : decode cX10_add 0 = .ok (.aload_n 0, 1) := by decide +kernel
theorem dX10_add_1 : decode cX10_add 1 = .ok (.getfield 9, 3) := by decide +kernel
theorem dX10_add_4 : decode cX10_add 4 = .ok (.aload_n 0, 1) := by decide +kernel
theorem dX10_add_5 : decode cX10_add 5 = .ok (.getfield 15, 3) := by decide +kernel
theorem dX10_add_8 : decode cX10_add 8 = .ok (.iload_n 1, 1) := by decide +kernel
theorem dX10_add_9 : decode cX10_add 9 = .ok (.iastore, 1) := by decide +kernel
theorem dX10_add_10 : decode cX10_add 10 = .ok (.aload_n 0, 1) := by decide +kernel
theorem dX10_add_11 : decode cX10_add 11 = .ok (.dup, 1) := by decide +kernel
theorem dX10_add_12 : decode cX10_add 12 = .ok (.getfield 15, 3) := by decide +kernel
theorem dX10_add_15 : decode cX10_add 15 = .ok (.iconst 1, 1) := by decide +kernel
theorem dX10_add_16 : decode cX10_add 16 = .ok (.iadd, 1) := by decide +kernel
theorem dX10_add_17 : decode cX10_add 17 = .ok (.putfield 15, 3) := by decide +kernel
theorem dX10_add_20 : decode cX10_add 20 = .ok (.return_, 1) := by decide +kernel
theorem dX10_setOfAllScents_0 : decode cX10_setOfAllScents 0 = .ok (.iconst 1, 1) := by decide +kernel
theorem dX10_setOfAllScents_1 : decode cX10_setOfAllScents 1 = .ok (.aload_n 0, 1) := by decide +kernel
theorem dX10_setOfAllScents_2 : decode cX10_setOfAllScents 2 = .ok (.getfield 15, 3) := by decide +kernel
theorem dX10_setOfAllScents_5 : decode cX10_setOfAllScents 5 = .ok (.ishl, 1) := by decide +kernel
theorem dX10_setOfAllScents_6 : decode cX10_setOfAllScents 6 = .ok (.iconst 1, 1) := by decide +kernel
theorem dX10_setOfAllScents_7 : decode cX10_setOfAllScents 7 = .ok (.isub, 1) := by decide +kernel
theorem dX10_setOfAllScents_8 : decode cX10_setOfAllScents 8 = .ok (.ireturn, 1) := by decide +kernel
theorem dX10_priceOfPass_0 : decode cX10_priceOfPass 0 = .ok (.iconst 0, 1) := by decide +kernel
theorem dX10_priceOfPass_1 : decode cX10_priceOfPass 1 = .ok (.istore 4, 2) := by decide +kernel
theorem dX10_priceOfPass_3 : decode cX10_priceOfPass 3 = .ok (.iconst 0, 1) := by decide +kernel
theorem dX10_priceOfPass_4 : decode cX10_priceOfPass 4 = .ok (.istore 5, 2) := by decide +kernel
theorem dX10_priceOfPass_6 : decode cX10_priceOfPass 6 = .ok (.iload 5, 2) := by decide +kernel
theorem dX10_priceOfPass_8 : decode cX10_priceOfPass 8 = .ok (.aload_n 0, 1) := by decide +kernel
theorem dX10_priceOfPass_9 : decode cX10_priceOfPass 9 = .ok (.getfield 15, 3) := by decide +kernel
theorem dX10_priceOfPass_12 : decode cX10_priceOfPass 12 = .ok (.if_icmp .ge 31, 3) := by decide +kernel
theorem dX10_priceOfPass_15 : decode cX10_priceOfPass 15 = .ok (.iload_n 1, 1) := by decide +kernel
theorem dX10_priceOfPass_16 : decode cX10_priceOfPass 16 = .ok (.iload 5, 2) := by decide +kernel
theorem dX10_priceOfPass_18 : decode cX10_priceOfPass 18 = .ok (.ishr, 1) := by decide +kernel
theorem dX10_priceOfPass_19 : decode cX10_priceOfPass 19 = .ok (.iconst 1, 1) := by decide +kernel
theorem dX10_priceOfPass_20 : decode cX10_priceOfPass 20 = .ok (.iand, 1) := by decide +kernel
theorem dX10_priceOfPass_21 : decode cX10_priceOfPass 21 = .ok (.iconst 1, 1) := by decide +kernel
theorem dX10_priceOfPass_22 : decode cX10_priceOfPass 22 = .ok (.if_icmp .ne 15, 3) := by decide +kernel
theorem dX10_priceOfPass_25 : decode cX10_priceOfPass 25 = .ok (.iload 4, 2) := by decide +kernel
theorem dX10_priceOfPass_27 : decode cX10_priceOfPass 27 = .ok (.aload_n 0, 1) := by decide +kernel
theorem dX10_priceOfPass_28 : decode cX10_priceOfPass 28 = .ok (.getfield 9, 3) := by decide +kernel
theorem dX10_priceOfPass_31 : decode cX10_priceOfPass 31 = .ok (.iload 5, 2) := by decide +kernel
theorem dX10_priceOfPass_33 : decode cX10_priceOfPass 33 = .ok (.iaload, 1) := by decide +kernel
theorem dX10_priceOfPass_34 : decode cX10_priceOfPass 34 = .ok (.iadd, 1) := by decide +kernel
theorem dX10_priceOfPass_35 : decode cX10_priceOfPass 35 = .ok (.istore 4, 2) := by decide +kernel
theorem dX10_priceOfPass_37 : decode cX10_priceOfPass 37 = .ok (.iinc 5 1, 3) := by decide +kernel
theorem dX10_priceOfPass_40 : decode cX10_priceOfPass 40 = .ok (.goto (-34), 3) := by decide +kernel
theorem dX10_priceOfPass_43 : decode cX10_priceOfPass 43 = .ok (.iload_n 3, 1) := by decide +kernel
theorem dX10_priceOfPass_44 : decode cX10_priceOfPass 44 = .ok (.iconst 1, 1) := by decide +kernel
theorem dX10_priceOfPass_45 : decode cX10_priceOfPass 45 = .ok (.if_icmp .ne 8, 3) := by decide +kernel
theorem dX10_priceOfPass_48 : decode cX10_priceOfPass 48 = .ok (.bipush 60, 2) := by decide +kernel
theorem dX10_priceOfPass_50 : decode cX10_priceOfPass 50 = .ok (.goto 5, 3) := by decide +kernel
theorem dX10_priceOfPass_53 : decode cX10_priceOfPass 53 = .ok (.bipush 100, 2) := by decide +kernel
theorem dX10_priceOfPass_55 : decode cX10_priceOfPass 55 = .ok (.istore 5, 2) := by decide +kernel
theorem dX10_priceOfPass_57 : decode cX10_priceOfPass 57 = .ok (.iload 4, 2) := by decide +kernel
theorem dX10_priceOfPass_59 : decode cX10_priceOfPass 59 = .ok (.iload_n 2, 1) := by decide +kernel
theorem dX10_priceOfPass_60 : decode cX10_priceOfPass 60 = .ok (.imul, 1) := by decide +kernel
theorem dX10_priceOfPass_61 : decode cX10_priceOfPass 61 = .ok (.iload 5, 2) := by decide +kernel
theorem dX10_priceOfPass_63 : decode cX10_priceOfPass 63 = .ok (.imul, 1) := by decide +kernel
theorem dX10_priceOfPass_64 : decode cX10_priceOfPass 64 = .ok (.iload_n 2, 1) := by decide +kernel
theorem dX10_priceOfPass_65 : decode cX10_priceOfPass 65 = .ok (.invokestatic 28, 3) := by decide +kernel
theorem dX10_priceOfPass_68 : decode cX10_priceOfPass 68 = .ok (.imul, 1) := by decide +kernel
theorem dX10_priceOfPass_69 : decode cX10_priceOfPass 69 = .ok (.sipush 10000, 3) := by decide +kernel
theorem dX10_priceOfPass_72 : decode cX10_priceOfPass 72 = .ok (.idiv, 1) := by decide +kernel
theorem dX10_priceOfPass_73 : decode cX10_priceOfPass 73 = .ok (.ireturn, 1) := by decide +kernel
theorem dX10_percentForDays_0 : decode cX10_percentForDays 0 = .ok (.iload_n 0, 1) := by decide +kernel
theorem dX10_percentForDays_1 : decode cX10_percentForDays 1 = .ok (.bipush 6, 2) := by decide +kernel
theorem dX10_percentForDays_3 : decode cX10_percentForDays 3 = .ok (.if_icmp .lt 6, 3) := by decide +kernel
theorem dX10_percentForDays_6 : decode cX10_percentForDays 6 = .ok (.bipush 80, 2) := by decide +kernel
theorem dX10_percentForDays_8 : decode cX10_percentForDays 8 = .ok (.ireturn, 1) := by decide +kernel
theorem dX10_percentForDays_9 : decode cX10_percentForDays 9 = .ok (.iload_n 0, 1) := by decide +kernel
theorem dX10_percentForDays_10 : decode cX10_percentForDays 10 = .ok (.iconst 3, 1) := by decide +kernel
theorem dX10_percentForDays_11 : decode cX10_percentForDays 11 = .ok (.if_icmp .lt 8, 3) := by decide +kernel
theorem dX10_percentForDays_14 : decode cX10_percentForDays 14 = .ok (.bipush 90, 2) := by decide +kernel
theorem dX10_percentForDays_16 : decode cX10_percentForDays 16 = .ok (.goto 5, 3) := by decide +kernel
theorem dX10_percentForDays_19 : decode cX10_percentForDays 19 = .ok (.bipush 100, 2) := by decide +kernel
theorem dX10_percentForDays_21 : decode cX10_percentForDays 21 = .ok (.ireturn, 1) := by decide +kernel
theorem dX11_init_0 : decode cX11_init 0 = .ok (.aload_n 0, 1) := by decide +kernel
theorem dX11_init_1 : decode cX11_init 1 = .ok (.invokespecial 3, 3) := by decide +kernel
theorem dX11_init_4 : decode cX11_init 4 = .ok (.aload_n 0, 1) := by decide +kernel
theorem dX11_init_5 : decode cX11_init 5 = .ok (.new 9, 3) := by decide +kernel
theorem dX11_init_8 : decode cX11_init 8 = .ok (.dup, 1) := by decide +kernel
theorem dX11_init_9 : decode cX11_init 9 = .ok (.invokespecial 11, 3) := by decide +kernel
theorem dX11_init_12 : decode cX11_init 12 = .ok (.putfield 12, 3) := by decide +kernel
theorem dX11_init_15 : decode cX11_init 15 = .ok (.aload_n 0, 1) := by decide +kernel
theorem dX11_init_16 : decode cX11_init 16 = .ok (.new 9, 3) := by decide +kernel
theorem dX11_init_19 : decode cX11_init 19 = .ok (.dup, 1) := by decide +kernel
theorem dX11_init_20 : decode cX11_init 20 = .ok (.invokespecial 11, 3) := by decide +kernel
theorem dX11_init_23 : decode cX11_init 23 = .ok (.putfield 16, 3) := by decide +kernel
theorem dX11_init_26 : decode cX11_init 26 = .ok (.aload_n 0, 1) := by decide +kernel
theorem dX11_init_27 : decode cX11_init 27 = .ok (.new 19, 3) := by decide +kernel
theorem dX11_init_30 : decode cX11_init 30 = .ok (.dup, 1) := by decide +kernel
theorem dX11_init_31 : decode cX11_init 31 = .ok (.invokespecial 21, 3) := by decide +kernel
theorem dX11_init_34 : decode cX11_init 34 = .ok (.putfield 22, 3) := by decide +kernel
theorem dX11_init_37 : decode cX11_init 37 = .ok (.aload_n 0, 1) := by decide +kernel
theorem dX11_init_38 : decode cX11_init 38 = .ok (.new 26, 3) := by decide +kernel
theorem dX11_init_41 : decode cX11_init 41 = .ok (.dup, 1) := by decide +kernel
theorem dX11_init_42 : decode cX11_init 42 = .ok (.invokespecial 28, 3) := by decide +kernel
theorem dX11_init_45 : decode cX11_init 45 = .ok (.putfield 29, 3) := by decide +kernel
theorem dX11_init_48 : decode cX11_init 48 = .ok (.aload_n 0, 1) := by decide +kernel
theorem dX11_init_49 : decode cX11_init 49 = .ok (.aload_n 0, 1) := by decide +kernel
theorem dX11_init_50 : decode cX11_init 50 = .ok (.getfield 29, 3) := by decide +kernel
theorem dX11_init_53 : decode cX11_init 53 = .ok (.getfield 33, 3) := by decide +kernel
theorem dX11_init_56 : decode cX11_init 56 = .ok (.putfield 37, 3) := by decide +kernel
theorem dX11_init_59 : decode cX11_init 59 = .ok (.aload_n 0, 1) := by decide +kernel
theorem dX11_init_60 : decode cX11_init 60 = .ok (.new 38, 3) := by decide +kernel
theorem dX11_init_63 : decode cX11_init 63 = .ok (.dup, 1) := by decide +kernel
theorem dX11_init_64 : decode cX11_init 64 = .ok (.invokespecial 40, 3) := by decide +kernel
theorem dX11_init_67 : decode cX11_init 67 = .ok (.putfield 41, 3) := by decide +kernel
theorem dX11_init_70 : decode cX11_init 70 = .ok (.aload_n 0, 1) := by decide +kernel
theorem dX11_init_71 : decode cX11_init 71 = .ok (.getfield 37, 3) := by decide +kernel
theorem dX11_init_74 : decode cX11_init 74 = .ok (.ldc 45, 2) := by decide +kernel
theorem dX11_init_76 : decode cX11_init 76 = .ok (.invokevirtual 47, 3) := by decide +kernel
theorem dX11_init_79 : decode cX11_init 79 = .ok (.aload_n 0, 1) := by decide +kernel
theorem dX11_init_80 : decode cX11_init 80 = .ok (.getfield 29, 3) := by decide +kernel
theorem dX11_init_83 : decode cX11_init 83 = .ok (.invokevirtual 53, 3) := by decide +kernel
theorem dX11_init_86 : decode cX11_init 86 = .ok (.aload_n 0, 1) := by decide +kernel
theorem dX11_init_87 : decode cX11_init 87 = .ok (.getfield 37, 3) := by decide +kernel
theorem dX11_init_90 : decode cX11_init 90 = .ok (.iconst 0, 1) := by decide +kernel
theorem dX11_init_91 : decode cX11_init 91 = .ok (.putfield 56, 3) := by decide +kernel
theorem dX11_init_94 : decode cX11_init 94 = .ok (.aload_n 0, 1) := by decide +kernel
theorem dX11_init_95 : decode cX11_init 95 = .ok (.getfield 12, 3) := by decide +kernel
theorem dX11_init_98 : decode cX11_init 98 = .ok (.aload_n 0, 1) := by decide +kernel
theorem dX11_init_99 : decode cX11_init 99 = .ok (.getfield 29, 3) := by decide +kernel
theorem dX11_init_102 : decode cX11_init 102 = .ok (.getfield 60, 3) := by decide +kernel
theorem dX11_init_105 : decode cX11_init 105 = .ok (.invokevirtual 61, 3) := by decide +kernel
theorem dX11_init_108 : decode cX11_init 108 = .ok (.return_, 1) := by decide +kernel
theorem dX11_append_0 : decode cX11_append 0 = .ok (.aload_n 0, 1) := by decide +kernel
theorem dX11_append_1 : decode cX11_append 1 = .ok (.getfield 37, 3) := by decide +kernel
theorem dX11_append_4 : decode cX11_append 4 = .ok (.getfield 56, 3) := by decide +kernel
theorem dX11_append_7 : decode cX11_append 7 = .ok (.bipush 20, 2) := by decide +kernel
theorem dX11_append_9 : decode cX11_append 9 = .ok (.iadd, 1) := by decide +kernel
theorem dX11_append_10 : decode cX11_append 10 = .ok (.sipush 500, 3) := by decide +kernel
theorem dX11_append_13 : decode cX11_append 13 = .ok (.if_icmp .le 6, 3) := by decide +kernel
theorem dX11_append_16 : decode cX11_append 16 = .ok (.bipush (-2), 2) := by decide +kernel
theorem dX11_append_18 : decode cX11_append 18 = .ok (.ireturn, 1) := by decide +kernel
theorem dX11_append_19 : decode cX11_append 19 = .ok (.aload_n 0, 1) := by decide +kernel
theorem dX11_append_20 : decode cX11_append 20 = .ok (.getfield 37, 3) := by decide +kernel
theorem dX11_append_23 : decode cX11_append 23 = .ok (.iload_n 1, 1) := by decide +kernel
theorem dX11_append_24 : decode cX11_append 24 = .ok (.invokevirtual 65, 3) := by decide +kernel
theorem dX11_append_27 : decode cX11_append 27 = .ok (.aload_n 0, 1) := by decide +kernel
theorem dX11_append_28 : decode cX11_append 28 = .ok (.getfield 37, 3) := by decide +kernel
theorem dX11_append_31 : decode cX11_append 31 = .ok (.iload_n 2, 1) := by decide +kernel
theorem dX11_append_32 : decode cX11_append 32 = .ok (.invokevirtual 65, 3) := by decide +kernel
theorem dX11_append_35 : decode cX11_append 35 = .ok (.aload_n 0, 1) := by decide +kernel
theorem dX11_append_36 : decode cX11_append 36 = .ok (.getfield 37, 3) := by decide +kernel
theorem dX11_append_39 : decode cX11_append 39 = .ok (.iload_n 3, 1) := by decide +kernel
theorem dX11_append_40 : decode cX11_append 40 = .ok (.invokevirtual 65, 3) := by decide +kernel
theorem dX11_append_43 : decode cX11_append 43 = .ok (.aload_n 0, 1) := by decide +kernel
theorem dX11_append_44 : decode cX11_append 44 = .ok (.getfield 37, 3) := by decide +kernel
theorem dX11_append_47 : decode cX11_append 47 = .ok (.iload 4, 2) := by decide +kernel
theorem dX11_append_49 : decode cX11_append 49 = .ok (.invokevirtual 65, 3) := by decide +kernel
theorem dX11_append_52 : decode cX11_append 52 = .ok (.aload_n 0, 1) := by decide +kernel
theorem dX11_append_53 : decode cX11_append 53 = .ok (.getfield 37, 3) := by decide +kernel
theorem dX11_append_56 : decode cX11_append 56 = .ok (.iload 5, 2) := by decide +kernel
theorem dX11_append_58 : decode cX11_append 58 = .ok (.invokevirtual 65, 3) := by decide +kernel
theorem dX11_append_61 : decode cX11_append 61 = .ok (.aload_n 0, 1) := by decide +kernel
theorem dX11_append_62 : decode cX11_append 62 = .ok (.getfield 37, 3) := by decide +kernel
theorem dX11_append_65 : decode cX11_append 65 = .ok (.getfield 56, 3) := by decide +kernel
theorem dX11_append_68 : decode cX11_append 68 = .ok (.ireturn, 1) := by decide +kernel
theorem dX11_runScript_0 : decode cX11_runScript 0 = .ok (.aload_n 0, 1) := by decide +kernel
theorem dX11_runScript_1 : decode cX11_runScript 1 = .ok (.getfield 29, 3) := by decide +kernel
theorem dX11_runScript_4 : decode cX11_runScript 4 = .ok (.invokevirtual 53, 3) := by decide +kernel
theorem dX11_runScript_7 : decode cX11_runScript 7 = .ok (.aload_n 0, 1) := by decide +kernel
theorem dX11_runScript_8 : decode cX11_runScript 8 = .ok (.getfield 37, 3) := by decide +kernel
theorem dX11_runScript_11 : decode cX11_runScript 11 = .ok (.iconst 0, 1) := by decide +kernel
theorem dX11_runScript_12 : decode cX11_runScript 12 = .ok (.putfield 56, 3) := by decide +kernel
theorem dX11_runScript_15 : decode cX11_runScript 15 = .ok (.aload_n 0, 1) := by decide +kernel
theorem dX11_runScript_16 : decode cX11_runScript 16 = .ok (.getfield 29, 3) := by decide +kernel
theorem dX11_runScript_19 : decode cX11_runScript 19 = .ok (.getfield 73, 3) := by decide +kernel
theorem dX11_runScript_22 : decode cX11_runScript 22 = .ok (.ifCond .eq 5, 3) := by decide +kernel
theorem dX11_runScript_25 : decode cX11_runScript 25 = .ok (.iconst (-1), 1) := by decide +kernel
theorem dX11_runScript_26 : decode cX11_runScript 26 = .ok (.ireturn, 1) := by decide +kernel
theorem dX11_runScript_27 : decode cX11_runScript 27 = .ok (.aload_n 0, 1) := by decide +kernel
theorem dX11_runScript_28 : decode cX11_runScript 28 = .ok (.getfield 22, 3) := by decide +kernel
theorem dX11_runScript_31 : decode cX11_runScript 31 = .ok (.aload_n 0, 1) := by decide +kernel
theorem dX11_runScript_32 : decode cX11_runScript 32 = .ok (.getfield 12, 3) := by decide +kernel
theorem dX11_runScript_35 : decode cX11_runScript 35 = .ok (.invokevirtual 76, 3) := by decide +kernel
theorem dX11_runScript_38 : decode cX11_runScript 38 = .ok (.aload_n 0, 1) := by decide +kernel
theorem dX11_runScript_39 : decode cX11_runScript 39 = .ok (.getfield 12, 3) := by decide +kernel
theorem dX11_runScript_42 : decode cX11_runScript 42 = .ok (.aload_n 0, 1) := by decide +kernel
theorem dX11_runScript_43 : decode cX11_runScript 43 = .ok (.getfield 29, 3) := by decide +kernel
theorem dX11_runScript_46 : decode cX11_runScript 46 = .ok (.getfield 60, 3) := by decide +kernel
theorem dX11_runScript_49 : decode cX11_runScript 49 = .ok (.invokevirtual 61, 3) := by decide +kernel
theorem dX11_runScript_52 : decode cX11_runScript 52 = .ok (.aload_n 0, 1) := by decide +kernel
theorem dX11_runScript_53 : decode cX11_runScript 53 = .ok (.getfield 12, 3) := by decide +kernel
theorem dX11_runScript_56 : decode cX11_runScript 56 = .ok (.getfield 79, 3) := by decide +kernel
theorem dX11_runScript_59 : decode cX11_runScript 59 = .ok (.getfield 83, 3) := by decide +kernel
theorem dX11_runScript_62 : decode cX11_runScript 62 = .ok (.ireturn, 1) := by decide +kernel
theorem dX11_setPrice_0 : decode cX11_setPrice 0 = .ok (.aload_n 0, 1) := by decide +kernel
theorem dX11_setPrice_1 : decode cX11_setPrice 1 = .ok (.iload_n 1, 1) := by decide +kernel
theorem dX11_setPrice_2 : decode cX11_setPrice 2 = .ok (.invokevirtual 88, 3) := by decide +kernel
theorem dX11_setPrice_5 : decode cX11_setPrice 5 = .ok (.iload_n 2, 1) := by decide +kernel
theorem dX11_setPrice_6 : decode cX11_setPrice 6 = .ok (.iconst 1, 1) := by decide +kernel
theorem dX11_setPrice_7 : decode cX11_setPrice 7 = .ok (.bipush 99, 2) := by decide +kernel
theorem dX11_setPrice_9 : decode cX11_setPrice 9 = .ok (.invokestatic 69, 3) := by decide +kernel
theorem dX11_setPrice_12 : decode cX11_setPrice 12 = .ok (.aload_n 0, 1) := by decide +kernel
theorem dX11_setPrice_13 : decode cX11_setPrice 13 = .ok (.getfield 22, 3) := by decide +kernel
theorem dX11_setPrice_16 : decode cX11_setPrice 16 = .ok (.aload_n 0, 1) := by decide +kernel
theorem dX11_setPrice_17 : decode cX11_setPrice 17 = .ok (.getfield 12, 3) := by decide +kernel
theorem dX11_setPrice_20 : decode cX11_setPrice 20 = .ok (.invokevirtual 76, 3) := by decide +kernel
theorem dX11_setPrice_23 : decode cX11_setPrice 23 = .ok (.aload_n 0, 1) := by decide +kernel
theorem dX11_setPrice_24 : decode cX11_setPrice 24 = .ok (.getfield 12, 3) := by decide +kernel
theorem dX11_setPrice_27 : decode cX11_setPrice 27 = .ok (.getfield 91, 3) := by decide +kernel
theorem dX11_setPrice_30 : decode cX11_setPrice 30 = .ok (.getfield 95, 3) := by decide +kernel
theorem dX11_setPrice_33 : decode cX11_setPrice 33 = .ok (.iload_n 1, 1) := by decide +kernel
theorem dX11_setPrice_34 : decode cX11_setPrice 34 = .ok (.iaload, 1) := by decide +kernel
theorem dX11_setPrice_35 : decode cX11_setPrice 35 = .ok (.istore_n 3, 1) := by decide +kernel
theorem dX11_setPrice_36 : decode cX11_setPrice 36 = .ok (.aload_n 0, 1) := by decide +kernel
theorem dX11_setPrice_37 : decode cX11_setPrice 37 = .ok (.getfield 12, 3) := by decide +kernel
theorem dX11_setPrice_40 : decode cX11_setPrice 40 = .ok (.getfield 91, 3) := by decide +kernel
theorem dX11_setPrice_43 : decode cX11_setPrice 43 = .ok (.getfield 95, 3) := by decide +kernel
theorem dX11_setPrice_46 : decode cX11_setPrice 46 = .ok (.iload_n 1, 1) := by decide +kernel
theorem dX11_setPrice_47 : decode cX11_setPrice 47 = .ok (.iload_n 2, 1) := by decide +kernel
theorem dX11_setPrice_48 : decode cX11_setPrice 48 = .ok (.iastore, 1) := by decide +kernel
theorem dX11_setPrice_49 : decode cX11_setPrice 49 = .ok (.iload_n 3, 1) := by decide +kernel
theorem dX11_setPrice_50 : decode cX11_setPrice 50 = .ok (.ireturn, 1) := by decide +kernel
theorem dX11_setRate_0 : decode cX11_setRate 0 = .ok (.iload_n 1, 1) := by decide +kernel
theorem dX11_setRate_1 : decode cX11_setRate 1 = .ok (.iconst 1, 1) := by decide +kernel
theorem dX11_setRate_2 : decode cX11_setRate 2 = .ok (.bipush 20, 2) := by decide +kernel
theorem dX11_setRate_4 : decode cX11_setRate 4 = .ok (.invokestatic 69, 3) := by decide +kernel
theorem dX11_setRate_7 : decode cX11_setRate 7 = .ok (.aload_n 0, 1) := by decide +kernel
theorem dX11_setRate_8 : decode cX11_setRate 8 = .ok (.getfield 22, 3) := by decide +kernel
theorem dX11_setRate_11 : decode cX11_setRate 11 = .ok (.aload_n 0, 1) := by decide +kernel
theorem dX11_setRate_12 : decode cX11_setRate 12 = .ok (.getfield 12, 3) := by decide +kernel
theorem dX11_setRate_15 : decode cX11_setRate 15 = .ok (.invokevirtual 76, 3) := by decide +kernel
theorem dX11_setRate_18 : decode cX11_setRate 18 = .ok (.aload_n 0, 1) := by decide +kernel
theorem dX11_setRate_19 : decode cX11_setRate 19 = .ok (.getfield 12, 3) := by decide +kernel
theorem dX11_setRate_22 : decode cX11_setRate 22 = .ok (.getfield 91, 3) := by decide +kernel
theorem dX11_setRate_25 : decode cX11_setRate 25 = .ok (.getfield 101, 3) := by decide +kernel
theorem dX11_setRate_28 : decode cX11_setRate 28 = .ok (.istore_n 2, 1) := by decide +kernel
theorem dX11_setRate_29 : decode cX11_setRate 29 = .ok (.aload_n 0, 1) := by decide +kernel
theorem dX11_setRate_30 : decode cX11_setRate 30 = .ok (.getfield 12, 3) := by decide +kernel
theorem dX11_setRate_33 : decode cX11_setRate 33 = .ok (.getfield 91, 3) := by decide +kernel
theorem dX11_setRate_36 : decode cX11_setRate 36 = .ok (.iload_n 1, 1) := by decide +kernel
theorem dX11_setRate_37 : decode cX11_setRate 37 = .ok (.putfield 101, 3) := by decide +kernel
theorem dX11_setRate_40 : decode cX11_setRate 40 = .ok (.iload_n 2, 1) := by decide +kernel
theorem dX11_setRate_41 : decode cX11_setRate 41 = .ok (.ireturn, 1) := by decide +kernel
theorem dX11_layBed_0 : decode cX11_layBed 0 = .ok (.aload_n 0, 1) := by decide +kernel
theorem dX11_layBed_1 : decode cX11_layBed 1 = .ok (.iload_n 1, 1) := by decide +kernel
theorem dX11_layBed_2 : decode cX11_layBed 2 = .ok (.invokevirtual 88, 3) := by decide +kernel
theorem dX11_layBed_5 : decode cX11_layBed 5 = .ok (.iload_n 2, 1) := by decide +kernel
theorem dX11_layBed_6 : decode cX11_layBed 6 = .ok (.iconst 1, 1) := by decide +kernel
theorem dX11_layBed_7 : decode cX11_layBed 7 = .ok (.bipush 20, 2) := by decide +kernel
theorem dX11_layBed_9 : decode cX11_layBed 9 = .ok (.invokestatic 69, 3) := by decide +kernel
theorem dX11_layBed_12 : decode cX11_layBed 12 = .ok (.iload_n 3, 1) := by decide +kernel
theorem dX11_layBed_13 : decode cX11_layBed 13 = .ok (.iconst 0, 1) := by decide +kernel
theorem dX11_layBed_14 : decode cX11_layBed 14 = .ok (.bipush 99, 2) := by decide +kernel
theorem dX11_layBed_16 : decode cX11_layBed 16 = .ok (.invokestatic 69, 3) := by decide +kernel
theorem dX11_layBed_19 : decode cX11_layBed 19 = .ok (.iload 4, 2) := by decide +kernel
theorem dX11_layBed_21 : decode cX11_layBed 21 = .ok (.iload_n 3, 1) := by decide +kernel
theorem dX11_layBed_22 : decode cX11_layBed 22 = .ok (.bipush 99, 2) := by decide +kernel
theorem dX11_layBed_24 : decode cX11_layBed 24 = .ok (.invokestatic 69, 3) := by decide +kernel
theorem dX11_layBed_27 : decode cX11_layBed 27 = .ok (.aload_n 0, 1) := by decide +kernel
theorem dX11_layBed_28 : decode cX11_layBed 28 = .ok (.getfield 12, 3) := by decide +kernel
theorem dX11_layBed_31 : decode cX11_layBed 31 = .ok (.getfield 104, 3) := by decide +kernel
theorem dX11_layBed_34 : decode cX11_layBed 34 = .ok (.invokevirtual 108, 3) := by decide +kernel
theorem dX11_layBed_37 : decode cX11_layBed 37 = .ok (.invokestatic 114, 3) := by decide +kernel
theorem dX11_layBed_40 : decode cX11_layBed 40 = .ok (.aload_n 0, 1) := by decide +kernel
theorem dX11_layBed_41 : decode cX11_layBed 41 = .ok (.getfield 22, 3) := by decide +kernel
theorem dX11_layBed_44 : decode cX11_layBed 44 = .ok (.aload_n 0, 1) := by decide +kernel
theorem dX11_layBed_45 : decode cX11_layBed 45 = .ok (.getfield 12, 3) := by decide +kernel
theorem dX11_layBed_48 : decode cX11_layBed 48 = .ok (.invokevirtual 76, 3) := by decide +kernel
theorem dX11_layBed_51 : decode cX11_layBed 51 = .ok (.aload_n 0, 1) := by decide +kernel
theorem dX11_layBed_52 : decode cX11_layBed 52 = .ok (.getfield 12, 3) := by decide +kernel
theorem dX11_layBed_55 : decode cX11_layBed 55 = .ok (.getfield 104, 3) := by decide +kernel
theorem dX11_layBed_58 : decode cX11_layBed 58 = .ok (.iload_n 1, 1) := by decide +kernel
theorem dX11_layBed_59 : decode cX11_layBed 59 = .ok (.iload_n 2, 1) := by decide +kernel
theorem dX11_layBed_60 : decode cX11_layBed 60 = .ok (.iload_n 3, 1) := by decide +kernel
theorem dX11_layBed_61 : decode cX11_layBed 61 = .ok (.iload 4, 2) := by decide +kernel
theorem dX11_layBed_63 : decode cX11_layBed 63 = .ok (.invokevirtual 118, 3) := by decide +kernel
theorem dX11_layBed_66 : decode cX11_layBed 66 = .ok (.ireturn, 1) := by decide +kernel
theorem dX11_setPeacocks_0 : decode cX11_setPeacocks 0 = .ok (.iload_n 1, 1) := by decide +kernel
theorem dX11_setPeacocks_1 : decode cX11_setPeacocks 1 = .ok (.iconst 0, 1) := by decide +kernel
theorem dX11_setPeacocks_2 : decode cX11_setPeacocks 2 = .ok (.bipush 95, 2) := by decide +kernel
theorem dX11_setPeacocks_4 : decode cX11_setPeacocks 4 = .ok (.invokestatic 69, 3) := by decide +kernel
theorem dX11_setPeacocks_7 : decode cX11_setPeacocks 7 = .ok (.iload_n 2, 1) := by decide +kernel
theorem dX11_setPeacocks_8 : decode cX11_setPeacocks 8 = .ok (.iload_n 1, 1) := by decide +kernel
theorem dX11_setPeacocks_9 : decode cX11_setPeacocks 9 = .ok (.bipush 95, 2) := by decide +kernel
theorem dX11_setPeacocks_11 : decode cX11_setPeacocks 11 = .ok (.invokestatic 69, 3) := by decide +kernel
theorem dX11_setPeacocks_14 : decode cX11_setPeacocks 14 = .ok (.aload_n 0, 1) := by decide +kernel
theorem dX11_setPeacocks_15 : decode cX11_setPeacocks 15 = .ok (.getfield 22, 3) := by decide +kernel
theorem dX11_setPeacocks_18 : decode cX11_setPeacocks 18 = .ok (.aload_n 0, 1) := by decide +kernel
theorem dX11_setPeacocks_19 : decode cX11_setPeacocks 19 = .ok (.getfield 12, 3) := by decide +kernel
theorem dX11_setPeacocks_22 : decode cX11_setPeacocks 22 = .ok (.invokevirtual 76, 3) := by decide +kernel
theorem dX11_setPeacocks_25 : decode cX11_setPeacocks 25 = .ok (.aload_n 0, 1) := by decide +kernel
theorem dX11_setPeacocks_26 : decode cX11_setPeacocks 26 = .ok (.getfield 12, 3) := by decide +kernel
theorem dX11_setPeacocks_29 : decode cX11_setPeacocks 29 = .ok (.getfield 122, 3) := by decide +kernel
theorem dX11_setPeacocks_32 : decode cX11_setPeacocks 32 = .ok (.iload_n 1, 1) := by decide +kernel
theorem dX11_setPeacocks_33 : decode cX11_setPeacocks 33 = .ok (.iload_n 2, 1) := by decide +kernel
theorem dX11_setPeacocks_34 : decode cX11_setPeacocks 34 = .ok (.invokevirtual 126, 3) := by decide +kernel
theorem dX11_setPeacocks_37 : decode cX11_setPeacocks 37 = .ok (.aload_n 0, 1) := by decide +kernel
theorem dX11_setPeacocks_38 : decode cX11_setPeacocks 38 = .ok (.getfield 12, 3) := by decide +kernel
theorem dX11_setPeacocks_41 : decode cX11_setPeacocks 41 = .ok (.getfield 122, 3) := by decide +kernel
theorem dX11_setPeacocks_44 : decode cX11_setPeacocks 44 = .ok (.invokevirtual 132, 3) := by decide +kernel
theorem dX11_setPeacocks_47 : decode cX11_setPeacocks 47 = .ok (.ireturn, 1) := by decide +kernel
theorem dX11_setPause_0 : decode cX11_setPause 0 = .ok (.iload_n 1, 1) := by decide +kernel
theorem dX11_setPause_1 : decode cX11_setPause 1 = .ok (.iconst 0, 1) := by decide +kernel
theorem dX11_setPause_2 : decode cX11_setPause 2 = .ok (.bipush 8, 2) := by decide +kernel
theorem dX11_setPause_4 : decode cX11_setPause 4 = .ok (.invokestatic 69, 3) := by decide +kernel
theorem dX11_setPause_7 : decode cX11_setPause 7 = .ok (.aload_n 0, 1) := by decide +kernel
theorem dX11_setPause_8 : decode cX11_setPause 8 = .ok (.getfield 22, 3) := by decide +kernel
theorem dX11_setPause_11 : decode cX11_setPause 11 = .ok (.aload_n 0, 1) := by decide +kernel
theorem dX11_setPause_12 : decode cX11_setPause 12 = .ok (.getfield 12, 3) := by decide +kernel
theorem dX11_setPause_15 : decode cX11_setPause 15 = .ok (.invokevirtual 76, 3) := by decide +kernel
theorem dX11_setPause_18 : decode cX11_setPause 18 = .ok (.aload_n 0, 1) := by decide +kernel
theorem dX11_setPause_19 : decode cX11_setPause 19 = .ok (.getfield 12, 3) := by decide +kernel
theorem dX11_setPause_22 : decode cX11_setPause 22 = .ok (.getfield 136, 3) := by decide +kernel
theorem dX11_setPause_25 : decode cX11_setPause 25 = .ok (.istore_n 2, 1) := by decide +kernel
theorem dX11_setPause_26 : decode cX11_setPause 26 = .ok (.aload_n 0, 1) := by decide +kernel
theorem dX11_setPause_27 : decode cX11_setPause 27 = .ok (.getfield 12, 3) := by decide +kernel
theorem dX11_setPause_30 : decode cX11_setPause 30 = .ok (.iload_n 1, 1) := by decide +kernel
theorem dX11_setPause_31 : decode cX11_setPause 31 = .ok (.putfield 136, 3) := by decide +kernel
theorem dX11_setPause_34 : decode cX11_setPause 34 = .ok (.iload_n 2, 1) := by decide +kernel
theorem dX11_setPause_35 : decode cX11_setPause 35 = .ok (.ireturn, 1) := by decide +kernel
theorem dX11_sell_0 : decode cX11_sell 0 = .ok (.aload_n 0, 1) := by decide +kernel
theorem dX11_sell_1 : decode cX11_sell 1 = .ok (.iload_n 1, 1) := by decide +kernel
theorem dX11_sell_2 : decode cX11_sell 2 = .ok (.invokevirtual 139, 3) := by decide +kernel
theorem dX11_sell_5 : decode cX11_sell 5 = .ok (.iload_n 2, 1) := by decide +kernel
theorem dX11_sell_6 : decode cX11_sell 6 = .ok (.aload_n 0, 1) := by decide +kernel
theorem dX11_sell_7 : decode cX11_sell 7 = .ok (.getfield 12, 3) := by decide +kernel
theorem dX11_sell_10 : decode cX11_sell 10 = .ok (.getfield 122, 3) := by decide +kernel
theorem dX11_sell_13 : decode cX11_sell 13 = .ok (.invokevirtual 142, 3) := by decide +kernel
theorem dX11_sell_16 : decode cX11_sell 16 = .ok (.bipush 99, 2) := by decide +kernel
theorem dX11_sell_18 : decode cX11_sell 18 = .ok (.invokestatic 69, 3) := by decide +kernel
theorem dX11_sell_21 : decode cX11_sell 21 = .ok (.iload_n 3, 1) := by decide +kernel
theorem dX11_sell_22 : decode cX11_sell 22 = .ok (.iconst 1, 1) := by decide +kernel
theorem dX11_sell_23 : decode cX11_sell 23 = .ok (.bipush 14, 2) := by decide +kernel
theorem dX11_sell_25 : decode cX11_sell 25 = .ok (.invokestatic 69, 3) := by decide +kernel
theorem dX11_sell_28 : decode cX11_sell 28 = .ok (.iload 4, 2) := by decide +kernel
theorem dX11_sell_30 : decode cX11_sell 30 = .ok (.iconst 0, 1) := by decide +kernel
theorem dX11_sell_31 : decode cX11_sell 31 = .ok (.iconst 1, 1) := by decide +kernel
theorem dX11_sell_32 : decode cX11_sell 32 = .ok (.invokestatic 69, 3) := by decide +kernel
theorem dX11_sell_35 : decode cX11_sell 35 = .ok (.aload_n 0, 1) := by decide +kernel
theorem dX11_sell_36 : decode cX11_sell 36 = .ok (.getfield 12, 3) := by decide +kernel
theorem dX11_sell_39 : decode cX11_sell 39 = .ok (.invokevirtual 145, 3) := by decide +kernel
theorem dX11_sell_42 : decode cX11_sell 42 = .ok (.invokestatic 114, 3) := by decide +kernel
theorem dX11_sell_45 : decode cX11_sell 45 = .ok (.aload_n 0, 1) := by decide +kernel
theorem dX11_sell_46 : decode cX11_sell 46 = .ok (.getfield 22, 3) := by decide +kernel
theorem dX11_sell_49 : decode cX11_sell 49 = .ok (.aload_n 0, 1) := by decide +kernel
theorem dX11_sell_50 : decode cX11_sell 50 = .ok (.getfield 12, 3) := by decide +kernel
theorem dX11_sell_53 : decode cX11_sell 53 = .ok (.invokevirtual 76, 3) := by decide +kernel
theorem dX11_sell_56 : decode cX11_sell 56 = .ok (.aload_n 0, 1) := by decide +kernel
theorem dX11_sell_57 : decode cX11_sell 57 = .ok (.getfield 12, 3) := by decide +kernel
theorem dX11_sell_60 : decode cX11_sell 60 = .ok (.iload_n 1, 1) := by decide +kernel
theorem dX11_sell_61 : decode cX11_sell 61 = .ok (.iload_n 2, 1) := by decide +kernel
theorem dX11_sell_62 : decode cX11_sell 62 = .ok (.iload_n 3, 1) := by decide +kernel
theorem dX11_sell_63 : decode cX11_sell 63 = .ok (.iload 4, 2) := by decide +kernel
theorem dX11_sell_65 : decode cX11_sell 65 = .ok (.invokevirtual 148, 3) := by decide +kernel
theorem dX11_sell_68 : decode cX11_sell 68 = .ok (.ireturn, 1) := by decide +kernel
theorem dX11_extend_0 : decode cX11_extend 0 = .ok (.aload_n 0, 1) := by decide +kernel
theorem dX11_extend_1 : decode cX11_extend 1 = .ok (.iload_n 1, 1) := by decide +kernel
theorem dX11_extend_2 : decode cX11_extend 2 = .ok (.invokevirtual 151, 3) := by decide +kernel
theorem dX11_extend_5 : decode cX11_extend 5 = .ok (.iload_n 2, 1) := by decide +kernel
theorem dX11_extend_6 : decode cX11_extend 6 = .ok (.iconst 1, 1) := by decide +kernel
theorem dX11_extend_7 : decode cX11_extend 7 = .ok (.bipush 13, 2) := by decide +kernel
theorem dX11_extend_9 : decode cX11_extend 9 = .ok (.invokestatic 69, 3) := by decide +kernel
theorem dX11_extend_12 : decode cX11_extend 12 = .ok (.aload_n 0, 1) := by decide +kernel
theorem dX11_extend_13 : decode cX11_extend 13 = .ok (.getfield 12, 3) := by decide +kernel
theorem dX11_extend_16 : decode cX11_extend 16 = .ok (.iload_n 1, 1) := by decide +kernel
theorem dX11_extend_17 : decode cX11_extend 17 = .ok (.invokevirtual 154, 3) := by decide +kernel
theorem dX11_extend_20 : decode cX11_extend 20 = .ok (.invokestatic 114, 3) := by decide +kernel
theorem dX11_extend_23 : decode cX11_extend 23 = .ok (.aload_n 0, 1) := by decide +kernel
theorem dX11_extend_24 : decode cX11_extend 24 = .ok (.getfield 12, 3) := by decide +kernel
theorem dX11_extend_27 : decode cX11_extend 27 = .ok (.getfield 79, 3) := by decide +kernel
theorem dX11_extend_30 : decode cX11_extend 30 = .ok (.getfield 158, 3) := by decide +kernel
theorem dX11_extend_33 : decode cX11_extend 33 = .ok (.iload_n 1, 1) := by decide +kernel
theorem dX11_extend_34 : decode cX11_extend 34 = .ok (.iaload, 1) := by decide +kernel
theorem dX11_extend_35 : decode cX11_extend 35 = .ok (.iload_n 2, 1) := by decide +kernel
theorem dX11_extend_36 : decode cX11_extend 36 = .ok (.iadd, 1) := by decide +kernel
theorem dX11_extend_37 : decode cX11_extend 37 = .ok (.bipush 14, 2) := by decide +kernel
theorem dX11_extend_39 : decode cX11_extend 39 = .ok (.if_icmp .gt 7, 3) := by decide +kernel
theorem dX11_extend_42 : decode cX11_extend 42 = .ok (.iconst 1, 1) := by decide +kernel
theorem dX11_extend_43 : decode cX11_extend 43 = .ok (.goto 4, 3) := by decide +kernel
theorem dX11_extend_46 : decode cX11_extend 46 = .ok (.iconst 0, 1) := by decide +kernel
theorem dX11_extend_47 : decode cX11_extend 47 = .ok (.invokestatic 114, 3) := by decide +kernel
theorem dX11_extend_50 : decode cX11_extend 50 = .ok (.aload_n 0, 1) := by decide +kernel
theorem dX11_extend_51 : decode cX11_extend 51 = .ok (.getfield 22, 3) := by decide +kernel
theorem dX11_extend_54 : decode cX11_extend 54 = .ok (.aload_n 0, 1) := by decide +kernel
theorem dX11_extend_55 : decode cX11_extend 55 = .ok (.getfield 12, 3) := by decide +kernel
theorem dX11_extend_58 : decode cX11_extend 58 = .ok (.invokevirtual 76, 3) := by decide +kernel
theorem dX11_extend_61 : decode cX11_extend 61 = .ok (.aload_n 0, 1) := by decide +kernel
theorem dX11_extend_62 : decode cX11_extend 62 = .ok (.getfield 12, 3) := by decide +kernel
theorem dX11_extend_65 : decode cX11_extend 65 = .ok (.getfield 79, 3) := by decide +kernel
theorem dX11_extend_68 : decode cX11_extend 68 = .ok (.getfield 158, 3) := by decide +kernel
theorem dX11_extend_71 : decode cX11_extend 71 = .ok (.iload_n 1, 1) := by decide +kernel
theorem dX11_extend_72 : decode cX11_extend 72 = .ok (.dup2, 1) := by decide +kernel
theorem dX11_extend_73 : decode cX11_extend 73 = .ok (.iaload, 1) := by decide +kernel
theorem dX11_extend_74 : decode cX11_extend 74 = .ok (.iload_n 2, 1) := by decide +kernel
theorem dX11_extend_75 : decode cX11_extend 75 = .ok (.iadd, 1) := by decide +kernel
theorem dX11_extend_76 : decode cX11_extend 76 = .ok (.iastore, 1) := by decide +kernel
theorem dX11_extend_77 : decode cX11_extend 77 = .ok (.aload_n 0, 1) := by decide +kernel
theorem dX11_extend_78 : decode cX11_extend 78 = .ok (.getfield 12, 3) := by decide +kernel
theorem dX11_extend_81 : decode cX11_extend 81 = .ok (.iload_n 1, 1) := by decide +kernel
theorem dX11_extend_82 : decode cX11_extend 82 = .ok (.invokevirtual 161, 3) := by decide +kernel
theorem dX11_extend_85 : decode cX11_extend 85 = .ok (.ireturn, 1) := by decide +kernel
theorem dX11_addScent_0 : decode cX11_addScent 0 = .ok (.aload_n 0, 1) := by decide +kernel
theorem dX11_addScent_1 : decode cX11_addScent 1 = .ok (.iload_n 1, 1) := by decide +kernel
theorem dX11_addScent_2 : decode cX11_addScent 2 = .ok (.invokevirtual 151, 3) := by decide +kernel
theorem dX11_addScent_5 : decode cX11_addScent 5 = .ok (.aload_n 0, 1) := by decide +kernel
theorem dX11_addScent_6 : decode cX11_addScent 6 = .ok (.iload_n 2, 1) := by decide +kernel
theorem dX11_addScent_7 : decode cX11_addScent 7 = .ok (.invokevirtual 88, 3) := by decide +kernel
theorem dX11_addScent_10 : decode cX11_addScent 10 = .ok (.aload_n 0, 1) := by decide +kernel
theorem dX11_addScent_11 : decode cX11_addScent 11 = .ok (.getfield 12, 3) := by decide +kernel
theorem dX11_addScent_14 : decode cX11_addScent 14 = .ok (.iload_n 1, 1) := by decide +kernel
theorem dX11_addScent_15 : decode cX11_addScent 15 = .ok (.invokevirtual 154, 3) := by decide +kernel
theorem dX11_addScent_18 : decode cX11_addScent 18 = .ok (.invokestatic 114, 3) := by decide +kernel
theorem dX11_addScent_21 : decode cX11_addScent 21 = .ok (.aload_n 0, 1) := by decide +kernel
theorem dX11_addScent_22 : decode cX11_addScent 22 = .ok (.getfield 12, 3) := by decide +kernel
theorem dX11_addScent_25 : decode cX11_addScent 25 = .ok (.getfield 79, 3) := by decide +kernel
theorem dX11_addScent_28 : decode cX11_addScent 28 = .ok (.iload_n 1, 1) := by decide +kernel
theorem dX11_addScent_29 : decode cX11_addScent 29 = .ok (.iload_n 2, 1) := by decide +kernel
theorem dX11_addScent_30 : decode cX11_addScent 30 = .ok (.invokevirtual 165, 3) := by decide +kernel
theorem dX11_addScent_33 : decode cX11_addScent 33 = .ok (.ifCond .ne 7, 3) := by decide +kernel
theorem dX11_addScent_36 : decode cX11_addScent 36 = .ok (.iconst 1, 1) := by decide +kernel
theorem dX11_addScent_37 : decode cX11_addScent 37 = .ok (.goto 4, 3) := by decide +kernel
theorem dX11_addScent_40 : decode cX11_addScent 40 = .ok (.iconst 0, 1) := by decide +kernel
theorem dX11_addScent_41 : decode cX11_addScent 41 = .ok (.invokestatic 114, 3) := by decide +kernel
theorem dX11_addScent_44 : decode cX11_addScent 44 = .ok (.aload_n 0, 1) := by decide +kernel
theorem dX11_addScent_45 : decode cX11_addScent 45 = .ok (.getfield 22, 3) := by decide +kernel
theorem dX11_addScent_48 : decode cX11_addScent 48 = .ok (.aload_n 0, 1) := by decide +kernel
theorem dX11_addScent_49 : decode cX11_addScent 49 = .ok (.getfield 12, 3) := by decide +kernel
theorem dX11_addScent_52 : decode cX11_addScent 52 = .ok (.invokevirtual 76, 3) := by decide +kernel
theorem dX11_addScent_55 : decode cX11_addScent 55 = .ok (.aload_n 0, 1) := by decide +kernel
theorem dX11_addScent_56 : decode cX11_addScent 56 = .ok (.getfield 12, 3) := by decide +kernel
theorem dX11_addScent_59 : decode cX11_addScent 59 = .ok (.getfield 79, 3) := by decide +kernel
theorem dX11_addScent_62 : decode cX11_addScent 62 = .ok (.getfield 169, 3) := by decide +kernel
theorem dX11_addScent_65 : decode cX11_addScent 65 = .ok (.iload_n 1, 1) := by decide +kernel
theorem dX11_addScent_66 : decode cX11_addScent 66 = .ok (.dup2, 1) := by decide +kernel
theorem dX11_addScent_67 : decode cX11_addScent 67 = .ok (.iaload, 1) := by decide +kernel
theorem dX11_addScent_68 : decode cX11_addScent 68 = .ok (.iconst 1, 1) := by decide +kernel
theorem dX11_addScent_69 : decode cX11_addScent 69 = .ok (.iload_n 2, 1) := by decide +kernel
theorem dX11_addScent_70 : decode cX11_addScent 70 = .ok (.ishl, 1) := by decide +kernel
theorem dX11_addScent_71 : decode cX11_addScent 71 = .ok (.ior, 1) := by decide +kernel
theorem dX11_addScent_72 : decode cX11_addScent 72 = .ok (.iastore, 1) := by decide +kernel
theorem dX11_addScent_73 : decode cX11_addScent 73 = .ok (.aload_n 0, 1) := by decide +kernel
theorem dX11_addScent_74 : decode cX11_addScent 74 = .ok (.getfield 12, 3) := by decide +kernel
theorem dX11_addScent_77 : decode cX11_addScent 77 = .ok (.iload_n 1, 1) := by decide +kernel
theorem dX11_addScent_78 : decode cX11_addScent 78 = .ok (.invokevirtual 161, 3) := by decide +kernel
theorem dX11_addScent_81 : decode cX11_addScent 81 = .ok (.ireturn, 1) := by decide +kernel
theorem dX11_reportLost_0 : decode cX11_reportLost 0 = .ok (.aload_n 0, 1) := by decide +kernel
theorem dX11_reportLost_1 : decode cX11_reportLost 1 = .ok (.iload_n 1, 1) := by decide +kernel
theorem dX11_reportLost_2 : decode cX11_reportLost 2 = .ok (.invokevirtual 151, 3) := by decide +kernel
theorem dX11_reportLost_5 : decode cX11_reportLost 5 = .ok (.aload_n 0, 1) := by decide +kernel
theorem dX11_reportLost_6 : decode cX11_reportLost 6 = .ok (.getfield 12, 3) := by decide +kernel
theorem dX11_reportLost_9 : decode cX11_reportLost 9 = .ok (.getfield 79, 3) := by decide +kernel
theorem dX11_reportLost_12 : decode cX11_reportLost 12 = .ok (.iload_n 1, 1) := by decide +kernel
theorem dX11_reportLost_13 : decode cX11_reportLost 13 = .ok (.invokevirtual 172, 3) := by decide +kernel
theorem dX11_reportLost_16 : decode cX11_reportLost 16 = .ok (.invokestatic 114, 3) := by decide +kernel
theorem dX11_reportLost_19 : decode cX11_reportLost 19 = .ok (.aload_n 0, 1) := by decide +kernel
theorem dX11_reportLost_20 : decode cX11_reportLost 20 = .ok (.getfield 22, 3) := by decide +kernel
theorem dX11_reportLost_23 : decode cX11_reportLost 23 = .ok (.aload_n 0, 1) := by decide +kernel
theorem dX11_reportLost_24 : decode cX11_reportLost 24 = .ok (.getfield 12, 3) := by decide +kernel
theorem dX11_reportLost_27 : decode cX11_reportLost 27 = .ok (.invokevirtual 76, 3) := by decide +kernel
theorem dX11_reportLost_30 : decode cX11_reportLost 30 = .ok (.aload_n 0, 1) := by decide +kernel
theorem dX11_reportLost_31 : decode cX11_reportLost 31 = .ok (.getfield 12, 3) := by decide +kernel
theorem dX11_reportLost_34 : decode cX11_reportLost 34 = .ok (.iload_n 1, 1) := by decide +kernel
theorem dX11_reportLost_35 : decode cX11_reportLost 35 = .ok (.invokevirtual 175, 3) := by decide +kernel
theorem dX11_reportLost_38 : decode cX11_reportLost 38 = .ok (.ireturn, 1) := by decide +kernel
theorem dX11_replaceCard_0 : decode cX11_replaceCard 0 = .ok (.aload_n 0, 1) := by decide +kernel
theorem dX11_replaceCard_1 : decode cX11_replaceCard 1 = .ok (.iload_n 1, 1) := by decide +kernel
theorem dX11_replaceCard_2 : decode cX11_replaceCard 2 = .ok (.invokevirtual 151, 3) := by decide +kernel
theorem dX11_replaceCard_5 : decode cX11_replaceCard 5 = .ok (.aload_n 0, 1) := by decide +kernel
theorem dX11_replaceCard_6 : decode cX11_replaceCard 6 = .ok (.getfield 12, 3) := by decide +kernel
theorem dX11_replaceCard_9 : decode cX11_replaceCard 9 = .ok (.iload_n 1, 1) := by decide +kernel
theorem dX11_replaceCard_10 : decode cX11_replaceCard 10 = .ok (.invokevirtual 178, 3) := by decide +kernel
theorem dX11_replaceCard_13 : decode cX11_replaceCard 13 = .ok (.invokestatic 114, 3) := by decide +kernel
theorem dX11_replaceCard_16 : decode cX11_replaceCard 16 = .ok (.aload_n 0, 1) := by decide +kernel
theorem dX11_replaceCard_17 : decode cX11_replaceCard 17 = .ok (.getfield 22, 3) := by decide +kernel
theorem dX11_replaceCard_20 : decode cX11_replaceCard 20 = .ok (.aload_n 0, 1) := by decide +kernel
theorem dX11_replaceCard_21 : decode cX11_replaceCard 21 = .ok (.getfield 12, 3) := by decide +kernel
theorem dX11_replaceCard_24 : decode cX11_replaceCard 24 = .ok (.invokevirtual 76, 3) := by decide +kernel
theorem dX11_replaceCard_27 : decode cX11_replaceCard 27 = .ok (.aload_n 0, 1) := by decide +kernel
theorem dX11_replaceCard_28 : decode cX11_replaceCard 28 = .ok (.getfield 12, 3) := by decide +kernel
theorem dX11_replaceCard_31 : decode cX11_replaceCard 31 = .ok (.iload_n 1, 1) := by decide +kernel
theorem dX11_replaceCard_32 : decode cX11_replaceCard 32 = .ok (.invokevirtual 181, 3) := by decide +kernel
theorem dX11_replaceCard_35 : decode cX11_replaceCard 35 = .ok (.ireturn, 1) := by decide +kernel
theorem dX11_refundPass_0 : decode cX11_refundPass 0 = .ok (.aload_n 0, 1) := by decide +kernel
theorem dX11_refundPass_1 : decode cX11_refundPass 1 = .ok (.iload_n 1, 1) := by decide +kernel
theorem dX11_refundPass_2 : decode cX11_refundPass 2 = .ok (.invokevirtual 151, 3) := by decide +kernel
theorem dX11_refundPass_5 : decode cX11_refundPass 5 = .ok (.aload_n 0, 1) := by decide +kernel
theorem dX11_refundPass_6 : decode cX11_refundPass 6 = .ok (.getfield 12, 3) := by decide +kernel
theorem dX11_refundPass_9 : decode cX11_refundPass 9 = .ok (.getfield 79, 3) := by decide +kernel
theorem dX11_refundPass_12 : decode cX11_refundPass 12 = .ok (.getfield 184, 3) := by decide +kernel
theorem dX11_refundPass_15 : decode cX11_refundPass 15 = .ok (.iload_n 1, 1) := by decide +kernel
theorem dX11_refundPass_16 : decode cX11_refundPass 16 = .ok (.baload, 1) := by decide +kernel
theorem dX11_refundPass_17 : decode cX11_refundPass 17 = .ok (.ifCond .ne 7, 3) := by decide +kernel
theorem dX11_refundPass_20 : decode cX11_refundPass 20 = .ok (.iconst 1, 1) := by decide +kernel
theorem dX11_refundPass_21 : decode cX11_refundPass 21 = .ok (.goto 4, 3) := by decide +kernel
theorem dX11_refundPass_24 : decode cX11_refundPass 24 = .ok (.iconst 0, 1) := by decide +kernel
theorem dX11_refundPass_25 : decode cX11_refundPass 25 = .ok (.invokestatic 114, 3) := by decide +kernel
theorem dX11_refundPass_28 : decode cX11_refundPass 28 = .ok (.aload_n 0, 1) := by decide +kernel
theorem dX11_refundPass_29 : decode cX11_refundPass 29 = .ok (.getfield 22, 3) := by decide +kernel
theorem dX11_refundPass_32 : decode cX11_refundPass 32 = .ok (.aload_n 0, 1) := by decide +kernel
theorem dX11_refundPass_33 : decode cX11_refundPass 33 = .ok (.getfield 12, 3) := by decide +kernel
theorem dX11_refundPass_36 : decode cX11_refundPass 36 = .ok (.invokevirtual 76, 3) := by decide +kernel
theorem dX11_refundPass_39 : decode cX11_refundPass 39 = .ok (.aload_n 0, 1) := by decide +kernel
theorem dX11_refundPass_40 : decode cX11_refundPass 40 = .ok (.getfield 12, 3) := by decide +kernel
theorem dX11_refundPass_43 : decode cX11_refundPass 43 = .ok (.iload_n 1, 1) := by decide +kernel
theorem dX11_refundPass_44 : decode cX11_refundPass 44 = .ok (.invokevirtual 188, 3) := by decide +kernel
theorem dX11_refundPass_47 : decode cX11_refundPass 47 = .ok (.ireturn, 1) := by decide +kernel
theorem dX11_visit_0 : decode cX11_visit 0 = .ok (.aload_n 0, 1) := by decide +kernel
theorem dX11_visit_1 : decode cX11_visit 1 = .ok (.iload_n 1, 1) := by decide +kernel
theorem dX11_visit_2 : decode cX11_visit 2 = .ok (.invokevirtual 191, 3) := by decide +kernel
theorem dX11_visit_5 : decode cX11_visit 5 = .ok (.aload_n 0, 1) := by decide +kernel
theorem dX11_visit_6 : decode cX11_visit 6 = .ok (.iload_n 2, 1) := by decide +kernel
theorem dX11_visit_7 : decode cX11_visit 7 = .ok (.invokevirtual 194, 3) := by decide +kernel
theorem dX11_visit_10 : decode cX11_visit 10 = .ok (.aload_n 0, 1) := by decide +kernel
theorem dX11_visit_11 : decode cX11_visit 11 = .ok (.getfield 22, 3) := by decide +kernel
theorem dX11_visit_14 : decode cX11_visit 14 = .ok (.aload_n 0, 1) := by decide +kernel
theorem dX11_visit_15 : decode cX11_visit 15 = .ok (.getfield 12, 3) := by decide +kernel
theorem dX11_visit_18 : decode cX11_visit 18 = .ok (.invokevirtual 76, 3) := by decide +kernel
theorem dX11_visit_21 : decode cX11_visit 21 = .ok (.aload_n 0, 1) := by decide +kernel
theorem dX11_visit_22 : decode cX11_visit 22 = .ok (.getfield 12, 3) := by decide +kernel
theorem dX11_visit_25 : decode cX11_visit 25 = .ok (.iload_n 1, 1) := by decide +kernel
theorem dX11_visit_26 : decode cX11_visit 26 = .ok (.iload_n 2, 1) := by decide +kernel
theorem dX11_visit_27 : decode cX11_visit 27 = .ok (.invokevirtual 197, 3) := by decide +kernel
theorem dX11_visit_30 : decode cX11_visit 30 = .ok (.ireturn, 1) := by decide +kernel
theorem dX11_pluck_0 : decode cX11_pluck 0 = .ok (.aload_n 0, 1) := by decide +kernel
theorem dX11_pluck_1 : decode cX11_pluck 1 = .ok (.iload_n 1, 1) := by decide +kernel
theorem dX11_pluck_2 : decode cX11_pluck 2 = .ok (.invokevirtual 191, 3) := by decide +kernel
theorem dX11_pluck_5 : decode cX11_pluck 5 = .ok (.iload_n 2, 1) := by decide +kernel
theorem dX11_pluck_6 : decode cX11_pluck 6 = .ok (.iconst 1, 1) := by decide +kernel
theorem dX11_pluck_7 : decode cX11_pluck 7 = .ok (.bipush 9, 2) := by decide +kernel
theorem dX11_pluck_9 : decode cX11_pluck 9 = .ok (.invokestatic 69, 3) := by decide +kernel
theorem dX11_pluck_12 : decode cX11_pluck 12 = .ok (.aload_n 0, 1) := by decide +kernel
theorem dX11_pluck_13 : decode cX11_pluck 13 = .ok (.getfield 12, 3) := by decide +kernel
theorem dX11_pluck_16 : decode cX11_pluck 16 = .ok (.iload_n 1, 1) := by decide +kernel
theorem dX11_pluck_17 : decode cX11_pluck 17 = .ok (.iload_n 2, 1) := by decide +kernel
theorem dX11_pluck_18 : decode cX11_pluck 18 = .ok (.invokevirtual 201, 3) := by decide +kernel
theorem dX11_pluck_21 : decode cX11_pluck 21 = .ok (.invokestatic 114, 3) := by decide +kernel
theorem dX11_pluck_24 : decode cX11_pluck 24 = .ok (.aload_n 0, 1) := by decide +kernel
theorem dX11_pluck_25 : decode cX11_pluck 25 = .ok (.getfield 22, 3) := by decide +kernel
theorem dX11_pluck_28 : decode cX11_pluck 28 = .ok (.aload_n 0, 1) := by decide +kernel
theorem dX11_pluck_29 : decode cX11_pluck 29 = .ok (.getfield 12, 3) := by decide +kernel
theorem dX11_pluck_32 : decode cX11_pluck 32 = .ok (.invokevirtual 76, 3) := by decide +kernel
theorem dX11_pluck_35 : decode cX11_pluck 35 = .ok (.aload_n 0, 1) := by decide +kernel
theorem dX11_pluck_36 : decode cX11_pluck 36 = .ok (.getfield 12, 3) := by decide +kernel
theorem dX11_pluck_39 : decode cX11_pluck 39 = .ok (.iload_n 1, 1) := by decide +kernel
theorem dX11_pluck_40 : decode cX11_pluck 40 = .ok (.iload_n 2, 1) := by decide +kernel
theorem dX11_pluck_41 : decode cX11_pluck 41 = .ok (.invokevirtual 204, 3) := by decide +kernel
theorem dX11_pluck_44 : decode cX11_pluck 44 = .ok (.ireturn, 1) := by decide +kernel
theorem dX11_payFines_0 : decode cX11_payFines 0 = .ok (.aload_n 0, 1) := by decide +kernel
theorem dX11_payFines_1 : decode cX11_payFines 1 = .ok (.iload_n 1, 1) := by decide +kernel
theorem dX11_payFines_2 : decode cX11_payFines 2 = .ok (.invokevirtual 151, 3) := by decide +kernel
theorem dX11_payFines_5 : decode cX11_payFines 5 = .ok (.iload_n 2, 1) := by decide +kernel
theorem dX11_payFines_6 : decode cX11_payFines 6 = .ok (.iconst 1, 1) := by decide +kernel
theorem dX11_payFines_7 : decode cX11_payFines 7 = .ok (.sipush 9999, 3) := by decide +kernel
theorem dX11_payFines_10 : decode cX11_payFines 10 = .ok (.invokestatic 69, 3) := by decide +kernel
theorem dX11_payFines_13 : decode cX11_payFines 13 = .ok (.aload_n 0, 1) := by decide +kernel
theorem dX11_payFines_14 : decode cX11_payFines 14 = .ok (.getfield 12, 3) := by decide +kernel
theorem dX11_payFines_17 : decode cX11_payFines 17 = .ok (.getfield 79, 3) := by decide +kernel
theorem dX11_payFines_20 : decode cX11_payFines 20 = .ok (.getfield 207, 3) := by decide +kernel
theorem dX11_payFines_23 : decode cX11_payFines 23 = .ok (.iload_n 1, 1) := by decide +kernel
theorem dX11_payFines_24 : decode cX11_payFines 24 = .ok (.iaload, 1) := by decide +kernel
theorem dX11_payFines_25 : decode cX11_payFines 25 = .ok (.iload_n 2, 1) := by decide +kernel
theorem dX11_payFines_26 : decode cX11_payFines 26 = .ok (.if_icmp .lt 7, 3) := by decide +kernel
theorem dX11_payFines_29 : decode cX11_payFines 29 = .ok (.iconst 1, 1) := by decide +kernel
theorem dX11_payFines_30 : decode cX11_payFines 30 = .ok (.goto 4, 3) := by decide +kernel
theorem dX11_payFines_33 : decode cX11_payFines 33 = .ok (.iconst 0, 1) := by decide +kernel
theorem dX11_payFines_34 : decode cX11_payFines 34 = .ok (.invokestatic 114, 3) := by decide +kernel
theorem dX11_payFines_37 : decode cX11_payFines 37 = .ok (.aload_n 0, 1) := by decide +kernel
theorem dX11_payFines_38 : decode cX11_payFines 38 = .ok (.getfield 22, 3) := by decide +kernel
theorem dX11_payFines_41 : decode cX11_payFines 41 = .ok (.aload_n 0, 1) := by decide +kernel
theorem dX11_payFines_42 : decode cX11_payFines 42 = .ok (.getfield 12, 3) := by decide +kernel
theorem dX11_payFines_45 : decode cX11_payFines 45 = .ok (.invokevirtual 76, 3) := by decide +kernel
theorem dX11_payFines_48 : decode cX11_payFines 48 = .ok (.aload_n 0, 1) := by decide +kernel
theorem dX11_payFines_49 : decode cX11_payFines 49 = .ok (.getfield 12, 3) := by decide +kernel
theorem dX11_payFines_52 : decode cX11_payFines 52 = .ok (.iload_n 1, 1) := by decide +kernel
theorem dX11_payFines_53 : decode cX11_payFines 53 = .ok (.iload_n 2, 1) := by decide +kernel
theorem dX11_payFines_54 : decode cX11_payFines 54 = .ok (.invokevirtual 210, 3) := by decide +kernel
theorem dX11_payFines_57 : decode cX11_payFines 57 = .ok (.aload_n 0, 1) := by decide +kernel
theorem dX11_payFines_58 : decode cX11_payFines 58 = .ok (.getfield 12, 3) := by decide +kernel
theorem dX11_payFines_61 : decode cX11_payFines 61 = .ok (.getfield 79, 3) := by decide +kernel
theorem dX11_payFines_64 : decode cX11_payFines 64 = .ok (.getfield 207, 3) := by decide +kernel
theorem dX11_payFines_67 : decode cX11_payFines 67 = .ok (.iload_n 1, 1) := by decide +kernel
theorem dX11_payFines_68 : decode cX11_payFines 68 = .ok (.iaload, 1) := by decide +kernel
theorem dX11_payFines_69 : decode cX11_payFines 69 = .ok (.ireturn, 1) := by decide +kernel
theorem dX11_pass_0 : decode cX11_pass 0 = .ok (.iload_n 1, 1) := by decide +kernel
theorem dX11_pass_1 : decode cX11_pass 1 = .ok (.iconst 1, 1) := by decide +kernel
theorem dX11_pass_2 : decode cX11_pass 2 = .ok (.sipush 500, 3) := by decide +kernel
theorem dX11_pass_5 : decode cX11_pass 5 = .ok (.invokestatic 69, 3) := by decide +kernel
theorem dX11_pass_8 : decode cX11_pass 8 = .ok (.aload_n 0, 1) := by decide +kernel
theorem dX11_pass_9 : decode cX11_pass 9 = .ok (.getfield 12, 3) := by decide +kernel
theorem dX11_pass_12 : decode cX11_pass 12 = .ok (.getfield 122, 3) := by decide +kernel
theorem dX11_pass_15 : decode cX11_pass 15 = .ok (.iload_n 1, 1) := by decide +kernel
theorem dX11_pass_16 : decode cX11_pass 16 = .ok (.invokevirtual 213, 3) := by decide +kernel
theorem dX11_pass_19 : decode cX11_pass 19 = .ok (.invokestatic 114, 3) := by decide +kernel
theorem dX11_pass_22 : decode cX11_pass 22 = .ok (.aload_n 0, 1) := by decide +kernel
theorem dX11_pass_23 : decode cX11_pass 23 = .ok (.getfield 22, 3) := by decide +kernel
theorem dX11_pass_26 : decode cX11_pass 26 = .ok (.aload_n 0, 1) := by decide +kernel
theorem dX11_pass_27 : decode cX11_pass 27 = .ok (.getfield 12, 3) := by decide +kernel
theorem dX11_pass_30 : decode cX11_pass 30 = .ok (.invokevirtual 76, 3) := by decide +kernel
theorem dX11_pass_33 : decode cX11_pass 33 = .ok (.aload_n 0, 1) := by decide +kernel
theorem dX11_pass_34 : decode cX11_pass 34 = .ok (.getfield 12, 3) := by decide +kernel
theorem dX11_pass_37 : decode cX11_pass 37 = .ok (.iload_n 1, 1) := by decide +kernel
theorem dX11_pass_38 : decode cX11_pass 38 = .ok (.invokevirtual 216, 3) := by decide +kernel
theorem dX11_pass_41 : decode cX11_pass 41 = .ok (.aload_n 0, 1) := by decide +kernel
theorem dX11_pass_42 : decode cX11_pass 42 = .ok (.getfield 12, 3) := by decide +kernel
theorem dX11_pass_45 : decode cX11_pass 45 = .ok (.getfield 122, 3) := by decide +kernel
theorem dX11_pass_48 : decode cX11_pass 48 = .ok (.getfield 219, 3) := by decide +kernel
theorem dX11_pass_51 : decode cX11_pass 51 = .ok (.ireturn, 1) := by decide +kernel
theorem dX11_undo_0 : decode cX11_undo 0 = .ok (.aload_n 0, 1) := by decide +kernel
theorem dX11_undo_1 : decode cX11_undo 1 = .ok (.getfield 22, 3) := by decide +kernel
theorem dX11_undo_4 : decode cX11_undo 4 = .ok (.getfield 222, 3) := by decide +kernel
theorem dX11_undo_7 : decode cX11_undo 7 = .ok (.ifCond .ne 5, 3) := by decide +kernel
theorem dX11_undo_10 : decode cX11_undo 10 = .ok (.iconst (-1), 1) := by decide +kernel
theorem dX11_undo_11 : decode cX11_undo 11 = .ok (.ireturn, 1) := by decide +kernel
theorem dX11_undo_12 : decode cX11_undo 12 = .ok (.aload_n 0, 1) := by decide +kernel
theorem dX11_undo_13 : decode cX11_undo 13 = .ok (.getfield 22, 3) := by decide +kernel
theorem dX11_undo_16 : decode cX11_undo 16 = .ok (.aload_n 0, 1) := by decide +kernel
theorem dX11_undo_17 : decode cX11_undo 17 = .ok (.getfield 12, 3) := by decide +kernel
theorem dX11_undo_20 : decode cX11_undo 20 = .ok (.invokevirtual 223, 3) := by decide +kernel
theorem dX11_undo_23 : decode cX11_undo 23 = .ok (.aload_n 0, 1) := by decide +kernel
theorem dX11_undo_24 : decode cX11_undo 24 = .ok (.getfield 22, 3) := by decide +kernel
theorem dX11_undo_27 : decode cX11_undo 27 = .ok (.getfield 222, 3) := by decide +kernel
theorem dX11_undo_30 : decode cX11_undo 30 = .ok (.ireturn, 1) := by decide +kernel
theorem dX11_time_0 : decode cX11_time 0 = .ok (.aload_n 0, 1) := by decide +kernel
theorem dX11_time_1 : decode cX11_time 1 = .ok (.getfield 12, 3) := by decide +kernel
theorem dX11_time_4 : decode cX11_time 4 = .ok (.getfield 122, 3) := by decide +kernel
theorem dX11_time_7 : decode cX11_time 7 = .ok (.getfield 219, 3) := by decide +kernel
theorem dX11_time_10 : decode cX11_time 10 = .ok (.ireturn, 1) := by decide +kernel
theorem dX11_day_0 : decode cX11_day 0 = .ok (.aload_n 0, 1) := by decide +kernel
theorem dX11_day_1 : decode cX11_day 1 = .ok (.getfield 12, 3) := by decide +kernel
theorem dX11_day_4 : decode cX11_day 4 = .ok (.getfield 122, 3) := by decide +kernel
theorem dX11_day_7 : decode cX11_day 7 = .ok (.invokevirtual 142, 3) := by decide +kernel
theorem dX11_day_10 : decode cX11_day 10 = .ok (.ireturn, 1) := by decide +kernel
theorem dX11_isOpen_0 : decode cX11_isOpen 0 = .ok (.aload_n 0, 1) := by decide +kernel
theorem dX11_isOpen_1 : decode cX11_isOpen 1 = .ok (.getfield 12, 3) := by decide +kernel
theorem dX11_isOpen_4 : decode cX11_isOpen 4 = .ok (.getfield 122, 3) := by decide +kernel
theorem dX11_isOpen_7 : decode cX11_isOpen 7 = .ok (.aload_n 0, 1) := by decide +kernel
theorem dX11_isOpen_8 : decode cX11_isOpen 8 = .ok (.getfield 12, 3) := by decide +kernel
theorem dX11_isOpen_11 : decode cX11_isOpen 11 = .ok (.getfield 122, 3) := by decide +kernel
theorem dX11_isOpen_14 : decode cX11_isOpen 14 = .ok (.invokevirtual 242, 3) := by decide +kernel
theorem dX11_isOpen_17 : decode cX11_isOpen 17 = .ok (.invokevirtual 245, 3) := by decide +kernel
theorem dX11_isOpen_20 : decode cX11_isOpen 20 = .ok (.ireturn, 1) := by decide +kernel
theorem dX11_ticksUntilOpen_0 : decode cX11_ticksUntilOpen 0 = .ok (.aload_n 0, 1) := by decide +kernel
theorem dX11_ticksUntilOpen_1 : decode cX11_ticksUntilOpen 1 = .ok (.getfield 12, 3) := by decide +kernel
theorem dX11_ticksUntilOpen_4 : decode cX11_ticksUntilOpen 4 = .ok (.getfield 122, 3) := by decide +kernel
theorem dX11_ticksUntilOpen_7 : decode cX11_ticksUntilOpen 7 = .ok (.invokevirtual 248, 3) := by decide +kernel
theorem dX11_ticksUntilOpen_10 : decode cX11_ticksUntilOpen 10 = .ok (.ireturn, 1) := by decide +kernel
theorem dX11_bedCount_0 : decode cX11_bedCount 0 = .ok (.aload_n 0, 1) := by decide +kernel
theorem dX11_bedCount_1 : decode cX11_bedCount 1 = .ok (.getfield 12, 3) := by decide +kernel
theorem dX11_bedCount_4 : decode cX11_bedCount 4 = .ok (.getfield 104, 3) := by decide +kernel
theorem dX11_bedCount_7 : decode cX11_bedCount 7 = .ok (.getfield 251, 3) := by decide +kernel
theorem dX11_bedCount_10 : decode cX11_bedCount 10 = .ok (.ireturn, 1) := by decide +kernel
theorem dX11_isInSeason_0 : decode cX11_isInSeason 0 = .ok (.aload_n 0, 1) := by decide +kernel
theorem dX11_isInSeason_1 : decode cX11_isInSeason 1 = .ok (.iload_n 1, 1) := by decide +kernel
theorem dX11_isInSeason_2 : decode cX11_isInSeason 2 = .ok (.invokevirtual 194, 3) := by decide +kernel
theorem dX11_isInSeason_5 : decode cX11_isInSeason 5 = .ok (.aload_n 0, 1) := by decide +kernel
theorem dX11_isInSeason_6 : decode cX11_isInSeason 6 = .ok (.getfield 12, 3) := by decide +kernel
theorem dX11_isInSeason_9 : decode cX11_isInSeason 9 = .ok (.getfield 104, 3) := by decide +kernel
theorem dX11_isInSeason_12 : decode cX11_isInSeason 12 = .ok (.iload_n 1, 1) := by decide +kernel
theorem dX11_isInSeason_13 : decode cX11_isInSeason 13 = .ok (.aload_n 0, 1) := by decide +kernel
theorem dX11_isInSeason_14 : decode cX11_isInSeason 14 = .ok (.getfield 12, 3) := by decide +kernel
theorem dX11_isInSeason_17 : decode cX11_isInSeason 17 = .ok (.getfield 122, 3) := by decide +kernel
theorem dX11_isInSeason_20 : decode cX11_isInSeason 20 = .ok (.invokevirtual 142, 3) := by decide +kernel
theorem dX11_isInSeason_23 : decode cX11_isInSeason 23 = .ok (.invokevirtual 255, 3) := by decide +kernel
theorem dX11_isInSeason_26 : decode cX11_isInSeason 26 = .ok (.ireturn, 1) := by decide +kernel
theorem dX11_blooms_0 : decode cX11_blooms 0 = .ok (.aload_n 0, 1) := by decide +kernel
theorem dX11_blooms_1 : decode cX11_blooms 1 = .ok (.iload_n 1, 1) := by decide +kernel
theorem dX11_blooms_2 : decode cX11_blooms 2 = .ok (.invokevirtual 194, 3) := by decide +kernel
theorem dX11_blooms_5 : decode cX11_blooms 5 = .ok (.aload_n 0, 1) := by decide +kernel
theorem dX11_blooms_6 : decode cX11_blooms 6 = .ok (.getfield 12, 3) := by decide +kernel
theorem dX11_blooms_9 : decode cX11_blooms 9 = .ok (.getfield 104, 3) := by decide +kernel
theorem dX11_blooms_12 : decode cX11_blooms 12 = .ok (.getfield 258, 3) := by decide +kernel
theorem dX11_blooms_15 : decode cX11_blooms 15 = .ok (.iload_n 1, 1) := by decide +kernel
theorem dX11_blooms_16 : decode cX11_blooms 16 = .ok (.iaload, 1) := by decide +kernel
theorem dX11_blooms_17 : decode cX11_blooms 17 = .ok (.ireturn, 1) := by decide +kernel
theorem dX11_placesLeft_0 : decode cX11_placesLeft 0 = .ok (.aload_n 0, 1) := by decide +kernel
theorem dX11_placesLeft_1 : decode cX11_placesLeft 1 = .ok (.iload_n 1, 1) := by decide +kernel
theorem dX11_placesLeft_2 : decode cX11_placesLeft 2 = .ok (.invokevirtual 194, 3) := by decide +kernel
theorem dX11_placesLeft_5 : decode cX11_placesLeft 5 = .ok (.aload_n 0, 1) := by decide +kernel
theorem dX11_placesLeft_6 : decode cX11_placesLeft 6 = .ok (.getfield 12, 3) := by decide +kernel
theorem dX11_placesLeft_9 : decode cX11_placesLeft 9 = .ok (.getfield 104, 3) := by decide +kernel
theorem dX11_placesLeft_12 : decode cX11_placesLeft 12 = .ok (.iload_n 1, 1) := by decide +kernel
theorem dX11_placesLeft_13 : decode cX11_placesLeft 13 = .ok (.invokevirtual 261, 3) := by decide +kernel
theorem dX11_placesLeft_16 : decode cX11_placesLeft 16 = .ok (.ireturn, 1) := by decide +kernel
theorem dX11_visitsTo_0 : decode cX11_visitsTo 0 = .ok (.aload_n 0, 1) := by decide +kernel
theorem dX11_visitsTo_1 : decode cX11_visitsTo 1 = .ok (.iload_n 1, 1) := by decide +kernel
theorem dX11_visitsTo_2 : decode cX11_visitsTo 2 = .ok (.invokevirtual 194, 3) := by decide +kernel
theorem dX11_visitsTo_5 : decode cX11_visitsTo 5 = .ok (.aload_n 0, 1) := by decide +kernel
theorem dX11_visitsTo_6 : decode cX11_visitsTo 6 = .ok (.getfield 12, 3) := by decide +kernel
theorem dX11_visitsTo_9 : decode cX11_visitsTo 9 = .ok (.getfield 104, 3) := by decide +kernel
theorem dX11_visitsTo_12 : decode cX11_visitsTo 12 = .ok (.getfield 264, 3) := by decide +kernel
theorem dX11_visitsTo_15 : decode cX11_visitsTo 15 = .ok (.iload_n 1, 1) := by decide +kernel
theorem dX11_visitsTo_16 : decode cX11_visitsTo 16 = .ok (.iaload, 1) := by decide +kernel
theorem dX11_visitsTo_17 : decode cX11_visitsTo 17 = .ok (.ireturn, 1) := by decide +kernel
theorem dX11_passCount_0 : decode cX11_passCount 0 = .ok (.aload_n 0, 1) := by decide +kernel
theorem dX11_passCount_1 : decode cX11_passCount 1 = .ok (.getfield 12, 3) := by decide +kernel
theorem dX11_passCount_4 : decode cX11_passCount 4 = .ok (.getfield 79, 3) := by decide +kernel
theorem dX11_passCount_7 : decode cX11_passCount 7 = .ok (.getfield 83, 3) := by decide +kernel
theorem dX11_passCount_10 : decode cX11_passCount 10 = .ok (.ireturn, 1) := by decide +kernel
theorem dX11_firstDay_0 : decode cX11_firstDay 0 = .ok (.aload_n 0, 1) := by decide +kernel
theorem dX11_firstDay_1 : decode cX11_firstDay 1 = .ok (.iload_n 1, 1) := by decide +kernel
theorem dX11_firstDay_2 : decode cX11_firstDay 2 = .ok (.invokevirtual 151, 3) := by decide +kernel
theorem dX11_firstDay_5 : decode cX11_firstDay 5 = .ok (.aload_n 0, 1) := by decide +kernel
theorem dX11_firstDay_6 : decode cX11_firstDay 6 = .ok (.getfield 12, 3) := by decide +kernel
theorem dX11_firstDay_9 : decode cX11_firstDay 9 = .ok (.getfield 79, 3) := by decide +kernel
theorem dX11_firstDay_12 : decode cX11_firstDay 12 = .ok (.getfield 267, 3) := by decide +kernel
theorem dX11_firstDay_15 : decode cX11_firstDay 15 = .ok (.iload_n 1, 1) := by decide +kernel
theorem dX11_firstDay_16 : decode cX11_firstDay 16 = .ok (.iaload, 1) := by decide +kernel
theorem dX11_firstDay_17 : decode cX11_firstDay 17 = .ok (.ireturn, 1) := by decide +kernel
theorem dX11_lastDay_0 : decode cX11_lastDay 0 = .ok (.aload_n 0, 1) := by decide +kernel
theorem dX11_lastDay_1 : decode cX11_lastDay 1 = .ok (.iload_n 1, 1) := by decide +kernel
theorem dX11_lastDay_2 : decode cX11_lastDay 2 = .ok (.invokevirtual 151, 3) := by decide +kernel
theorem dX11_lastDay_5 : decode cX11_lastDay 5 = .ok (.aload_n 0, 1) := by decide +kernel
theorem dX11_lastDay_6 : decode cX11_lastDay 6 = .ok (.getfield 12, 3) := by decide +kernel
theorem dX11_lastDay_9 : decode cX11_lastDay 9 = .ok (.getfield 79, 3) := by decide +kernel
theorem dX11_lastDay_12 : decode cX11_lastDay 12 = .ok (.iload_n 1, 1) := by decide +kernel
theorem dX11_lastDay_13 : decode cX11_lastDay 13 = .ok (.invokevirtual 270, 3) := by decide +kernel
theorem dX11_lastDay_16 : decode cX11_lastDay 16 = .ok (.ireturn, 1) := by decide +kernel
theorem dX11_priceOf_0 : decode cX11_priceOf 0 = .ok (.aload_n 0, 1) := by decide +kernel
theorem dX11_priceOf_1 : decode cX11_priceOf 1 = .ok (.iload_n 1, 1) := by decide +kernel
theorem dX11_priceOf_2 : decode cX11_priceOf 2 = .ok (.invokevirtual 151, 3) := by decide +kernel
theorem dX11_priceOf_5 : decode cX11_priceOf 5 = .ok (.aload_n 0, 1) := by decide +kernel
theorem dX11_priceOf_6 : decode cX11_priceOf 6 = .ok (.getfield 12, 3) := by decide +kernel
theorem dX11_priceOf_9 : decode cX11_priceOf 9 = .ok (.getfield 79, 3) := by decide +kernel
theorem dX11_priceOf_12 : decode cX11_priceOf 12 = .ok (.getfield 273, 3) := by decide +kernel
theorem dX11_priceOf_15 : decode cX11_priceOf 15 = .ok (.iload_n 1, 1) := by decide +kernel
theorem dX11_priceOf_16 : decode cX11_priceOf 16 = .ok (.iaload, 1) := by decide +kernel
theorem dX11_priceOf_17 : decode cX11_priceOf 17 = .ok (.ireturn, 1) := by decide +kernel
theorem dX11_cardOf_0 : decode cX11_cardOf 0 = .ok (.aload_n 0, 1) := by decide +kernel
theorem dX11_cardOf_1 : decode cX11_cardOf 1 = .ok (.iload_n 1, 1) := by decide +kernel
theorem dX11_cardOf_2 : decode cX11_cardOf 2 = .ok (.invokevirtual 151, 3) := by decide +kernel
theorem dX11_cardOf_5 : decode cX11_cardOf 5 = .ok (.aload_n 0, 1) := by decide +kernel
theorem dX11_cardOf_6 : decode cX11_cardOf 6 = .ok (.getfield 12, 3) := by decide +kernel
theorem dX11_cardOf_9 : decode cX11_cardOf 9 = .ok (.getfield 79, 3) := by decide +kernel
theorem dX11_cardOf_12 : decode cX11_cardOf 12 = .ok (.getfield 274, 3) := by decide +kernel
theorem dX11_cardOf_15 : decode cX11_cardOf 15 = .ok (.iload_n 1, 1) := by decide +kernel
theorem dX11_cardOf_16 : decode cX11_cardOf 16 = .ok (.iaload, 1) := by decide +kernel
theorem dX11_cardOf_17 : decode cX11_cardOf 17 = .ok (.ireturn, 1) := by decide +kernel
theorem dX11_isReturned_0 : decode cX11_isReturned 0 = .ok (.aload_n 0, 1) := by decide +kernel
theorem dX11_isReturned_1 : decode cX11_isReturned 1 = .ok (.iload_n 1, 1) := by decide +kernel
theorem dX11_isReturned_2 : decode cX11_isReturned 2 = .ok (.invokevirtual 151, 3) := by decide +kernel
theorem dX11_isReturned_5 : decode cX11_isReturned 5 = .ok (.aload_n 0, 1) := by decide +kernel
theorem dX11_isReturned_6 : decode cX11_isReturned 6 = .ok (.getfield 12, 3) := by decide +kernel
theorem dX11_isReturned_9 : decode cX11_isReturned 9 = .ok (.getfield 79, 3) := by decide +kernel
theorem dX11_isReturned_12 : decode cX11_isReturned 12 = .ok (.getfield 184, 3) := by decide +kernel
theorem dX11_isReturned_15 : decode cX11_isReturned 15 = .ok (.iload_n 1, 1) := by decide +kernel
theorem dX11_isReturned_16 : decode cX11_isReturned 16 = .ok (.baload, 1) := by decide +kernel
theorem dX11_isReturned_17 : decode cX11_isReturned 17 = .ok (.ireturn, 1) := by decide +kernel
theorem dX11_usedDays_0 : decode cX11_usedDays 0 = .ok (.aload_n 0, 1) := by decide +kernel
theorem dX11_usedDays_1 : decode cX11_usedDays 1 = .ok (.iload_n 1, 1) := by decide +kernel
theorem dX11_usedDays_2 : decode cX11_usedDays 2 = .ok (.invokevirtual 151, 3) := by decide +kernel
theorem dX11_usedDays_5 : decode cX11_usedDays 5 = .ok (.aload_n 0, 1) := by decide +kernel
theorem dX11_usedDays_6 : decode cX11_usedDays 6 = .ok (.getfield 12, 3) := by decide +kernel
theorem dX11_usedDays_9 : decode cX11_usedDays 9 = .ok (.getfield 79, 3) := by decide +kernel
theorem dX11_usedDays_12 : decode cX11_usedDays 12 = .ok (.iload_n 1, 1) := by decide +kernel
theorem dX11_usedDays_13 : decode cX11_usedDays 13 = .ok (.invokevirtual 277, 3) := by decide +kernel
theorem dX11_usedDays_16 : decode cX11_usedDays 16 = .ok (.ireturn, 1) := by decide +kernel
theorem dX11_visitsWith_0 : decode cX11_visitsWith 0 = .ok (.aload_n 0, 1) := by decide +kernel
theorem dX11_visitsWith_1 : decode cX11_visitsWith 1 = .ok (.iload_n 1, 1) := by decide +kernel
theorem dX11_visitsWith_2 : decode cX11_visitsWith 2 = .ok (.invokevirtual 151, 3) := by decide +kernel
theorem dX11_visitsWith_5 : decode cX11_visitsWith 5 = .ok (.aload_n 0, 1) := by decide +kernel
theorem dX11_visitsWith_6 : decode cX11_visitsWith 6 = .ok (.getfield 12, 3) := by decide +kernel
theorem dX11_visitsWith_9 : decode cX11_visitsWith 9 = .ok (.getfield 79, 3) := by decide +kernel
theorem dX11_visitsWith_12 : decode cX11_visitsWith 12 = .ok (.getfield 280, 3) := by decide +kernel
theorem dX11_visitsWith_15 : decode cX11_visitsWith 15 = .ok (.iload_n 1, 1) := by decide +kernel
theorem dX11_visitsWith_16 : decode cX11_visitsWith 16 = .ok (.iaload, 1) := by decide +kernel
theorem dX11_visitsWith_17 : decode cX11_visitsWith 17 = .ok (.ireturn, 1) := by decide +kernel
theorem dX11_refundOf_0 : decode cX11_refundOf 0 = .ok (.aload_n 0, 1) := by decide +kernel
theorem dX11_refundOf_1 : decode cX11_refundOf 1 = .ok (.iload_n 1, 1) := by decide +kernel
theorem dX11_refundOf_2 : decode cX11_refundOf 2 = .ok (.invokevirtual 151, 3) := by decide +kernel
theorem dX11_refundOf_5 : decode cX11_refundOf 5 = .ok (.aload_n 0, 1) := by decide +kernel
theorem dX11_refundOf_6 : decode cX11_refundOf 6 = .ok (.getfield 12, 3) := by decide +kernel
theorem dX11_refundOf_9 : decode cX11_refundOf 9 = .ok (.iload_n 1, 1) := by decide +kernel
theorem dX11_refundOf_10 : decode cX11_refundOf 10 = .ok (.invokevirtual 281, 3) := by decide +kernel
theorem dX11_refundOf_13 : decode cX11_refundOf 13 = .ok (.ireturn, 1) := by decide +kernel
theorem dX11_owed_0 : decode cX11_owed 0 = .ok (.aload_n 0, 1) := by decide +kernel
theorem dX11_owed_1 : decode cX11_owed 1 = .ok (.iload_n 1, 1) := by decide +kernel
theorem dX11_owed_2 : decode cX11_owed 2 = .ok (.invokevirtual 151, 3) := by decide +kernel
theorem dX11_owed_5 : decode cX11_owed 5 = .ok (.aload_n 0, 1) := by decide +kernel
theorem dX11_owed_6 : decode cX11_owed 6 = .ok (.getfield 12, 3) := by decide +kernel
theorem dX11_owed_9 : decode cX11_owed 9 = .ok (.getfield 79, 3) := by decide +kernel
theorem dX11_owed_12 : decode cX11_owed 12 = .ok (.getfield 207, 3) := by decide +kernel
theorem dX11_owed_15 : decode cX11_owed 15 = .ok (.iload_n 1, 1) := by decide +kernel
theorem dX11_owed_16 : decode cX11_owed 16 = .ok (.iaload, 1) := by decide +kernel
theorem dX11_owed_17 : decode cX11_owed 17 = .ok (.ireturn, 1) := by decide +kernel
theorem dX11_ticksUntilReady_0 : decode cX11_ticksUntilReady 0 = .ok (.aload_n 0, 1) := by decide +kernel
theorem dX11_ticksUntilReady_1 : decode cX11_ticksUntilReady 1 = .ok (.iload_n 1, 1) := by decide +kernel
theorem dX11_ticksUntilReady_2 : decode cX11_ticksUntilReady 2 = .ok (.invokevirtual 151, 3) := by decide +kernel
theorem dX11_ticksUntilReady_5 : decode cX11_ticksUntilReady 5 = .ok (.aload_n 0, 1) := by decide +kernel
theorem dX11_ticksUntilReady_6 : decode cX11_ticksUntilReady 6 = .ok (.getfield 12, 3) := by decide +kernel
theorem dX11_ticksUntilReady_9 : decode cX11_ticksUntilReady 9 = .ok (.iload_n 1, 1) := by decide +kernel
theorem dX11_ticksUntilReady_10 : decode cX11_ticksUntilReady 10 = .ok (.invokevirtual 284, 3) := by decide +kernel
theorem dX11_ticksUntilReady_13 : decode cX11_ticksUntilReady 13 = .ok (.ireturn, 1) := by decide +kernel
theorem dX11_cardCount_0 : decode cX11_cardCount 0 = .ok (.aload_n 0, 1) := by decide +kernel
theorem dX11_cardCount_1 : decode cX11_cardCount 1 = .ok (.getfield 12, 3) := by decide +kernel
theorem dX11_cardCount_4 : decode cX11_cardCount 4 = .ok (.getfield 287, 3) := by decide +kernel
theorem dX11_cardCount_7 : decode cX11_cardCount 7 = .ok (.getfield 291, 3) := by decide +kernel
theorem dX11_cardCount_10 : decode cX11_cardCount 10 = .ok (.ireturn, 1) := by decide +kernel
theorem dX11_passOf_0 : decode cX11_passOf 0 = .ok (.aload_n 0, 1) := by decide +kernel
theorem dX11_passOf_1 : decode cX11_passOf 1 = .ok (.iload_n 1, 1) := by decide +kernel
theorem dX11_passOf_2 : decode cX11_passOf 2 = .ok (.invokevirtual 191, 3) := by decide +kernel
theorem dX11_passOf_5 : decode cX11_passOf 5 = .ok (.aload_n 0, 1) := by decide +kernel
theorem dX11_passOf_6 : decode cX11_passOf 6 = .ok (.getfield 12, 3) := by decide +kernel
theorem dX11_passOf_9 : decode cX11_passOf 9 = .ok (.getfield 287, 3) := by decide +kernel
theorem dX11_passOf_12 : decode cX11_passOf 12 = .ok (.getfield 294, 3) := by decide +kernel
theorem dX11_passOf_15 : decode cX11_passOf 15 = .ok (.iload_n 1, 1) := by decide +kernel
theorem dX11_passOf_16 : decode cX11_passOf 16 = .ok (.iaload, 1) := by decide +kernel
theorem dX11_passOf_17 : decode cX11_passOf 17 = .ok (.ireturn, 1) := by decide +kernel
theorem dX11_isBlocked_0 : decode cX11_isBlocked 0 = .ok (.aload_n 0, 1) := by decide +kernel
theorem dX11_isBlocked_1 : decode cX11_isBlocked 1 = .ok (.iload_n 1, 1) := by decide +kernel
theorem dX11_isBlocked_2 : decode cX11_isBlocked 2 = .ok (.invokevirtual 191, 3) := by decide +kernel
theorem dX11_isBlocked_5 : decode cX11_isBlocked 5 = .ok (.aload_n 0, 1) := by decide +kernel
theorem dX11_isBlocked_6 : decode cX11_isBlocked 6 = .ok (.getfield 12, 3) := by decide +kernel
theorem dX11_isBlocked_9 : decode cX11_isBlocked 9 = .ok (.getfield 287, 3) := by decide +kernel
theorem dX11_isBlocked_12 : decode cX11_isBlocked 12 = .ok (.getfield 297, 3) := by decide +kernel
theorem dX11_isBlocked_15 : decode cX11_isBlocked 15 = .ok (.iload_n 1, 1) := by decide +kernel
theorem dX11_isBlocked_16 : decode cX11_isBlocked 16 = .ok (.baload, 1) := by decide +kernel
theorem dX11_isBlocked_17 : decode cX11_isBlocked 17 = .ok (.ireturn, 1) := by decide +kernel
theorem dX11_whyRefused_0 : decode cX11_whyRefused 0 = .ok (.aload_n 0, 1) := by decide +kernel
theorem dX11_whyRefused_1 : decode cX11_whyRefused 1 = .ok (.iload_n 1, 1) := by decide +kernel
theorem dX11_whyRefused_2 : decode cX11_whyRefused 2 = .ok (.invokevirtual 191, 3) := by decide +kernel
theorem dX11_whyRefused_5 : decode cX11_whyRefused 5 = .ok (.aload_n 0, 1) := by decide +kernel
theorem dX11_whyRefused_6 : decode cX11_whyRefused 6 = .ok (.iload_n 2, 1) := by decide +kernel
theorem dX11_whyRefused_7 : decode cX11_whyRefused 7 = .ok (.invokevirtual 194, 3) := by decide +kernel
theorem dX11_whyRefused_10 : decode cX11_whyRefused 10 = .ok (.aload_n 0, 1) := by decide +kernel
theorem dX11_whyRefused_11 : decode cX11_whyRefused 11 = .ok (.getfield 12, 3) := by decide +kernel
theorem dX11_whyRefused_14 : decode cX11_whyRefused 14 = .ok (.iload_n 1, 1) := by decide +kernel
theorem dX11_whyRefused_15 : decode cX11_whyRefused 15 = .ok (.iload_n 2, 1) := by decide +kernel
theorem dX11_whyRefused_16 : decode cX11_whyRefused 16 = .ok (.invokevirtual 300, 3) := by decide +kernel
theorem dX11_whyRefused_19 : decode cX11_whyRefused 19 = .ok (.ireturn, 1) := by decide +kernel
theorem dX11_takings_0 : decode cX11_takings 0 = .ok (.aload_n 0, 1) := by decide +kernel
theorem dX11_takings_1 : decode cX11_takings 1 = .ok (.getfield 12, 3) := by decide +kernel
theorem dX11_takings_4 : decode cX11_takings 4 = .ok (.getfield 313, 3) := by decide +kernel
theorem dX11_takings_7 : decode cX11_takings 7 = .ok (.getfield 317, 3) := by decide +kernel
theorem dX11_takings_10 : decode cX11_takings 10 = .ok (.aload_n 0, 1) := by decide +kernel
theorem dX11_takings_11 : decode cX11_takings 11 = .ok (.getfield 12, 3) := by decide +kernel
theorem dX11_takings_14 : decode cX11_takings 14 = .ok (.getfield 313, 3) := by decide +kernel
theorem dX11_takings_17 : decode cX11_takings 17 = .ok (.getfield 322, 3) := by decide +kernel
theorem dX11_takings_20 : decode cX11_takings 20 = .ok (.isub, 1) := by decide +kernel
theorem dX11_takings_21 : decode cX11_takings 21 = .ok (.ireturn, 1) := by decide +kernel
theorem dX11_refunds_0 : decode cX11_refunds 0 = .ok (.aload_n 0, 1) := by decide +kernel
theorem dX11_refunds_1 : decode cX11_refunds 1 = .ok (.getfield 12, 3) := by decide +kernel
theorem dX11_refunds_4 : decode cX11_refunds 4 = .ok (.getfield 313, 3) := by decide +kernel
theorem dX11_refunds_7 : decode cX11_refunds 7 = .ok (.getfield 322, 3) := by decide +kernel
theorem dX11_refunds_10 : decode cX11_refunds 10 = .ok (.ireturn, 1) := by decide +kernel
theorem dX11_finesPaid_0 : decode cX11_finesPaid 0 = .ok (.aload_n 0, 1) := by decide +kernel
theorem dX11_finesPaid_1 : decode cX11_finesPaid 1 = .ok (.getfield 12, 3) := by decide +kernel
theorem dX11_finesPaid_4 : decode cX11_finesPaid 4 = .ok (.getfield 313, 3) := by decide +kernel
theorem dX11_finesPaid_7 : decode cX11_finesPaid 7 = .ok (.getfield 325, 3) := by decide +kernel
theorem dX11_finesPaid_10 : decode cX11_finesPaid 10 = .ok (.ireturn, 1) := by decide +kernel
theorem dX11_plucked_0 : decode cX11_plucked 0 = .ok (.aload_n 0, 1) := by decide +kernel
theorem dX11_plucked_1 : decode cX11_plucked 1 = .ok (.getfield 12, 3) := by decide +kernel
theorem dX11_plucked_4 : decode cX11_plucked 4 = .ok (.getfield 313, 3) := by decide +kernel
theorem dX11_plucked_7 : decode cX11_plucked 7 = .ok (.getfield 328, 3) := by decide +kernel
theorem dX11_plucked_10 : decode cX11_plucked 10 = .ok (.ireturn, 1) := by decide +kernel
theorem dX11_alarms_0 : decode cX11_alarms 0 = .ok (.aload_n 0, 1) := by decide +kernel
theorem dX11_alarms_1 : decode cX11_alarms 1 = .ok (.getfield 12, 3) := by decide +kernel
theorem dX11_alarms_4 : decode cX11_alarms 4 = .ok (.getfield 313, 3) := by decide +kernel
theorem dX11_alarms_7 : decode cX11_alarms 7 = .ok (.getfield 331, 3) := by decide +kernel
theorem dX11_alarms_10 : decode cX11_alarms 10 = .ok (.ireturn, 1) := by decide +kernel
theorem dX11_violations_0 : decode cX11_violations 0 = .ok (.aload_n 0, 1) := by decide +kernel
theorem dX11_violations_1 : decode cX11_violations 1 = .ok (.getfield 12, 3) := by decide +kernel
theorem dX11_violations_4 : decode cX11_violations 4 = .ok (.invokevirtual 343, 3) := by decide +kernel
theorem dX11_violations_7 : decode cX11_violations 7 = .ok (.aload_n 0, 1) := by decide +kernel
theorem dX11_violations_8 : decode cX11_violations 8 = .ok (.getfield 12, 3) := by decide +kernel
theorem dX11_violations_11 : decode cX11_violations 11 = .ok (.getfield 104, 3) := by decide +kernel
theorem dX11_violations_14 : decode cX11_violations 14 = .ok (.invokevirtual 346, 3) := by decide +kernel
theorem dX11_violations_17 : decode cX11_violations 17 = .ok (.iadd, 1) := by decide +kernel
theorem dX11_violations_18 : decode cX11_violations 18 = .ok (.aload_n 0, 1) := by decide +kernel
theorem dX11_violations_19 : decode cX11_violations 19 = .ok (.getfield 12, 3) := by decide +kernel
theorem dX11_violations_22 : decode cX11_violations 22 = .ok (.invokevirtual 349, 3) := by decide +kernel
theorem dX11_violations_25 : decode cX11_violations 25 = .ok (.iadd, 1) := by decide +kernel
theorem dX11_violations_26 : decode cX11_violations 26 = .ok (.ireturn, 1) := by decide +kernel
theorem dX11_requireScent_0 : decode cX11_requireScent 0 = .ok (.aload_n 0, 1) := by decide +kernel
theorem dX11_requireScent_1 : decode cX11_requireScent 1 = .ok (.getfield 12, 3) := by decide +kernel
theorem dX11_requireScent_4 : decode cX11_requireScent 4 = .ok (.getfield 91, 3) := by decide +kernel
theorem dX11_requireScent_7 : decode cX11_requireScent 7 = .ok (.iload_n 1, 1) := by decide +kernel
theorem dX11_requireScent_8 : decode cX11_requireScent 8 = .ok (.invokevirtual 361, 3) := by decide +kernel
theorem dX11_requireScent_11 : decode cX11_requireScent 11 = .ok (.ifCond .ne 14, 3) := by decide +kernel
theorem dX11_requireScent_14 : decode cX11_requireScent 14 = .ok (.new 364, 3) := by decide +kernel
theorem dX11_requireScent_17 : decode cX11_requireScent 17 = .ok (.dup, 1) := by decide +kernel
theorem dX11_requireScent_18 : decode cX11_requireScent 18 = .ok (.ldc_w 366, 3) := by decide +kernel
theorem dX11_requireScent_21 : decode cX11_requireScent 21 = .ok (.invokespecial 368, 3) := by decide +kernel
theorem dX11_requireScent_24 : decode cX11_requireScent 24 = .ok (.athrow, 1) := by decide +kernel
theorem dX11_requireScent_25 : decode cX11_requireScent 25 = .ok (.return_, 1) := by decide +kernel
theorem dX11_requireBed_0 : decode cX11_requireBed 0 = .ok (.aload_n 0, 1) := by decide +kernel
theorem dX11_requireBed_1 : decode cX11_requireBed 1 = .ok (.getfield 12, 3) := by decide +kernel
theorem dX11_requireBed_4 : decode cX11_requireBed 4 = .ok (.getfield 104, 3) := by decide +kernel
theorem dX11_requireBed_7 : decode cX11_requireBed 7 = .ok (.iload_n 1, 1) := by decide +kernel
theorem dX11_requireBed_8 : decode cX11_requireBed 8 = .ok (.invokevirtual 369, 3) := by decide +kernel
theorem dX11_requireBed_11 : decode cX11_requireBed 11 = .ok (.ifCond .ne 14, 3) := by decide +kernel
theorem dX11_requireBed_14 : decode cX11_requireBed 14 = .ok (.new 364, 3) := by decide +kernel
theorem dX11_requireBed_17 : decode cX11_requireBed 17 = .ok (.dup, 1) := by decide +kernel
theorem dX11_requireBed_18 : decode cX11_requireBed 18 = .ok (.ldc_w 370, 3) := by decide +kernel
theorem dX11_requireBed_21 : decode cX11_requireBed 21 = .ok (.invokespecial 368, 3) := by decide +kernel
theorem dX11_requireBed_24 : decode cX11_requireBed 24 = .ok (.athrow, 1) := by decide +kernel
theorem dX11_requireBed_25 : decode cX11_requireBed 25 = .ok (.return_, 1) := by decide +kernel
theorem dX11_requirePass_0 : decode cX11_requirePass 0 = .ok (.aload_n 0, 1) := by decide +kernel
theorem dX11_requirePass_1 : decode cX11_requirePass 1 = .ok (.getfield 12, 3) := by decide +kernel
theorem dX11_requirePass_4 : decode cX11_requirePass 4 = .ok (.getfield 79, 3) := by decide +kernel
theorem dX11_requirePass_7 : decode cX11_requirePass 7 = .ok (.iload_n 1, 1) := by decide +kernel
theorem dX11_requirePass_8 : decode cX11_requirePass 8 = .ok (.invokevirtual 372, 3) := by decide +kernel
theorem dX11_requirePass_11 : decode cX11_requirePass 11 = .ok (.ifCond .ne 14, 3) := by decide +kernel
theorem dX11_requirePass_14 : decode cX11_requirePass 14 = .ok (.new 364, 3) := by decide +kernel
theorem dX11_requirePass_17 : decode cX11_requirePass 17 = .ok (.dup, 1) := by decide +kernel
theorem dX11_requirePass_18 : decode cX11_requirePass 18 = .ok (.ldc_w 373, 3) := by decide +kernel
theorem dX11_requirePass_21 : decode cX11_requirePass 21 = .ok (.invokespecial 368, 3) := by decide +kernel
theorem dX11_requirePass_24 : decode cX11_requirePass 24 = .ok (.athrow, 1) := by decide +kernel
theorem dX11_requirePass_25 : decode cX11_requirePass 25 = .ok (.return_, 1) := by decide +kernel
theorem dX11_requireCard_0 : decode cX11_requireCard 0 = .ok (.aload_n 0, 1) := by decide +kernel
theorem dX11_requireCard_1 : decode cX11_requireCard 1 = .ok (.getfield 12, 3) := by decide +kernel
theorem dX11_requireCard_4 : decode cX11_requireCard 4 = .ok (.getfield 287, 3) := by decide +kernel
theorem dX11_requireCard_7 : decode cX11_requireCard 7 = .ok (.iload_n 1, 1) := by decide +kernel
theorem dX11_requireCard_8 : decode cX11_requireCard 8 = .ok (.invokevirtual 375, 3) := by decide +kernel
theorem dX11_requireCard_11 : decode cX11_requireCard 11 = .ok (.ifCond .ne 14, 3) := by decide +kernel
theorem dX11_requireCard_14 : decode cX11_requireCard 14 = .ok (.new 364, 3) := by decide +kernel
theorem dX11_requireCard_17 : decode cX11_requireCard 17 = .ok (.dup, 1) := by decide +kernel
theorem dX11_requireCard_18 : decode cX11_requireCard 18 = .ok (.ldc_w 376, 3) := by decide +kernel
theorem dX11_requireCard_21 : decode cX11_requireCard 21 = .ok (.invokespecial 368, 3) := by decide +kernel
theorem dX11_requireCard_24 : decode cX11_requireCard 24 = .ok (.athrow, 1) := by decide +kernel
theorem dX11_requireCard_25 : decode cX11_requireCard 25 = .ok (.return_, 1) := by decide +kernel
theorem dX11_requireSetOfScents_0 : decode cX11_requireSetOfScents 0 = .ok (.iload_n 1, 1) := by decide +kernel
theorem dX11_requireSetOfScents_1 : decode cX11_requireSetOfScents 1 = .ok (.iconst 1, 1) := by decide +kernel
theorem dX11_requireSetOfScents_2 : decode cX11_requireSetOfScents 2 = .ok (.aload_n 0, 1) := by decide +kernel
theorem dX11_requireSetOfScents_3 : decode cX11_requireSetOfScents 3 = .ok (.getfield 12, 3) := by decide +kernel
theorem dX11_requireSetOfScents_6 : decode cX11_requireSetOfScents 6 = .ok (.getfield 91, 3) := by decide +kernel
theorem dX11_requireSetOfScents_9 : decode cX11_requireSetOfScents 9 = .ok (.invokevirtual 378, 3) := by decide +kernel
theorem dX11_requireSetOfScents_12 : decode cX11_requireSetOfScents 12 = .ok (.invokestatic 69, 3) := by decide +kernel
theorem dX11_requireSetOfScents_15 : decode cX11_requireSetOfScents 15 = .ok (.return_, 1) := by decide +kernel
theorem dX11_requireRange_0 : decode cX11_requireRange 0 = .ok (.iload_n 0, 1) := by decide +kernel
theorem dX11_requireRange_1 : decode cX11_requireRange 1 = .ok (.iload_n 1, 1) := by decide +kernel
theorem dX11_requireRange_2 : decode cX11_requireRange 2 = .ok (.if_icmp .lt 8, 3) := by decide +kernel
theorem dX11_requireRange_5 : decode cX11_requireRange 5 = .ok (.iload_n 0, 1) := by decide +kernel
theorem dX11_requireRange_6 : decode cX11_requireRange 6 = .ok (.iload_n 2, 1) := by decide +kernel
theorem dX11_requireRange_7 : decode cX11_requireRange 7 = .ok (.if_icmp .le 14, 3) := by decide +kernel
theorem dX11_requireRange_10 : decode cX11_requireRange 10 = .ok (.new 381, 3) := by decide +kernel
theorem dX11_requireRange_13 : decode cX11_requireRange 13 = .ok (.dup, 1) := by decide +kernel
theorem dX11_requireRange_14 : decode cX11_requireRange 14 = .ok (.ldc_w 383, 3) := by decide +kernel
theorem dX11_requireRange_17 : decode cX11_requireRange 17 = .ok (.invokespecial 385, 3) := by decide +kernel
theorem dX11_requireRange_20 : decode cX11_requireRange 20 = .ok (.athrow, 1) := by decide +kernel
theorem dX11_requireRange_21 : decode cX11_requireRange 21 = .ok (.return_, 1) := by decide +kernel
theorem dX11_requireState_0 : decode cX11_requireState 0 = .ok (.iload_n 0, 1) := by decide +kernel
theorem dX11_requireState_1 : decode cX11_requireState 1 = .ok (.ifCond .ne 14, 3) := by decide +kernel
theorem dX11_requireState_4 : decode cX11_requireState 4 = .ok (.new 386, 3) := by decide +kernel
theorem dX11_requireState_7 : decode cX11_requireState 7 = .ok (.dup, 1) := by decide +kernel
theorem dX11_requireState_8 : decode cX11_requireState 8 = .ok (.ldc_w 388, 3) := by decide +kernel
theorem dX11_requireState_11 : decode cX11_requireState 11 = .ok (.invokespecial 390, 3) := by decide +kernel
theorem dX11_requireState_14 : decode cX11_requireState 14 = .ok (.athrow, 1) := by decide +kernel
theorem dX11_requireState_15 : decode cX11_requireState 15 = .ok (.return_, 1) := by decide +kernel
theorem dJ5_init_a7421_0 : decode cJ5_init_a7421 0 = .ok (.aload_n 0, 1) := by decide +kernel
theorem dJ5_init_a7421_1 : decode cJ5_init_a7421 1 = .ok (.invokespecial 3, 3) := by decide +kernel
theorem dJ5_init_a7421_4 : decode cJ5_init_a7421 4 = .ok (.aload_n 1, 1) := by decide +kernel
theorem dJ5_init_a7421_5 : decode cJ5_init_a7421 5 = .ok (.invokevirtual 32, 3) := by decide +kernel
theorem dJ5_init_a7421_8 : decode cJ5_init_a7421 8 = .ok (.istore_n 2, 1) := by decide +kernel
theorem dJ5_init_a7421_9 : decode cJ5_init_a7421 9 = .ok (.iload_n 2, 1) := by decide +kernel
theorem dJ5_init_a7421_10 : decode cJ5_init_a7421 10 = .ok (.ldc 38, 2) := by decide +kernel
theorem dJ5_init_a7421_12 : decode cJ5_init_a7421 12 = .ok (.if_icmp .ge 10, 3) := by decide +kernel
theorem dJ5_init_a7421_15 : decode cJ5_init_a7421 15 = .ok (.iload_n 2, 1) := by decide +kernel
theorem dJ5_init_a7421_16 : decode cJ5_init_a7421 16 = .ok (.bipush 16, 2) := by decide +kernel
theorem dJ5_init_a7421_18 : decode cJ5_init_a7421 18 = .ok (.iadd, 1) := by decide +kernel
theorem dJ5_init_a7421_19 : decode cJ5_init_a7421 19 = .ok (.goto 5, 3) := by decide +kernel
theorem dJ5_init_a7421_22 : decode cJ5_init_a7421 22 = .ok (.ldc 39, 2) := by decide +kernel
theorem dJ5_init_a7421_24 : decode cJ5_init_a7421 24 = .ok (.istore_n 3, 1) := by decide +kernel
theorem dJ5_init_a7421_25 : decode cJ5_init_a7421 25 = .ok (.aload_n 1, 1) := by decide +kernel
theorem dJ5_init_a7421_26 : decode cJ5_init_a7421 26 = .ok (.invokevirtual 40, 3) := by decide +kernel
theorem dJ5_init_a7421_29 : decode cJ5_init_a7421 29 = .ok (.istore 4, 2) := by decide +kernel
theorem dJ5_init_a7421_31 : decode cJ5_init_a7421 31 = .ok (.aload_n 0, 1) := by decide +kernel
theorem dJ5_init_a7421_32 : decode cJ5_init_a7421 32 = .ok (.iload 4, 2) := by decide +kernel
theorem dJ5_init_a7421_34 : decode cJ5_init_a7421 34 = .ok (.putfield 22, 3) := by decide +kernel
theorem dJ5_init_a7421_37 : decode cJ5_init_a7421 37 = .ok (.aload_n 0, 1) := by decide +kernel
theorem dJ5_init_a7421_38 : decode cJ5_init_a7421 38 = .ok (.iload 4, 2) := by decide +kernel
theorem dJ5_init_a7421_40 : decode cJ5_init_a7421 40 = .ok (.ifCond .ne 9, 3) := by decide +kernel
theorem dJ5_init_a7421_43 : decode cJ5_init_a7421 43 = .ok (.iload_n 3, 1) := by decide +kernel
theorem dJ5_init_a7421_44 : decode cJ5_init_a7421 44 = .ok (.newarray .byte, 2) := by decide +kernel
theorem dJ5_init_a7421_46 : decode cJ5_init_a7421 46 = .ok (.goto 7, 3) := by decide +kernel
theorem dJ5_init_a7421_49 : decode cJ5_init_a7421 49 = .ok (.iload_n 3, 1) := by decide +kernel
theorem dJ5_init_a7421_50 : decode cJ5_init_a7421 50 = .ok (.invokestatic 26, 3) := by decide +kernel
theorem dJ5_init_a7421_53 : decode cJ5_init_a7421 53 = .ok (.putfield 15, 3) := by decide +kernel
theorem dJ5_init_a7421_56 : decode cJ5_init_a7421 56 = .ok (.aload_n 0, 1) := by decide +kernel
theorem dJ5_init_a7421_57 : decode cJ5_init_a7421 57 = .ok (.aload_n 1, 1) := by decide +kernel
theorem dJ5_init_a7421_58 : decode cJ5_init_a7421 58 = .ok (.invokevirtual 43, 3) := by decide +kernel
theorem dJ5_init_a7421_61 : decode cJ5_init_a7421 61 = .ok (.pop, 1) := by decide +kernel
theorem dJ5_init_a7421_62 : decode cJ5_init_a7421 62 = .ok (.return_, 1) := by decide +kernel
theorem dJ5_length_8abf5_0 : decode cJ5_length_8abf5 0 = .ok (.aload_n 0, 1) := by decide +kernel
theorem dJ5_length_8abf5_1 : decode cJ5_length_8abf5 1 = .ok (.getfield 79, 3) := by decide +kernel
theorem dJ5_length_8abf5_4 : decode cJ5_length_8abf5 4 = .ok (.ireturn, 1) := by decide +kernel
theorem dJ5_ensureCapacityInternal_d00df_0 : decode cJ5_ensureCapacityInternal_d00df 0 = .ok (.aload_n 0, 1) := by decide +kernel
theorem dJ5_ensureCapacityInternal_d00df_1 : decode cJ5_ensureCapacityInternal_d00df 1 = .ok (.getfield 15, 3) := by decide +kernel
theorem dJ5_ensureCapacityInternal_d00df_4 : decode cJ5_ensureCapacityInternal_d00df 4 = .ok (.arraylength, 1) := by decide +kernel
theorem dJ5_ensureCapacityInternal_d00df_5 : decode cJ5_ensureCapacityInternal_d00df 5 = .ok (.aload_n 0, 1) := by decide +kernel
theorem dJ5_ensureCapacityInternal_d00df_6 : decode cJ5_ensureCapacityInternal_d00df 6 = .ok (.getfield 22, 3) := by decide +kernel
theorem dJ5_ensureCapacityInternal_d00df_9 : decode cJ5_ensureCapacityInternal_d00df 9 = .ok (.ishr, 1) := by decide +kernel
theorem dJ5_ensureCapacityInternal_d00df_10 : decode cJ5_ensureCapacityInternal_d00df 10 = .ok (.istore_n 2, 1) := by decide +kernel
theorem dJ5_ensureCapacityInternal_d00df_11 : decode cJ5_ensureCapacityInternal_d00df 11 = .ok (.iload_n 1, 1) := by decide +kernel
theorem dJ5_ensureCapacityInternal_d00df_12 : decode cJ5_ensureCapacityInternal_d00df 12 = .ok (.iload_n 2, 1) := by decide +kernel
theorem dJ5_ensureCapacityInternal_d00df_13 : decode cJ5_ensureCapacityInternal_d00df 13 = .ok (.isub, 1) := by decide +kernel
theorem dJ5_ensureCapacityInternal_d00df_14 : decode cJ5_ensureCapacityInternal_d00df 14 = .ok (.ifCond .le 24, 3) := by decide +kernel
theorem dJ5_ensureCapacityInternal_d00df_17 : decode cJ5_ensureCapacityInternal_d00df 17 = .ok (.aload_n 0, 1) := by decide +kernel
theorem dJ5_ensureCapacityInternal_d00df_18 : decode cJ5_ensureCapacityInternal_d00df 18 = .ok (.aload_n 0, 1) := by decide +kernel
theorem dJ5_ensureCapacityInternal_d00df_19 : decode cJ5_ensureCapacityInternal_d00df 19 = .ok (.getfield 15, 3) := by decide +kernel
theorem dJ5_ensureCapacityInternal_d00df_22 : decode cJ5_ensureCapacityInternal_d00df 22 = .ok (.aload_n 0, 1) := by decide +kernel
theorem dJ5_ensureCapacityInternal_d00df_23 : decode cJ5_ensureCapacityInternal_d00df 23 = .ok (.iload_n 1, 1) := by decide +kernel
theorem dJ5_ensureCapacityInternal_d00df_24 : decode cJ5_ensureCapacityInternal_d00df 24 = .ok (.invokevirtual 104, 3) := by decide +kernel
theorem dJ5_ensureCapacityInternal_d00df_27 : decode cJ5_ensureCapacityInternal_d00df 27 = .ok (.aload_n 0, 1) := by decide +kernel
theorem dJ5_ensureCapacityInternal_d00df_28 : decode cJ5_ensureCapacityInternal_d00df 28 = .ok (.getfield 22, 3) := by decide +kernel
theorem dJ5_ensureCapacityInternal_d00df_31 : decode cJ5_ensureCapacityInternal_d00df 31 = .ok (.ishl, 1) := by decide +kernel
theorem dJ5_ensureCapacityInternal_d00df_32 : decode cJ5_ensureCapacityInternal_d00df 32 = .ok (.invokestatic 108, 3) := by decide +kernel
theorem dJ5_ensureCapacityInternal_d00df_35 : decode cJ5_ensureCapacityInternal_d00df 35 = .ok (.putfield 15, 3) := by decide +kernel
theorem dJ5_ensureCapacityInternal_d00df_38 : decode cJ5_ensureCapacityInternal_d00df 38 = .ok (.return_, 1) := by decide +kernel
theorem dJ5_newCapacity_0f7a4_0 : decode cJ5_newCapacity_0f7a4 0 = .ok (.aload_n 0, 1) := by decide +kernel
theorem dJ5_newCapacity_0f7a4_1 : decode cJ5_newCapacity_0f7a4 1 = .ok (.getfield 15, 3) := by decide +kernel
theorem dJ5_newCapacity_0f7a4_4 : decode cJ5_newCapacity_0f7a4 4 = .ok (.arraylength, 1) := by decide +kernel
theorem dJ5_newCapacity_0f7a4_5 : decode cJ5_newCapacity_0f7a4 5 = .ok (.istore_n 2, 1) := by decide +kernel
theorem dJ5_newCapacity_0f7a4_6 : decode cJ5_newCapacity_0f7a4 6 = .ok (.iload_n 1, 1) := by decide +kernel
theorem dJ5_newCapacity_0f7a4_7 : decode cJ5_newCapacity_0f7a4 7 = .ok (.aload_n 0, 1) := by decide +kernel
theorem dJ5_newCapacity_0f7a4_8 : decode cJ5_newCapacity_0f7a4 8 = .ok (.getfield 22, 3) := by decide +kernel
theorem dJ5_newCapacity_0f7a4_11 : decode cJ5_newCapacity_0f7a4 11 = .ok (.ishl, 1) := by decide +kernel
theorem dJ5_newCapacity_0f7a4_12 : decode cJ5_newCapacity_0f7a4 12 = .ok (.istore_n 3, 1) := by decide +kernel
theorem dJ5_newCapacity_0f7a4_13 : decode cJ5_newCapacity_0f7a4 13 = .ok (.iload_n 3, 1) := by decide +kernel
theorem dJ5_newCapacity_0f7a4_14 : decode cJ5_newCapacity_0f7a4 14 = .ok (.iload_n 2, 1) := by decide +kernel
theorem dJ5_newCapacity_0f7a4_15 : decode cJ5_newCapacity_0f7a4 15 = .ok (.isub, 1) := by decide +kernel
theorem dJ5_newCapacity_0f7a4_16 : decode cJ5_newCapacity_0f7a4 16 = .ok (.istore 4, 2) := by decide +kernel
theorem dJ5_newCapacity_0f7a4_18 : decode cJ5_newCapacity_0f7a4 18 = .ok (.iload_n 2, 1) := by decide +kernel
theorem dJ5_newCapacity_0f7a4_19 : decode cJ5_newCapacity_0f7a4 19 = .ok (.iload 4, 2) := by decide +kernel
theorem dJ5_newCapacity_0f7a4_21 : decode cJ5_newCapacity_0f7a4 21 = .ok (.iload_n 2, 1) := by decide +kernel
theorem dJ5_newCapacity_0f7a4_22 : decode cJ5_newCapacity_0f7a4 22 = .ok (.iconst 2, 1) := by decide +kernel
theorem dJ5_newCapacity_0f7a4_23 : decode cJ5_newCapacity_0f7a4 23 = .ok (.aload_n 0, 1) := by decide +kernel
theorem dJ5_newCapacity_0f7a4_24 : decode cJ5_newCapacity_0f7a4 24 = .ok (.getfield 22, 3) := by decide +kernel
theorem dJ5_newCapacity_0f7a4_27 : decode cJ5_newCapacity_0f7a4 27 = .ok (.ishl, 1) := by decide +kernel
theorem dJ5_newCapacity_0f7a4_28 : decode cJ5_newCapacity_0f7a4 28 = .ok (.iadd, 1) := by decide +kernel
theorem dJ5_newCapacity_0f7a4_29 : decode cJ5_newCapacity_0f7a4 29 = .ok (.invokestatic 114, 3) := by decide +kernel
theorem dJ5_newCapacity_0f7a4_32 : decode cJ5_newCapacity_0f7a4 32 = .ok (.istore 5, 2) := by decide +kernel
theorem dJ5_newCapacity_0f7a4_34 : decode cJ5_newCapacity_0f7a4 34 = .ok (.iload 5, 2) := by decide +kernel
theorem dJ5_newCapacity_0f7a4_36 : decode cJ5_newCapacity_0f7a4 36 = .ok (.ldc 39, 2) := by decide +kernel
theorem dJ5_newCapacity_0f7a4_38 : decode cJ5_newCapacity_0f7a4 38 = .ok (.if_icmp .ne 13, 3) := by decide +kernel
theorem dJ5_newCapacity_0f7a4_41 : decode cJ5_newCapacity_0f7a4 41 = .ok (.new 120, 3) := by decide +kernel
theorem dJ5_newCapacity_0f7a4_44 : decode cJ5_newCapacity_0f7a4 44 = .ok (.dup, 1) := by decide +kernel
theorem dJ5_newCapacity_0f7a4_45 : decode cJ5_newCapacity_0f7a4 45 = .ok (.ldc 122, 2) := by decide +kernel
theorem dJ5_newCapacity_0f7a4_47 : decode cJ5_newCapacity_0f7a4 47 = .ok (.invokespecial 124, 3) := by decide +kernel
theorem dJ5_newCapacity_0f7a4_50 : decode cJ5_newCapacity_0f7a4 50 = .ok (.athrow, 1) := by decide +kernel
theorem dJ5_newCapacity_0f7a4_51 : decode cJ5_newCapacity_0f7a4 51 = .ok (.iload 5, 2) := by decide +kernel
theorem dJ5_newCapacity_0f7a4_53 : decode cJ5_newCapacity_0f7a4 53 = .ok (.aload_n 0, 1) := by decide +kernel
theorem dJ5_newCapacity_0f7a4_54 : decode cJ5_newCapacity_0f7a4 54 = .ok (.getfield 22, 3) := by decide +kernel
theorem dJ5_newCapacity_0f7a4_57 : decode cJ5_newCapacity_0f7a4 57 = .ok (.ishr, 1) := by decide +kernel
theorem dJ5_newCapacity_0f7a4_58 : decode cJ5_newCapacity_0f7a4 58 = .ok (.ireturn, 1) := by decide +kernel
theorem dJ5_inflate_da8c8_0 : decode cJ5_inflate_da8c8 0 = .ok (.aload_n 0, 1) := by decide +kernel
theorem dJ5_inflate_da8c8_1 : decode cJ5_inflate_da8c8 1 = .ok (.invokevirtual 83, 3) := by decide +kernel
theorem dJ5_inflate_da8c8_4 : decode cJ5_inflate_da8c8 4 = .ok (.ifCond .ne 4, 3) := by decide +kernel
theorem dJ5_inflate_da8c8_7 : decode cJ5_inflate_da8c8 7 = .ok (.return_, 1) := by decide +kernel
theorem dJ5_inflate_da8c8_8 : decode cJ5_inflate_da8c8 8 = .ok (.aload_n 0, 1) := by decide +kernel
theorem dJ5_inflate_da8c8_9 : decode cJ5_inflate_da8c8 9 = .ok (.getfield 15, 3) := by decide +kernel
theorem dJ5_inflate_da8c8_12 : decode cJ5_inflate_da8c8 12 = .ok (.arraylength, 1) := by decide +kernel
theorem dJ5_inflate_da8c8_13 : decode cJ5_inflate_da8c8 13 = .ok (.invokestatic 26, 3) := by decide +kernel
theorem dJ5_inflate_da8c8_16 : decode cJ5_inflate_da8c8 16 = .ok (.astore_n 1, 1) := by decide +kernel
theorem dJ5_inflate_da8c8_17 : decode cJ5_inflate_da8c8 17 = .ok (.aload_n 0, 1) := by decide +kernel
theorem dJ5_inflate_da8c8_18 : decode cJ5_inflate_da8c8 18 = .ok (.getfield 15, 3) := by decide +kernel
theorem dJ5_inflate_da8c8_21 : decode cJ5_inflate_da8c8 21 = .ok (.iconst 0, 1) := by decide +kernel
theorem dJ5_inflate_da8c8_22 : decode cJ5_inflate_da8c8 22 = .ok (.aload_n 1, 1) := by decide +kernel
theorem dJ5_inflate_da8c8_23 : decode cJ5_inflate_da8c8 23 = .ok (.iconst 0, 1) := by decide +kernel
theorem dJ5_inflate_da8c8_24 : decode cJ5_inflate_da8c8 24 = .ok (.aload_n 0, 1) := by decide +kernel
theorem dJ5_inflate_da8c8_25 : decode cJ5_inflate_da8c8 25 = .ok (.getfield 79, 3) := by decide +kernel
theorem dJ5_inflate_da8c8_28 : decode cJ5_inflate_da8c8 28 = .ok (.invokestatic 125, 3) := by decide +kernel
theorem dJ5_inflate_da8c8_31 : decode cJ5_inflate_da8c8 31 = .ok (.aload_n 0, 1) := by decide +kernel
theorem dJ5_inflate_da8c8_32 : decode cJ5_inflate_da8c8 32 = .ok (.aload_n 1, 1) := by decide +kernel
theorem dJ5_inflate_da8c8_33 : decode cJ5_inflate_da8c8 33 = .ok (.putfield 15, 3) := by decide +kernel
theorem dJ5_inflate_da8c8_36 : decode cJ5_inflate_da8c8 36 = .ok (.aload_n 0, 1) := by decide +kernel
theorem dJ5_inflate_da8c8_37 : decode cJ5_inflate_da8c8 37 = .ok (.iconst 1, 1) := by decide +kernel
theorem dJ5_inflate_da8c8_38 : decode cJ5_inflate_da8c8 38 = .ok (.putfield 22, 3) := by decide +kernel
theorem dJ5_inflate_da8c8_41 : decode cJ5_inflate_da8c8 41 = .ok (.return_, 1) := by decide +kernel
theorem dJ5_charAt_5068e_0 : decode cJ5_charAt_5068e 0 = .ok (.aload_n 0, 1) := by decide +kernel
theorem dJ5_charAt_5068e_1 : decode cJ5_charAt_5068e 1 = .ok (.getfield 22, 3) := by decide +kernel
theorem dJ5_charAt_5068e_4 : decode cJ5_charAt_5068e 4 = .ok (.istore_n 2, 1) := by decide +kernel
theorem dJ5_charAt_5068e_5 : decode cJ5_charAt_5068e 5 = .ok (.aload_n 0, 1) := by decide +kernel
theorem dJ5_charAt_5068e_6 : decode cJ5_charAt_5068e 6 = .ok (.getfield 15, 3) := by decide +kernel
theorem dJ5_charAt_5068e_9 : decode cJ5_charAt_5068e 9 = .ok (.astore_n 3, 1) := by decide +kernel
theorem dJ5_charAt_5068e_10 : decode cJ5_charAt_5068e 10 = .ok (.aload_n 0, 1) := by decide +kernel
theorem dJ5_charAt_5068e_11 : decode cJ5_charAt_5068e 11 = .ok (.getfield 79, 3) := by decide +kernel
theorem dJ5_charAt_5068e_14 : decode cJ5_charAt_5068e 14 = .ok (.aload_n 3, 1) := by decide +kernel
theorem dJ5_charAt_5068e_15 : decode cJ5_charAt_5068e 15 = .ok (.arraylength, 1) := by decide +kernel
theorem dJ5_charAt_5068e_16 : decode cJ5_charAt_5068e 16 = .ok (.iload_n 2, 1) := by decide +kernel
theorem dJ5_charAt_5068e_17 : decode cJ5_charAt_5068e 17 = .ok (.ishr, 1) := by decide +kernel
theorem dJ5_charAt_5068e_18 : decode cJ5_charAt_5068e 18 = .ok (.invokestatic 138, 3) := by decide +kernel
theorem dJ5_charAt_5068e_21 : decode cJ5_charAt_5068e 21 = .ok (.istore 4, 2) := by decide +kernel
theorem dJ5_charAt_5068e_23 : decode cJ5_charAt_5068e 23 = .ok (.iload_n 1, 1) := by decide +kernel
theorem dJ5_charAt_5068e_24 : decode cJ5_charAt_5068e 24 = .ok (.iload 4, 2) := by decide +kernel
theorem dJ5_charAt_5068e_26 : decode cJ5_charAt_5068e 26 = .ok (.invokestatic 144, 3) := by decide +kernel
theorem dJ5_charAt_5068e_29 : decode cJ5_charAt_5068e 29 = .ok (.iload_n 2, 1) := by decide +kernel
theorem dJ5_charAt_5068e_30 : decode cJ5_charAt_5068e 30 = .ok (.ifCond .ne 12, 3) := by decide +kernel
theorem dJ5_charAt_5068e_33 : decode cJ5_charAt_5068e 33 = .ok (.aload_n 3, 1) := by decide +kernel
theorem dJ5_charAt_5068e_34 : decode cJ5_charAt_5068e 34 = .ok (.iload_n 1, 1) := by decide +kernel
theorem dJ5_charAt_5068e_35 : decode cJ5_charAt_5068e 35 = .ok (.baload, 1) := by decide +kernel
theorem dJ5_charAt_5068e_36 : decode cJ5_charAt_5068e 36 = .ok (.sipush 255, 3) := by decide +kernel
theorem dJ5_charAt_5068e_39 : decode cJ5_charAt_5068e 39 = .ok (.iand, 1) := by decide +kernel
theorem dJ5_charAt_5068e_40 : decode cJ5_charAt_5068e 40 = .ok (.i2c, 1) := by decide +kernel
theorem dJ5_charAt_5068e_41 : decode cJ5_charAt_5068e 41 = .ok (.ireturn, 1) := by decide +kernel
theorem dJ5_charAt_5068e_42 : decode cJ5_charAt_5068e 42 = .ok (.aload_n 3, 1) := by decide +kernel
theorem dJ5_charAt_5068e_43 : decode cJ5_charAt_5068e 43 = .ok (.iload_n 1, 1) := by decide +kernel
theorem dJ5_charAt_5068e_44 : decode cJ5_charAt_5068e 44 = .ok (.invokestatic 148, 3) := by decide +kernel
theorem dJ5_charAt_5068e_47 : decode cJ5_charAt_5068e 47 = .ok (.ireturn, 1) := by decide +kernel
theorem dJ5_append_cf1ce_0 : decode cJ5_append_cf1ce 0 = .ok (.aload_n 1, 1) := by decide +kernel
theorem dJ5_append_cf1ce_1 : decode cJ5_append_cf1ce 1 = .ok (.ifnonnull 8, 3) := by decide +kernel
theorem dJ5_append_cf1ce_4 : decode cJ5_append_cf1ce 4 = .ok (.aload_n 0, 1) := by decide +kernel
theorem dJ5_append_cf1ce_5 : decode cJ5_append_cf1ce 5 = .ok (.invokevirtual 204, 3) := by decide +kernel
theorem dJ5_append_cf1ce_8 : decode cJ5_append_cf1ce 8 = .ok (.areturn, 1) := by decide +kernel
theorem dJ5_append_cf1ce_9 : decode cJ5_append_cf1ce 9 = .ok (.aload_n 1, 1) := by decide +kernel
theorem dJ5_append_cf1ce_10 : decode cJ5_append_cf1ce 10 = .ok (.invokevirtual 32, 3) := by decide +kernel
theorem dJ5_append_cf1ce_13 : decode cJ5_append_cf1ce 13 = .ok (.istore_n 2, 1) := by decide +kernel
theorem dJ5_append_cf1ce_14 : decode cJ5_append_cf1ce 14 = .ok (.aload_n 0, 1) := by decide +kernel
theorem dJ5_append_cf1ce_15 : decode cJ5_append_cf1ce 15 = .ok (.aload_n 0, 1) := by decide +kernel
theorem dJ5_append_cf1ce_16 : decode cJ5_append_cf1ce 16 = .ok (.getfield 79, 3) := by decide +kernel
theorem dJ5_append_cf1ce_19 : decode cJ5_append_cf1ce 19 = .ok (.iload_n 2, 1) := by decide +kernel
theorem dJ5_append_cf1ce_20 : decode cJ5_append_cf1ce 20 = .ok (.iadd, 1) := by decide +kernel
theorem dJ5_append_cf1ce_21 : decode cJ5_append_cf1ce 21 = .ok (.invokevirtual 100, 3) := by decide +kernel
theorem dJ5_append_cf1ce_24 : decode cJ5_append_cf1ce 24 = .ok (.aload_n 0, 1) := by decide +kernel
theorem dJ5_append_cf1ce_25 : decode cJ5_append_cf1ce 25 = .ok (.aload_n 0, 1) := by decide +kernel
theorem dJ5_append_cf1ce_26 : decode cJ5_append_cf1ce 26 = .ok (.getfield 79, 3) := by decide +kernel
theorem dJ5_append_cf1ce_29 : decode cJ5_append_cf1ce 29 = .ok (.aload_n 1, 1) := by decide +kernel
theorem dJ5_append_cf1ce_30 : decode cJ5_append_cf1ce 30 = .ok (.invokevirtual 208, 3) := by decide +kernel
theorem dJ5_append_cf1ce_33 : decode cJ5_append_cf1ce 33 = .ok (.aload_n 0, 1) := by decide +kernel
theorem dJ5_append_cf1ce_34 : decode cJ5_append_cf1ce 34 = .ok (.dup, 1) := by decide +kernel
theorem dJ5_append_cf1ce_35 : decode cJ5_append_cf1ce 35 = .ok (.getfield 79, 3) := by decide +kernel
theorem dJ5_append_cf1ce_38 : decode cJ5_append_cf1ce 38 = .ok (.iload_n 2, 1) := by decide +kernel
theorem dJ5_append_cf1ce_39 : decode cJ5_append_cf1ce 39 = .ok (.iadd, 1) := by decide +kernel
theorem dJ5_append_cf1ce_40 : decode cJ5_append_cf1ce 40 = .ok (.putfield 79, 3) := by decide +kernel
theorem dJ5_append_cf1ce_43 : decode cJ5_append_cf1ce 43 = .ok (.aload_n 0, 1) := by decide +kernel
theorem dJ5_append_cf1ce_44 : decode cJ5_append_cf1ce 44 = .ok (.areturn, 1) := by decide +kernel
theorem dJ5_appendNull_278bc_0 : decode cJ5_appendNull_278bc 0 = .ok (.aload_n 0, 1) := by decide +kernel
theorem dJ5_appendNull_278bc_1 : decode cJ5_appendNull_278bc 1 = .ok (.aload_n 0, 1) := by decide +kernel
theorem dJ5_appendNull_278bc_2 : decode cJ5_appendNull_278bc 2 = .ok (.getfield 79, 3) := by decide +kernel
theorem dJ5_appendNull_278bc_5 : decode cJ5_appendNull_278bc 5 = .ok (.iconst 4, 1) := by decide +kernel
theorem dJ5_appendNull_278bc_6 : decode cJ5_appendNull_278bc 6 = .ok (.iadd, 1) := by decide +kernel
theorem dJ5_appendNull_278bc_7 : decode cJ5_appendNull_278bc 7 = .ok (.invokevirtual 100, 3) := by decide +kernel
theorem dJ5_appendNull_278bc_10 : decode cJ5_appendNull_278bc 10 = .ok (.aload_n 0, 1) := by decide +kernel
theorem dJ5_appendNull_278bc_11 : decode cJ5_appendNull_278bc 11 = .ok (.getfield 79, 3) := by decide +kernel
theorem dJ5_appendNull_278bc_14 : decode cJ5_appendNull_278bc 14 = .ok (.istore_n 1, 1) := by decide +kernel
theorem dJ5_appendNull_278bc_15 : decode cJ5_appendNull_278bc 15 = .ok (.aload_n 0, 1) := by decide +kernel
theorem dJ5_appendNull_278bc_16 : decode cJ5_appendNull_278bc 16 = .ok (.getfield 15, 3) := by decide +kernel
theorem dJ5_appendNull_278bc_19 : decode cJ5_appendNull_278bc 19 = .ok (.astore_n 2, 1) := by decide +kernel
theorem dJ5_appendNull_278bc_20 : decode cJ5_appendNull_278bc 20 = .ok (.aload_n 0, 1) := by decide +kernel
theorem dJ5_appendNull_278bc_21 : decode cJ5_appendNull_278bc 21 = .ok (.invokevirtual 83, 3) := by decide +kernel
theorem dJ5_appendNull_278bc_24 : decode cJ5_appendNull_278bc 24 = .ok (.ifCond .eq 38, 3) := by decide +kernel
theorem dJ5_appendNull_278bc_27 : decode cJ5_appendNull_278bc 27 = .ok (.aload_n 2, 1) := by decide +kernel
theorem dJ5_appendNull_278bc_28 : decode cJ5_appendNull_278bc 28 = .ok (.iload_n 1, 1) := by decide +kernel
theorem dJ5_appendNull_278bc_29 : decode cJ5_appendNull_278bc 29 = .ok (.iinc 1 1, 3) := by decide +kernel
theorem dJ5_appendNull_278bc_32 : decode cJ5_appendNull_278bc 32 = .ok (.bipush 110, 2) := by decide +kernel
theorem dJ5_appendNull_278bc_34 : decode cJ5_appendNull_278bc 34 = .ok (.bastore, 1) := by decide +kernel
theorem dJ5_appendNull_278bc_35 : decode cJ5_appendNull_278bc 35 = .ok (.aload_n 2, 1) := by decide +kernel
theorem dJ5_appendNull_278bc_36 : decode cJ5_appendNull_278bc 36 = .ok (.iload_n 1, 1) := by decide +kernel
theorem dJ5_appendNull_278bc_37 : decode cJ5_appendNull_278bc 37 = .ok (.iinc 1 1, 3) := by decide +kernel
theorem dJ5_appendNull_278bc_40 : decode cJ5_appendNull_278bc 40 = .ok (.bipush 117, 2) := by decide +kernel
theorem dJ5_appendNull_278bc_42 : decode cJ5_appendNull_278bc 42 = .ok (.bastore, 1) := by decide +kernel
theorem dJ5_appendNull_278bc_43 : decode cJ5_appendNull_278bc 43 = .ok (.aload_n 2, 1) := by decide +kernel
theorem dJ5_appendNull_278bc_44 : decode cJ5_appendNull_278bc 44 = .ok (.iload_n 1, 1) := by decide +kernel
theorem dJ5_appendNull_278bc_45 : decode cJ5_appendNull_278bc 45 = .ok (.iinc 1 1, 3) := by decide +kernel
theorem dJ5_appendNull_278bc_48 : decode cJ5_appendNull_278bc 48 = .ok (.bipush 108, 2) := by decide +kernel
theorem dJ5_appendNull_278bc_50 : decode cJ5_appendNull_278bc 50 = .ok (.bastore, 1) := by decide +kernel
theorem dJ5_appendNull_278bc_51 : decode cJ5_appendNull_278bc 51 = .ok (.aload_n 2, 1) := by decide +kernel
theorem dJ5_appendNull_278bc_52 : decode cJ5_appendNull_278bc 52 = .ok (.iload_n 1, 1) := by decide +kernel
theorem dJ5_appendNull_278bc_53 : decode cJ5_appendNull_278bc 53 = .ok (.iinc 1 1, 3) := by decide +kernel
theorem dJ5_appendNull_278bc_56 : decode cJ5_appendNull_278bc 56 = .ok (.bipush 108, 2) := by decide +kernel
theorem dJ5_appendNull_278bc_58 : decode cJ5_appendNull_278bc 58 = .ok (.bastore, 1) := by decide +kernel
theorem dJ5_appendNull_278bc_59 : decode cJ5_appendNull_278bc 59 = .ok (.goto 17, 3) := by decide +kernel
theorem dJ5_appendNull_278bc_62 : decode cJ5_appendNull_278bc 62 = .ok (.aload_n 2, 1) := by decide +kernel
theorem dJ5_appendNull_278bc_63 : decode cJ5_appendNull_278bc 63 = .ok (.iload_n 1, 1) := by decide +kernel
theorem dJ5_appendNull_278bc_64 : decode cJ5_appendNull_278bc 64 = .ok (.bipush 110, 2) := by decide +kernel
theorem dJ5_appendNull_278bc_66 : decode cJ5_appendNull_278bc 66 = .ok (.bipush 117, 2) := by decide +kernel
theorem dJ5_appendNull_278bc_68 : decode cJ5_appendNull_278bc 68 = .ok (.bipush 108, 2) := by decide +kernel
theorem dJ5_appendNull_278bc_70 : decode cJ5_appendNull_278bc 70 = .ok (.bipush 108, 2) := by decide +kernel
theorem dJ5_appendNull_278bc_72 : decode cJ5_appendNull_278bc 72 = .ok (.invokestatic 226, 3) := by decide +kernel
theorem dJ5_appendNull_278bc_75 : decode cJ5_appendNull_278bc 75 = .ok (.istore_n 1, 1) := by decide +kernel
theorem dJ5_appendNull_278bc_76 : decode cJ5_appendNull_278bc 76 = .ok (.aload_n 0, 1) := by decide +kernel
theorem dJ5_appendNull_278bc_77 : decode cJ5_appendNull_278bc 77 = .ok (.iload_n 1, 1) := by decide +kernel
theorem dJ5_appendNull_278bc_78 : decode cJ5_appendNull_278bc 78 = .ok (.putfield 79, 3) := by decide +kernel
theorem dJ5_appendNull_278bc_81 : decode cJ5_appendNull_278bc 81 = .ok (.aload_n 0, 1) := by decide +kernel
theorem dJ5_appendNull_278bc_82 : decode cJ5_appendNull_278bc 82 = .ok (.areturn, 1) := by decide +kernel
theorem dJ5_append_3fe6f_0 : decode cJ5_append_3fe6f 0 = .ok (.aload_n 0, 1) := by decide +kernel
theorem dJ5_append_3fe6f_1 : decode cJ5_append_3fe6f 1 = .ok (.aload_n 0, 1) := by decide +kernel
theorem dJ5_append_3fe6f_2 : decode cJ5_append_3fe6f 2 = .ok (.getfield 79, 3) := by decide +kernel
theorem dJ5_append_3fe6f_5 : decode cJ5_append_3fe6f 5 = .ok (.iconst 1, 1) := by decide +kernel
theorem dJ5_append_3fe6f_6 : decode cJ5_append_3fe6f 6 = .ok (.iadd, 1) := by decide +kernel
theorem dJ5_append_3fe6f_7 : decode cJ5_append_3fe6f 7 = .ok (.invokevirtual 100, 3) := by decide +kernel
theorem dJ5_append_3fe6f_10 : decode cJ5_append_3fe6f 10 = .ok (.aload_n 0, 1) := by decide +kernel
theorem dJ5_append_3fe6f_11 : decode cJ5_append_3fe6f 11 = .ok (.invokevirtual 83, 3) := by decide +kernel
theorem dJ5_append_3fe6f_14 : decode cJ5_append_3fe6f 14 = .ok (.ifCond .eq 31, 3) := by decide +kernel
theorem dJ5_append_3fe6f_17 : decode cJ5_append_3fe6f 17 = .ok (.iload_n 1, 1) := by decide +kernel
theorem dJ5_append_3fe6f_18 : decode cJ5_append_3fe6f 18 = .ok (.invokestatic 191, 3) := by decide +kernel
theorem dJ5_append_3fe6f_21 : decode cJ5_append_3fe6f 21 = .ok (.ifCond .eq 24, 3) := by decide +kernel
theorem dJ5_append_3fe6f_24 : decode cJ5_append_3fe6f 24 = .ok (.aload_n 0, 1) := by decide +kernel
theorem dJ5_append_3fe6f_25 : decode cJ5_append_3fe6f 25 = .ok (.getfield 15, 3) := by decide +kernel
theorem dJ5_append_3fe6f_28 : decode cJ5_append_3fe6f 28 = .ok (.aload_n 0, 1) := by decide +kernel
theorem dJ5_append_3fe6f_29 : decode cJ5_append_3fe6f 29 = .ok (.dup, 1) := by decide +kernel
theorem dJ5_append_3fe6f_30 : decode cJ5_append_3fe6f 30 = .ok (.getfield 79, 3) := by decide +kernel
theorem dJ5_append_3fe6f_33 : decode cJ5_append_3fe6f 33 = .ok (.dup_x1, 1) := by decide +kernel
theorem dJ5_append_3fe6f_34 : decode cJ5_append_3fe6f 34 = .ok (.iconst 1, 1) := by decide +kernel
theorem dJ5_append_3fe6f_35 : decode cJ5_append_3fe6f 35 = .ok (.iadd, 1) := by decide +kernel
theorem dJ5_append_3fe6f_36 : decode cJ5_append_3fe6f 36 = .ok (.putfield 79, 3) := by decide +kernel
theorem dJ5_append_3fe6f_39 : decode cJ5_append_3fe6f 39 = .ok (.iload_n 1, 1) := by decide +kernel
theorem dJ5_append_3fe6f_40 : decode cJ5_append_3fe6f 40 = .ok (.i2b, 1) := by decide +kernel
theorem dJ5_append_3fe6f_41 : decode cJ5_append_3fe6f 41 = .ok (.bastore, 1) := by decide +kernel
theorem dJ5_append_3fe6f_42 : decode cJ5_append_3fe6f 42 = .ok (.goto 33, 3) := by decide +kernel
theorem dJ5_append_3fe6f_45 : decode cJ5_append_3fe6f 45 = .ok (.aload_n 0, 1) := by decide +kernel
theorem dJ5_append_3fe6f_46 : decode cJ5_append_3fe6f 46 = .ok (.invokevirtual 83, 3) := by decide +kernel
theorem dJ5_append_3fe6f_49 : decode cJ5_append_3fe6f 49 = .ok (.ifCond .eq 7, 3) := by decide +kernel
theorem dJ5_append_3fe6f_52 : decode cJ5_append_3fe6f 52 = .ok (.aload_n 0, 1) := by decide +kernel
theorem dJ5_append_3fe6f_53 : decode cJ5_append_3fe6f 53 = .ok (.invokevirtual 195, 3) := by decide +kernel
theorem dJ5_append_3fe6f_56 : decode cJ5_append_3fe6f 56 = .ok (.aload_n 0, 1) := by decide +kernel
theorem dJ5_append_3fe6f_57 : decode cJ5_append_3fe6f 57 = .ok (.getfield 15, 3) := by decide +kernel
theorem dJ5_append_3fe6f_60 : decode cJ5_append_3fe6f 60 = .ok (.aload_n 0, 1) := by decide +kernel
theorem dJ5_append_3fe6f_61 : decode cJ5_append_3fe6f 61 = .ok (.dup, 1) := by decide +kernel
theorem dJ5_append_3fe6f_62 : decode cJ5_append_3fe6f 62 = .ok (.getfield 79, 3) := by decide +kernel
theorem dJ5_append_3fe6f_65 : decode cJ5_append_3fe6f 65 = .ok (.dup_x1, 1) := by decide +kernel
theorem dJ5_append_3fe6f_66 : decode cJ5_append_3fe6f 66 = .ok (.iconst 1, 1) := by decide +kernel
theorem dJ5_append_3fe6f_67 : decode cJ5_append_3fe6f 67 = .ok (.iadd, 1) := by decide +kernel
theorem dJ5_append_3fe6f_68 : decode cJ5_append_3fe6f 68 = .ok (.putfield 79, 3) := by decide +kernel
theorem dJ5_append_3fe6f_71 : decode cJ5_append_3fe6f 71 = .ok (.iload_n 1, 1) := by decide +kernel
theorem dJ5_append_3fe6f_72 : decode cJ5_append_3fe6f 72 = .ok (.invokestatic 197, 3) := by decide +kernel
theorem dJ5_append_3fe6f_75 : decode cJ5_append_3fe6f 75 = .ok (.aload_n 0, 1) := by decide +kernel
theorem dJ5_append_3fe6f_76 : decode cJ5_append_3fe6f 76 = .ok (.areturn, 1) := by decide +kernel
theorem dJ5_append_c97b9_0 : decode cJ5_append_c97b9 0 = .ok (.aload_n 0, 1) := by decide +kernel
theorem dJ5_append_c97b9_1 : decode cJ5_append_c97b9 1 = .ok (.getfield 79, 3) := by decide +kernel
theorem dJ5_append_c97b9_4 : decode cJ5_append_c97b9 4 = .ok (.istore_n 2, 1) := by decide +kernel
theorem dJ5_append_c97b9_5 : decode cJ5_append_c97b9 5 = .ok (.iload_n 2, 1) := by decide +kernel
theorem dJ5_append_c97b9_6 : decode cJ5_append_c97b9 6 = .ok (.iload_n 1, 1) := by decide +kernel
theorem dJ5_append_c97b9_7 : decode cJ5_append_c97b9 7 = .ok (.invokestatic 245, 3) := by decide +kernel
theorem dJ5_append_c97b9_10 : decode cJ5_append_c97b9 10 = .ok (.iadd, 1) := by decide +kernel
theorem dJ5_append_c97b9_11 : decode cJ5_append_c97b9 11 = .ok (.istore_n 3, 1) := by decide +kernel
theorem dJ5_append_c97b9_12 : decode cJ5_append_c97b9 12 = .ok (.aload_n 0, 1) := by decide +kernel
theorem dJ5_append_c97b9_13 : decode cJ5_append_c97b9 13 = .ok (.iload_n 3, 1) := by decide +kernel
theorem dJ5_append_c97b9_14 : decode cJ5_append_c97b9 14 = .ok (.invokevirtual 100, 3) := by decide +kernel
theorem dJ5_append_c97b9_17 : decode cJ5_append_c97b9 17 = .ok (.aload_n 0, 1) := by decide +kernel
theorem dJ5_append_c97b9_18 : decode cJ5_append_c97b9 18 = .ok (.invokevirtual 83, 3) := by decide +kernel
theorem dJ5_append_c97b9_21 : decode cJ5_append_c97b9 21 = .ok (.ifCond .eq 16, 3) := by decide +kernel
theorem dJ5_append_c97b9_24 : decode cJ5_append_c97b9 24 = .ok (.iload_n 1, 1) := by decide +kernel
theorem dJ5_append_c97b9_25 : decode cJ5_append_c97b9 25 = .ok (.iload_n 3, 1) := by decide +kernel
theorem dJ5_append_c97b9_26 : decode cJ5_append_c97b9 26 = .ok (.aload_n 0, 1) := by decide +kernel
theorem dJ5_append_c97b9_27 : decode cJ5_append_c97b9 27 = .ok (.getfield 15, 3) := by decide +kernel
theorem dJ5_append_c97b9_30 : decode cJ5_append_c97b9 30 = .ok (.invokestatic 248, 3) := by decide +kernel
theorem dJ5_append_c97b9_33 : decode cJ5_append_c97b9 33 = .ok (.pop, 1) := by decide +kernel
theorem dJ5_append_c97b9_34 : decode cJ5_append_c97b9 34 = .ok (.goto 14, 3) := by decide +kernel
theorem dJ5_append_c97b9_37 : decode cJ5_append_c97b9 37 = .ok (.iload_n 1, 1) := by decide +kernel
theorem dJ5_append_c97b9_38 : decode cJ5_append_c97b9 38 = .ok (.iload_n 2, 1) := by decide +kernel
theorem dJ5_append_c97b9_39 : decode cJ5_append_c97b9 39 = .ok (.iload_n 3, 1) := by decide +kernel
theorem dJ5_append_c97b9_40 : decode cJ5_append_c97b9 40 = .ok (.aload_n 0, 1) := by decide +kernel
theorem dJ5_append_c97b9_41 : decode cJ5_append_c97b9 41 = .ok (.getfield 15, 3) := by decide +kernel
theorem dJ5_append_c97b9_44 : decode cJ5_append_c97b9 44 = .ok (.invokestatic 251, 3) := by decide +kernel
theorem dJ5_append_c97b9_47 : decode cJ5_append_c97b9 47 = .ok (.pop, 1) := by decide +kernel
theorem dJ5_append_c97b9_48 : decode cJ5_append_c97b9 48 = .ok (.aload_n 0, 1) := by decide +kernel
theorem dJ5_append_c97b9_49 : decode cJ5_append_c97b9 49 = .ok (.iload_n 3, 1) := by decide +kernel
theorem dJ5_append_c97b9_50 : decode cJ5_append_c97b9 50 = .ok (.putfield 79, 3) := by decide +kernel
theorem dJ5_append_c97b9_53 : decode cJ5_append_c97b9 53 = .ok (.aload_n 0, 1) := by decide +kernel
theorem dJ5_append_c97b9_54 : decode cJ5_append_c97b9 54 = .ok (.areturn, 1) := by decide +kernel
theorem dJ5_isLatin1_aae02_0 : decode cJ5_isLatin1_aae02 0 = .ok (.getstatic 18, 3) := by decide +kernel
theorem dJ5_isLatin1_aae02_3 : decode cJ5_isLatin1_aae02 3 = .ok (.ifCond .eq 14, 3) := by decide +kernel
theorem dJ5_isLatin1_aae02_6 : decode cJ5_isLatin1_aae02 6 = .ok (.aload_n 0, 1) := by decide +kernel
theorem dJ5_isLatin1_aae02_7 : decode cJ5_isLatin1_aae02 7 = .ok (.getfield 22, 3) := by decide +kernel
theorem dJ5_isLatin1_aae02_10 : decode cJ5_isLatin1_aae02 10 = .ok (.ifCond .ne 7, 3) := by decide +kernel
theorem dJ5_isLatin1_aae02_13 : decode cJ5_isLatin1_aae02 13 = .ok (.iconst 1, 1) := by decide +kernel
theorem dJ5_isLatin1_aae02_14 : decode cJ5_isLatin1_aae02 14 = .ok (.goto 4, 3) := by decide +kernel
theorem dJ5_isLatin1_aae02_17 : decode cJ5_isLatin1_aae02 17 = .ok (.iconst 0, 1) := by decide +kernel
theorem dJ5_isLatin1_aae02_18 : decode cJ5_isLatin1_aae02 18 = .ok (.ireturn, 1) := by decide +kernel
theorem dJ5_inflateIfNeededFor_a7421_0 : decode cJ5_inflateIfNeededFor_a7421 0 = .ok (.getstatic 18, 3) := by decide +kernel
theorem dJ5_inflateIfNeededFor_a7421_3 : decode cJ5_inflateIfNeededFor_a7421 3 = .ok (.ifCond .eq 18, 3) := by decide +kernel
theorem dJ5_inflateIfNeededFor_a7421_6 : decode cJ5_inflateIfNeededFor_a7421 6 = .ok (.aload_n 0, 1) := by decide +kernel
theorem dJ5_inflateIfNeededFor_a7421_7 : decode cJ5_inflateIfNeededFor_a7421 7 = .ok (.getfield 22, 3) := by decide +kernel
theorem dJ5_inflateIfNeededFor_a7421_10 : decode cJ5_inflateIfNeededFor_a7421 10 = .ok (.aload_n 1, 1) := by decide +kernel
theorem dJ5_inflateIfNeededFor_a7421_11 : decode cJ5_inflateIfNeededFor_a7421 11 = .ok (.invokevirtual 40, 3) := by decide +kernel
theorem dJ5_inflateIfNeededFor_a7421_14 : decode cJ5_inflateIfNeededFor_a7421 14 = .ok (.if_icmp .eq 7, 3) := by decide +kernel
theorem dJ5_inflateIfNeededFor_a7421_17 : decode cJ5_inflateIfNeededFor_a7421 17 = .ok (.aload_n 0, 1) := by decide +kernel
theorem dJ5_inflateIfNeededFor_a7421_18 : decode cJ5_inflateIfNeededFor_a7421 18 = .ok (.invokevirtual 195, 3) := by decide +kernel
theorem dJ5_inflateIfNeededFor_a7421_21 : decode cJ5_inflateIfNeededFor_a7421 21 = .ok (.return_, 1) := by decide +kernel
theorem dJ5_putStringAt_47b60_0 : decode cJ5_putStringAt_47b60 0 = .ok (.aload_n 0, 1) := by decide +kernel
theorem dJ5_putStringAt_47b60_1 : decode cJ5_putStringAt_47b60 1 = .ok (.aload_n 2, 1) := by decide +kernel
theorem dJ5_putStringAt_47b60_2 : decode cJ5_putStringAt_47b60 2 = .ok (.invokevirtual 397, 3) := by decide +kernel
theorem dJ5_putStringAt_47b60_5 : decode cJ5_putStringAt_47b60 5 = .ok (.aload_n 2, 1) := by decide +kernel
theorem dJ5_putStringAt_47b60_6 : decode cJ5_putStringAt_47b60 6 = .ok (.aload_n 0, 1) := by decide +kernel
theorem dJ5_putStringAt_47b60_7 : decode cJ5_putStringAt_47b60 7 = .ok (.getfield 15, 3) := by decide +kernel
theorem dJ5_putStringAt_47b60_10 : decode cJ5_putStringAt_47b60 10 = .ok (.iload_n 1, 1) := by decide +kernel
theorem dJ5_putStringAt_47b60_11 : decode cJ5_putStringAt_47b60 11 = .ok (.aload_n 0, 1) := by decide +kernel
theorem dJ5_putStringAt_47b60_12 : decode cJ5_putStringAt_47b60 12 = .ok (.getfield 22, 3) := by decide +kernel
theorem dJ5_putStringAt_47b60_15 : decode cJ5_putStringAt_47b60 15 = .ok (.invokevirtual 399, 3) := by decide +kernel
theorem dJ5_putStringAt_47b60_18 : decode cJ5_putStringAt_47b60 18 = .ok (.return_, 1) := by decide +kernel
theorem dJ6_getChars_ba4f3_0 : decode cJ6_getChars_ba4f3 0 = .ok (.iload_n 1, 1) := by decide +kernel
theorem dJ6_getChars_ba4f3_1 : decode cJ6_getChars_ba4f3 1 = .ok (.istore 5, 2) := by decide +kernel
theorem dJ6_getChars_ba4f3_3 : decode cJ6_getChars_ba4f3 3 = .ok (.iload_n 0, 1) := by decide +kernel
theorem dJ6_getChars_ba4f3_4 : decode cJ6_getChars_ba4f3 4 = .ok (.ifCond .ge 7, 3) := by decide +kernel
theorem dJ6_getChars_ba4f3_7 : decode cJ6_getChars_ba4f3 7 = .ok (.iconst 1, 1) := by decide +kernel
theorem dJ6_getChars_ba4f3_8 : decode cJ6_getChars_ba4f3 8 = .ok (.goto 4, 3) := by decide +kernel
theorem dJ6_getChars_ba4f3_11 : decode cJ6_getChars_ba4f3 11 = .ok (.iconst 0, 1) := by decide +kernel
theorem dJ6_getChars_ba4f3_12 : decode cJ6_getChars_ba4f3 12 = .ok (.istore 6, 2) := by decide +kernel
theorem dJ6_getChars_ba4f3_14 : decode cJ6_getChars_ba4f3 14 = .ok (.iload 6, 2) := by decide +kernel
theorem dJ6_getChars_ba4f3_16 : decode cJ6_getChars_ba4f3 16 = .ok (.ifCond .ne 6, 3) := by decide +kernel
theorem dJ6_getChars_ba4f3_19 : decode cJ6_getChars_ba4f3 19 = .ok (.iload_n 0, 1) := by decide +kernel
theorem dJ6_getChars_ba4f3_20 : decode cJ6_getChars_ba4f3 20 = .ok (.ineg, 1) := by decide +kernel
theorem dJ6_getChars_ba4f3_21 : decode cJ6_getChars_ba4f3 21 = .ok (.istore_n 0, 1) := by decide +kernel
theorem dJ6_getChars_ba4f3_22 : decode cJ6_getChars_ba4f3 22 = .ok (.iload_n 0, 1) := by decide +kernel
theorem dJ6_getChars_ba4f3_23 : decode cJ6_getChars_ba4f3 23 = .ok (.bipush (-100), 2) := by decide +kernel
theorem dJ6_getChars_ba4f3_25 : decode cJ6_getChars_ba4f3 25 = .ok (.if_icmp .gt 47, 3) := by decide +kernel
theorem dJ6_getChars_ba4f3_28 : decode cJ6_getChars_ba4f3 28 = .ok (.iload_n 0, 1) := by decide +kernel
theorem dJ6_getChars_ba4f3_29 : decode cJ6_getChars_ba4f3 29 = .ok (.bipush 100, 2) := by decide +kernel
theorem dJ6_getChars_ba4f3_31 : decode cJ6_getChars_ba4f3 31 = .ok (.idiv, 1) := by decide +kernel
theorem dJ6_getChars_ba4f3_32 : decode cJ6_getChars_ba4f3 32 = .ok (.istore_n 3, 1) := by decide +kernel
theorem dJ6_getChars_ba4f3_33 : decode cJ6_getChars_ba4f3 33 = .ok (.iload_n 3, 1) := by decide +kernel
theorem dJ6_getChars_ba4f3_34 : decode cJ6_getChars_ba4f3 34 = .ok (.bipush 100, 2) := by decide +kernel
theorem dJ6_getChars_ba4f3_36 : decode cJ6_getChars_ba4f3 36 = .ok (.imul, 1) := by decide +kernel
theorem dJ6_getChars_ba4f3_37 : decode cJ6_getChars_ba4f3 37 = .ok (.iload_n 0, 1) := by decide +kernel
theorem dJ6_getChars_ba4f3_38 : decode cJ6_getChars_ba4f3 38 = .ok (.isub, 1) := by decide +kernel
theorem dJ6_getChars_ba4f3_39 : decode cJ6_getChars_ba4f3 39 = .ok (.istore 4, 2) := by decide +kernel
theorem dJ6_getChars_ba4f3_41 : decode cJ6_getChars_ba4f3 41 = .ok (.iload_n 3, 1) := by decide +kernel
theorem dJ6_getChars_ba4f3_42 : decode cJ6_getChars_ba4f3 42 = .ok (.istore_n 0, 1) := by decide +kernel
theorem dJ6_getChars_ba4f3_43 : decode cJ6_getChars_ba4f3 43 = .ok (.aload_n 2, 1) := by decide +kernel
theorem dJ6_getChars_ba4f3_44 : decode cJ6_getChars_ba4f3 44 = .ok (.iinc 5 (-1), 3) := by decide +kernel
theorem dJ6_getChars_ba4f3_47 : decode cJ6_getChars_ba4f3 47 = .ok (.iload 5, 2) := by decide +kernel
theorem dJ6_getChars_ba4f3_49 : decode cJ6_getChars_ba4f3 49 = .ok (.getstatic 83, 3) := by decide +kernel
theorem dJ6_getChars_ba4f3_52 : decode cJ6_getChars_ba4f3 52 = .ok (.iload 4, 2) := by decide +kernel
theorem dJ6_getChars_ba4f3_54 : decode cJ6_getChars_ba4f3 54 = .ok (.baload, 1) := by decide +kernel
theorem dJ6_getChars_ba4f3_55 : decode cJ6_getChars_ba4f3 55 = .ok (.bastore, 1) := by decide +kernel
theorem dJ6_getChars_ba4f3_56 : decode cJ6_getChars_ba4f3 56 = .ok (.aload_n 2, 1) := by decide +kernel
theorem dJ6_getChars_ba4f3_57 : decode cJ6_getChars_ba4f3 57 = .ok (.iinc 5 (-1), 3) := by decide +kernel
theorem dJ6_getChars_ba4f3_60 : decode cJ6_getChars_ba4f3 60 = .ok (.iload 5, 2) := by decide +kernel
theorem dJ6_getChars_ba4f3_62 : decode cJ6_getChars_ba4f3 62 = .ok (.getstatic 87, 3) := by decide +kernel
theorem dJ6_getChars_ba4f3_65 : decode cJ6_getChars_ba4f3 65 = .ok (.iload 4, 2) := by decide +kernel
theorem dJ6_getChars_ba4f3_67 : decode cJ6_getChars_ba4f3 67 = .ok (.baload, 1) := by decide +kernel
theorem dJ6_getChars_ba4f3_68 : decode cJ6_getChars_ba4f3 68 = .ok (.bastore, 1) := by decide +kernel
theorem dJ6_getChars_ba4f3_69 : decode cJ6_getChars_ba4f3 69 = .ok (.goto (-47), 3) := by decide +kernel
theorem dJ6_getChars_ba4f3_72 : decode cJ6_getChars_ba4f3 72 = .ok (.aload_n 2, 1) := by decide +kernel
theorem dJ6_getChars_ba4f3_73 : decode cJ6_getChars_ba4f3 73 = .ok (.iinc 5 (-1), 3) := by decide +kernel
theorem dJ6_getChars_ba4f3_76 : decode cJ6_getChars_ba4f3 76 = .ok (.iload 5, 2) := by decide +kernel
theorem dJ6_getChars_ba4f3_78 : decode cJ6_getChars_ba4f3 78 = .ok (.getstatic 83, 3) := by decide +kernel
theorem dJ6_getChars_ba4f3_81 : decode cJ6_getChars_ba4f3 81 = .ok (.iload_n 0, 1) := by decide +kernel
theorem dJ6_getChars_ba4f3_82 : decode cJ6_getChars_ba4f3 82 = .ok (.ineg, 1) := by decide +kernel
theorem dJ6_getChars_ba4f3_83 : decode cJ6_getChars_ba4f3 83 = .ok (.baload, 1) := by decide +kernel
theorem dJ6_getChars_ba4f3_84 : decode cJ6_getChars_ba4f3 84 = .ok (.bastore, 1) := by decide +kernel
theorem dJ6_getChars_ba4f3_85 : decode cJ6_getChars_ba4f3 85 = .ok (.iload_n 0, 1) := by decide +kernel
theorem dJ6_getChars_ba4f3_86 : decode cJ6_getChars_ba4f3 86 = .ok (.bipush (-9), 2) := by decide +kernel
theorem dJ6_getChars_ba4f3_88 : decode cJ6_getChars_ba4f3 88 = .ok (.if_icmp .ge 16, 3) := by decide +kernel
theorem dJ6_getChars_ba4f3_91 : decode cJ6_getChars_ba4f3 91 = .ok (.aload_n 2, 1) := by decide +kernel
theorem dJ6_getChars_ba4f3_92 : decode cJ6_getChars_ba4f3 92 = .ok (.iinc 5 (-1), 3) := by decide +kernel
theorem dJ6_getChars_ba4f3_95 : decode cJ6_getChars_ba4f3 95 = .ok (.iload 5, 2) := by decide +kernel
theorem dJ6_getChars_ba4f3_97 : decode cJ6_getChars_ba4f3 97 = .ok (.getstatic 87, 3) := by decide +kernel
theorem dJ6_getChars_ba4f3_100 : decode cJ6_getChars_ba4f3 100 = .ok (.iload_n 0, 1) := by decide +kernel
theorem dJ6_getChars_ba4f3_101 : decode cJ6_getChars_ba4f3 101 = .ok (.ineg, 1) := by decide +kernel
theorem dJ6_getChars_ba4f3_102 : decode cJ6_getChars_ba4f3 102 = .ok (.baload, 1) := by decide +kernel
theorem dJ6_getChars_ba4f3_103 : decode cJ6_getChars_ba4f3 103 = .ok (.bastore, 1) := by decide +kernel
theorem dJ6_getChars_ba4f3_104 : decode cJ6_getChars_ba4f3 104 = .ok (.iload 6, 2) := by decide +kernel
theorem dJ6_getChars_ba4f3_106 : decode cJ6_getChars_ba4f3 106 = .ok (.ifCond .eq 12, 3) := by decide +kernel
theorem dJ6_getChars_ba4f3_109 : decode cJ6_getChars_ba4f3 109 = .ok (.aload_n 2, 1) := by decide +kernel
theorem dJ6_getChars_ba4f3_110 : decode cJ6_getChars_ba4f3 110 = .ok (.iinc 5 (-1), 3) := by decide +kernel
theorem dJ6_getChars_ba4f3_113 : decode cJ6_getChars_ba4f3 113 = .ok (.iload 5, 2) := by decide +kernel
theorem dJ6_getChars_ba4f3_115 : decode cJ6_getChars_ba4f3 115 = .ok (.bipush 45, 2) := by decide +kernel
theorem dJ6_getChars_ba4f3_117 : decode cJ6_getChars_ba4f3 117 = .ok (.bastore, 1) := by decide +kernel
theorem dJ6_getChars_ba4f3_118 : decode cJ6_getChars_ba4f3 118 = .ok (.iload 5, 2) := by decide +kernel
theorem dJ6_getChars_ba4f3_120 : decode cJ6_getChars_ba4f3 120 = .ok (.ireturn, 1) := by decide +kernel
theorem dJ6_stringSize_0f7a4_0 : decode cJ6_stringSize_0f7a4 0 = .ok (.iconst 1, 1) := by decide +kernel
theorem dJ6_stringSize_0f7a4_1 : decode cJ6_stringSize_0f7a4 1 = .ok (.istore_n 1, 1) := by decide +kernel
theorem dJ6_stringSize_0f7a4_2 : decode cJ6_stringSize_0f7a4 2 = .ok (.iload_n 0, 1) := by decide +kernel
theorem dJ6_stringSize_0f7a4_3 : decode cJ6_stringSize_0f7a4 3 = .ok (.ifCond .lt 8, 3) := by decide +kernel
theorem dJ6_stringSize_0f7a4_6 : decode cJ6_stringSize_0f7a4 6 = .ok (.iconst 0, 1) := by decide +kernel
theorem dJ6_stringSize_0f7a4_7 : decode cJ6_stringSize_0f7a4 7 = .ok (.istore_n 1, 1) := by decide +kernel
theorem dJ6_stringSize_0f7a4_8 : decode cJ6_stringSize_0f7a4 8 = .ok (.iload_n 0, 1) := by decide +kernel
theorem dJ6_stringSize_0f7a4_9 : decode cJ6_stringSize_0f7a4 9 = .ok (.ineg, 1) := by decide +kernel
theorem dJ6_stringSize_0f7a4_10 : decode cJ6_stringSize_0f7a4 10 = .ok (.istore_n 0, 1) := by decide +kernel
theorem dJ6_stringSize_0f7a4_11 : decode cJ6_stringSize_0f7a4 11 = .ok (.bipush (-10), 2) := by decide +kernel
theorem dJ6_stringSize_0f7a4_13 : decode cJ6_stringSize_0f7a4 13 = .ok (.istore_n 2, 1) := by decide +kernel
theorem dJ6_stringSize_0f7a4_14 : decode cJ6_stringSize_0f7a4 14 = .ok (.iconst 1, 1) := by decide +kernel
theorem dJ6_stringSize_0f7a4_15 : decode cJ6_stringSize_0f7a4 15 = .ok (.istore_n 3, 1) := by decide +kernel
theorem dJ6_stringSize_0f7a4_16 : decode cJ6_stringSize_0f7a4 16 = .ok (.iload_n 3, 1) := by decide +kernel
theorem dJ6_stringSize_0f7a4_17 : decode cJ6_stringSize_0f7a4 17 = .ok (.bipush 10, 2) := by decide +kernel
theorem dJ6_stringSize_0f7a4_19 : decode cJ6_stringSize_0f7a4 19 = .ok (.if_icmp .ge 23, 3) := by decide +kernel
theorem dJ6_stringSize_0f7a4_22 : decode cJ6_stringSize_0f7a4 22 = .ok (.iload_n 0, 1) := by decide +kernel
theorem dJ6_stringSize_0f7a4_23 : decode cJ6_stringSize_0f7a4 23 = .ok (.iload_n 2, 1) := by decide +kernel
theorem dJ6_stringSize_0f7a4_24 : decode cJ6_stringSize_0f7a4 24 = .ok (.if_icmp .le 7, 3) := by decide +kernel
theorem dJ6_stringSize_0f7a4_27 : decode cJ6_stringSize_0f7a4 27 = .ok (.iload_n 3, 1) := by decide +kernel
theorem dJ6_stringSize_0f7a4_28 : decode cJ6_stringSize_0f7a4 28 = .ok (.iload_n 1, 1) := by decide +kernel
theorem dJ6_stringSize_0f7a4_29 : decode cJ6_stringSize_0f7a4 29 = .ok (.iadd, 1) := by decide +kernel
theorem dJ6_stringSize_0f7a4_30 : decode cJ6_stringSize_0f7a4 30 = .ok (.ireturn, 1) := by decide +kernel
theorem dJ6_stringSize_0f7a4_31 : decode cJ6_stringSize_0f7a4 31 = .ok (.bipush 10, 2) := by decide +kernel
theorem dJ6_stringSize_0f7a4_33 : decode cJ6_stringSize_0f7a4 33 = .ok (.iload_n 2, 1) := by decide +kernel
theorem dJ6_stringSize_0f7a4_34 : decode cJ6_stringSize_0f7a4 34 = .ok (.imul, 1) := by decide +kernel
theorem dJ6_stringSize_0f7a4_35 : decode cJ6_stringSize_0f7a4 35 = .ok (.istore_n 2, 1) := by decide +kernel
theorem dJ6_stringSize_0f7a4_36 : decode cJ6_stringSize_0f7a4 36 = .ok (.iinc 3 1, 3) := by decide +kernel
theorem dJ6_stringSize_0f7a4_39 : decode cJ6_stringSize_0f7a4 39 = .ok (.goto (-23), 3) := by decide +kernel
theorem dJ6_stringSize_0f7a4_42 : decode cJ6_stringSize_0f7a4 42 = .ok (.bipush 10, 2) := by decide +kernel
theorem dJ6_stringSize_0f7a4_44 : decode cJ6_stringSize_0f7a4 44 = .ok (.iload_n 1, 1) := by decide +kernel
theorem dJ6_stringSize_0f7a4_45 : decode cJ6_stringSize_0f7a4 45 = .ok (.iadd, 1) := by decide +kernel
theorem dJ6_stringSize_0f7a4_46 : decode cJ6_stringSize_0f7a4 46 = .ok (.ireturn, 1) := by decide +kernel
theorem dJ6_bitCount_0f7a4_0 : decode cJ6_bitCount_0f7a4 0 = .ok (.iload_n 0, 1) := by decide +kernel
theorem dJ6_bitCount_0f7a4_1 : decode cJ6_bitCount_0f7a4 1 = .ok (.iload_n 0, 1) := by decide +kernel
theorem dJ6_bitCount_0f7a4_2 : decode cJ6_bitCount_0f7a4 2 = .ok (.iconst 1, 1) := by decide +kernel
theorem dJ6_bitCount_0f7a4_3 : decode cJ6_bitCount_0f7a4 3 = .ok (.iushr, 1) := by decide +kernel
theorem dJ6_bitCount_0f7a4_4 : decode cJ6_bitCount_0f7a4 4 = .ok (.ldc_w 265, 3) := by decide +kernel
theorem dJ6_bitCount_0f7a4_7 : decode cJ6_bitCount_0f7a4 7 = .ok (.iand, 1) := by decide +kernel
theorem dJ6_bitCount_0f7a4_8 : decode cJ6_bitCount_0f7a4 8 = .ok (.isub, 1) := by decide +kernel
theorem dJ6_bitCount_0f7a4_9 : decode cJ6_bitCount_0f7a4 9 = .ok (.istore_n 0, 1) := by decide +kernel
theorem dJ6_bitCount_0f7a4_10 : decode cJ6_bitCount_0f7a4 10 = .ok (.iload_n 0, 1) := by decide +kernel
theorem dJ6_bitCount_0f7a4_11 : decode cJ6_bitCount_0f7a4 11 = .ok (.ldc_w 266, 3) := by decide +kernel
theorem dJ6_bitCount_0f7a4_14 : decode cJ6_bitCount_0f7a4 14 = .ok (.iand, 1) := by decide +kernel
theorem dJ6_bitCount_0f7a4_15 : decode cJ6_bitCount_0f7a4 15 = .ok (.iload_n 0, 1) := by decide +kernel
theorem dJ6_bitCount_0f7a4_16 : decode cJ6_bitCount_0f7a4 16 = .ok (.iconst 2, 1) := by decide +kernel
theorem dJ6_bitCount_0f7a4_17 : decode cJ6_bitCount_0f7a4 17 = .ok (.iushr, 1) := by decide +kernel
theorem dJ6_bitCount_0f7a4_18 : decode cJ6_bitCount_0f7a4 18 = .ok (.ldc_w 266, 3) := by decide +kernel
theorem dJ6_bitCount_0f7a4_21 : decode cJ6_bitCount_0f7a4 21 = .ok (.iand, 1) := by decide +kernel
theorem dJ6_bitCount_0f7a4_22 : decode cJ6_bitCount_0f7a4 22 = .ok (.iadd, 1) := by decide +kernel
theorem dJ6_bitCount_0f7a4_23 : decode cJ6_bitCount_0f7a4 23 = .ok (.istore_n 0, 1) := by decide +kernel
theorem dJ6_bitCount_0f7a4_24 : decode cJ6_bitCount_0f7a4 24 = .ok (.iload_n 0, 1) := by decide +kernel
theorem dJ6_bitCount_0f7a4_25 : decode cJ6_bitCount_0f7a4 25 = .ok (.iload_n 0, 1) := by decide +kernel
theorem dJ6_bitCount_0f7a4_26 : decode cJ6_bitCount_0f7a4 26 = .ok (.iconst 4, 1) := by decide +kernel
theorem dJ6_bitCount_0f7a4_27 : decode cJ6_bitCount_0f7a4 27 = .ok (.iushr, 1) := by decide +kernel
theorem dJ6_bitCount_0f7a4_28 : decode cJ6_bitCount_0f7a4 28 = .ok (.iadd, 1) := by decide +kernel
theorem dJ6_bitCount_0f7a4_29 : decode cJ6_bitCount_0f7a4 29 = .ok (.ldc_w 267, 3) := by decide +kernel
theorem dJ6_bitCount_0f7a4_32 : decode cJ6_bitCount_0f7a4 32 = .ok (.iand, 1) := by decide +kernel
theorem dJ6_bitCount_0f7a4_33 : decode cJ6_bitCount_0f7a4 33 = .ok (.istore_n 0, 1) := by decide +kernel
theorem dJ6_bitCount_0f7a4_34 : decode cJ6_bitCount_0f7a4 34 = .ok (.iload_n 0, 1) := by decide +kernel
theorem dJ6_bitCount_0f7a4_35 : decode cJ6_bitCount_0f7a4 35 = .ok (.iload_n 0, 1) := by decide +kernel
theorem dJ6_bitCount_0f7a4_36 : decode cJ6_bitCount_0f7a4 36 = .ok (.bipush 8, 2) := by decide +kernel
theorem dJ6_bitCount_0f7a4_38 : decode cJ6_bitCount_0f7a4 38 = .ok (.iushr, 1) := by decide +kernel
theorem dJ6_bitCount_0f7a4_39 : decode cJ6_bitCount_0f7a4 39 = .ok (.iadd, 1) := by decide +kernel
theorem dJ6_bitCount_0f7a4_40 : decode cJ6_bitCount_0f7a4 40 = .ok (.istore_n 0, 1) := by decide +kernel
theorem dJ6_bitCount_0f7a4_41 : decode cJ6_bitCount_0f7a4 41 = .ok (.iload_n 0, 1) := by decide +kernel
theorem dJ6_bitCount_0f7a4_42 : decode cJ6_bitCount_0f7a4 42 = .ok (.iload_n 0, 1) := by decide +kernel
theorem dJ6_bitCount_0f7a4_43 : decode cJ6_bitCount_0f7a4 43 = .ok (.bipush 16, 2) := by decide +kernel
theorem dJ6_bitCount_0f7a4_45 : decode cJ6_bitCount_0f7a4 45 = .ok (.iushr, 1) := by decide +kernel
theorem dJ6_bitCount_0f7a4_46 : decode cJ6_bitCount_0f7a4 46 = .ok (.iadd, 1) := by decide +kernel
theorem dJ6_bitCount_0f7a4_47 : decode cJ6_bitCount_0f7a4 47 = .ok (.istore_n 0, 1) := by decide +kernel
theorem dJ6_bitCount_0f7a4_48 : decode cJ6_bitCount_0f7a4 48 = .ok (.iload_n 0, 1) := by decide +kernel
theorem dJ6_bitCount_0f7a4_49 : decode cJ6_bitCount_0f7a4 49 = .ok (.bipush 63, 2) := by decide +kernel
theorem dJ6_bitCount_0f7a4_51 : decode cJ6_bitCount_0f7a4 51 = .ok (.iand, 1) := by decide +kernel
theorem dJ6_bitCount_0f7a4_52 : decode cJ6_bitCount_0f7a4 52 = .ok (.ireturn, 1) := by decide +kernel
theorem dJ9_floorMod_7cf53_0 : decode cJ9_floorMod_7cf53 0 = .ok (.iload_n 0, 1) := by decide +kernel
theorem dJ9_floorMod_7cf53_1 : decode cJ9_floorMod_7cf53 1 = .ok (.iload_n 1, 1) := by decide +kernel
theorem dJ9_floorMod_7cf53_2 : decode cJ9_floorMod_7cf53 2 = .ok (.irem, 1) := by decide +kernel
theorem dJ9_floorMod_7cf53_3 : decode cJ9_floorMod_7cf53 3 = .ok (.istore_n 2, 1) := by decide +kernel
theorem dJ9_floorMod_7cf53_4 : decode cJ9_floorMod_7cf53 4 = .ok (.iload_n 0, 1) := by decide +kernel
theorem dJ9_floorMod_7cf53_5 : decode cJ9_floorMod_7cf53 5 = .ok (.iload_n 1, 1) := by decide +kernel
theorem dJ9_floorMod_7cf53_6 : decode cJ9_floorMod_7cf53 6 = .ok (.ixor, 1) := by decide +kernel
theorem dJ9_floorMod_7cf53_7 : decode cJ9_floorMod_7cf53 7 = .ok (.ifCond .ge 11, 3) := by decide +kernel
theorem dJ9_floorMod_7cf53_10 : decode cJ9_floorMod_7cf53 10 = .ok (.iload_n 2, 1) := by decide +kernel
theorem dJ9_floorMod_7cf53_11 : decode cJ9_floorMod_7cf53 11 = .ok (.ifCond .eq 7, 3) := by decide +kernel
theorem dJ9_floorMod_7cf53_14 : decode cJ9_floorMod_7cf53 14 = .ok (.iload_n 2, 1) := by decide +kernel
theorem dJ9_floorMod_7cf53_15 : decode cJ9_floorMod_7cf53 15 = .ok (.iload_n 1, 1) := by decide +kernel
theorem dJ9_floorMod_7cf53_16 : decode cJ9_floorMod_7cf53 16 = .ok (.iadd, 1) := by decide +kernel
theorem dJ9_floorMod_7cf53_17 : decode cJ9_floorMod_7cf53 17 = .ok (.ireturn, 1) := by decide +kernel
theorem dJ9_floorMod_7cf53_18 : decode cJ9_floorMod_7cf53 18 = .ok (.iload_n 2, 1) := by decide +kernel
theorem dJ9_floorMod_7cf53_19 : decode cJ9_floorMod_7cf53 19 = .ok (.ireturn, 1) := by decide +kernel
theorem dJ9_max_7cf53_0 : decode cJ9_max_7cf53 0 = .ok (.iload_n 0, 1) := by decide +kernel
theorem dJ9_max_7cf53_1 : decode cJ9_max_7cf53 1 = .ok (.iload_n 1, 1) := by decide +kernel
theorem dJ9_max_7cf53_2 : decode cJ9_max_7cf53 2 = .ok (.if_icmp .lt 7, 3) := by decide +kernel
theorem dJ9_max_7cf53_5 : decode cJ9_max_7cf53 5 = .ok (.iload_n 0, 1) := by decide +kernel
theorem dJ9_max_7cf53_6 : decode cJ9_max_7cf53 6 = .ok (.goto 4, 3) := by decide +kernel
theorem dJ9_max_7cf53_9 : decode cJ9_max_7cf53 9 = .ok (.iload_n 1, 1) := by decide +kernel
theorem dJ9_max_7cf53_10 : decode cJ9_max_7cf53 10 = .ok (.ireturn, 1) := by decide +kernel
theorem dJ9_min_7cf53_0 : decode cJ9_min_7cf53 0 = .ok (.iload_n 0, 1) := by decide +kernel
theorem dJ9_min_7cf53_1 : decode cJ9_min_7cf53 1 = .ok (.iload_n 1, 1) := by decide +kernel
theorem dJ9_min_7cf53_2 : decode cJ9_min_7cf53 2 = .ok (.if_icmp .gt 7, 3) := by decide +kernel
theorem dJ9_min_7cf53_5 : decode cJ9_min_7cf53 5 = .ok (.iload_n 0, 1) := by decide +kernel
theorem dJ9_min_7cf53_6 : decode cJ9_min_7cf53 6 = .ok (.goto 4, 3) := by decide +kernel
theorem dJ9_min_7cf53_9 : decode cJ9_min_7cf53 9 = .ok (.iload_n 1, 1) := by decide +kernel
theorem dJ9_min_7cf53_10 : decode cJ9_min_7cf53 10 = .ok (.ireturn, 1) := by decide +kernel
theorem dJ0_length_8abf5_0 : decode cJ0_length_8abf5 0 = .ok (.aload_n 0, 1) := by decide +kernel
theorem dJ0_length_8abf5_1 : decode cJ0_length_8abf5 1 = .ok (.getfield 9, 3) := by decide +kernel
theorem dJ0_length_8abf5_4 : decode cJ0_length_8abf5 4 = .ok (.arraylength, 1) := by decide +kernel
theorem dJ0_length_8abf5_5 : decode cJ0_length_8abf5 5 = .ok (.aload_n 0, 1) := by decide +kernel
theorem dJ0_length_8abf5_6 : decode cJ0_length_8abf5 6 = .ok (.invokevirtual 335, 3) := by decide +kernel
theorem dJ0_length_8abf5_9 : decode cJ0_length_8abf5 9 = .ok (.ishr, 1) := by decide +kernel
theorem dJ0_length_8abf5_10 : decode cJ0_length_8abf5 10 = .ok (.ireturn, 1) := by decide +kernel
theorem dJ0_charAt_5068e_0 : decode cJ0_charAt_5068e 0 = .ok (.aload_n 0, 1) := by decide +kernel
theorem dJ0_charAt_5068e_1 : decode cJ0_charAt_5068e 1 = .ok (.invokevirtual 492, 3) := by decide +kernel
theorem dJ0_charAt_5068e_4 : decode cJ0_charAt_5068e 4 = .ok (.ifCond .eq 12, 3) := by decide +kernel
theorem dJ0_charAt_5068e_7 : decode cJ0_charAt_5068e 7 = .ok (.aload_n 0, 1) := by decide +kernel
theorem dJ0_charAt_5068e_8 : decode cJ0_charAt_5068e 8 = .ok (.getfield 9, 3) := by decide +kernel
theorem dJ0_charAt_5068e_11 : decode cJ0_charAt_5068e 11 = .ok (.iload_n 1, 1) := by decide +kernel
theorem dJ0_charAt_5068e_12 : decode cJ0_charAt_5068e 12 = .ok (.invokestatic 495, 3) := by decide +kernel
theorem dJ0_charAt_5068e_15 : decode cJ0_charAt_5068e 15 = .ok (.ireturn, 1) := by decide +kernel
theorem dJ0_charAt_5068e_16 : decode cJ0_charAt_5068e 16 = .ok (.aload_n 0, 1) := by decide +kernel
theorem dJ0_charAt_5068e_17 : decode cJ0_charAt_5068e 17 = .ok (.getfield 9, 3) := by decide +kernel
theorem dJ0_charAt_5068e_20 : decode cJ0_charAt_5068e 20 = .ok (.iload_n 1, 1) := by decide +kernel
theorem dJ0_charAt_5068e_21 : decode cJ0_charAt_5068e 21 = .ok (.invokestatic 498, 3) := by decide +kernel
theorem dJ0_charAt_5068e_24 : decode cJ0_charAt_5068e 24 = .ok (.ireturn, 1) := by decide +kernel
theorem dJ0_getBytes_840e7_0 : decode cJ0_getBytes_840e7 0 = .ok (.aload_n 0, 1) := by decide +kernel
theorem dJ0_getBytes_840e7_1 : decode cJ0_getBytes_840e7 1 = .ok (.invokevirtual 335, 3) := by decide +kernel
theorem dJ0_getBytes_840e7_4 : decode cJ0_getBytes_840e7 4 = .ok (.iload_n 3, 1) := by decide +kernel
theorem dJ0_getBytes_840e7_5 : decode cJ0_getBytes_840e7 5 = .ok (.if_icmp .ne 23, 3) := by decide +kernel
theorem dJ0_getBytes_840e7_8 : decode cJ0_getBytes_840e7 8 = .ok (.aload_n 0, 1) := by decide +kernel
theorem dJ0_getBytes_840e7_9 : decode cJ0_getBytes_840e7 9 = .ok (.getfield 9, 3) := by decide +kernel
theorem dJ0_getBytes_840e7_12 : decode cJ0_getBytes_840e7 12 = .ok (.iconst 0, 1) := by decide +kernel
theorem dJ0_getBytes_840e7_13 : decode cJ0_getBytes_840e7 13 = .ok (.aload_n 1, 1) := by decide +kernel
theorem dJ0_getBytes_840e7_14 : decode cJ0_getBytes_840e7 14 = .ok (.iload_n 2, 1) := by decide +kernel
theorem dJ0_getBytes_840e7_15 : decode cJ0_getBytes_840e7 15 = .ok (.iload_n 3, 1) := by decide +kernel
theorem dJ0_getBytes_840e7_16 : decode cJ0_getBytes_840e7 16 = .ok (.ishl, 1) := by decide +kernel
theorem dJ0_getBytes_840e7_17 : decode cJ0_getBytes_840e7 17 = .ok (.aload_n 0, 1) := by decide +kernel
theorem dJ0_getBytes_840e7_18 : decode cJ0_getBytes_840e7 18 = .ok (.getfield 9, 3) := by decide +kernel
theorem dJ0_getBytes_840e7_21 : decode cJ0_getBytes_840e7 21 = .ok (.arraylength, 1) := by decide +kernel
theorem dJ0_getBytes_840e7_22 : decode cJ0_getBytes_840e7 22 = .ok (.invokestatic 212, 3) := by decide +kernel
theorem dJ0_getBytes_840e7_25 : decode cJ0_getBytes_840e7 25 = .ok (.goto 18, 3) := by decide +kernel
theorem dJ0_getBytes_840e7_28 : decode cJ0_getBytes_840e7 28 = .ok (.aload_n 0, 1) := by decide +kernel
theorem dJ0_getBytes_840e7_29 : decode cJ0_getBytes_840e7 29 = .ok (.getfield 9, 3) := by decide +kernel
theorem dJ0_getBytes_840e7_32 : decode cJ0_getBytes_840e7 32 = .ok (.iconst 0, 1) := by decide +kernel
theorem dJ0_getBytes_840e7_33 : decode cJ0_getBytes_840e7 33 = .ok (.aload_n 1, 1) := by decide +kernel
theorem dJ0_getBytes_840e7_34 : decode cJ0_getBytes_840e7 34 = .ok (.iload_n 2, 1) := by decide +kernel
theorem dJ0_getBytes_840e7_35 : decode cJ0_getBytes_840e7 35 = .ok (.aload_n 0, 1) := by decide +kernel
theorem dJ0_getBytes_840e7_36 : decode cJ0_getBytes_840e7 36 = .ok (.getfield 9, 3) := by decide +kernel
theorem dJ0_getBytes_840e7_39 : decode cJ0_getBytes_840e7 39 = .ok (.arraylength, 1) := by decide +kernel
theorem dJ0_getBytes_840e7_40 : decode cJ0_getBytes_840e7 40 = .ok (.invokestatic 106, 3) := by decide +kernel
theorem dJ0_getBytes_840e7_43 : decode cJ0_getBytes_840e7 43 = .ok (.return_, 1) := by decide +kernel
theorem dJ0_coder_7d493_0 : decode cJ0_coder_7d493 0 = .ok (.getstatic 38, 3) := by decide +kernel
theorem dJ0_coder_7d493_3 : decode cJ0_coder_7d493 3 = .ok (.ifCond .eq 10, 3) := by decide +kernel
theorem dJ0_coder_7d493_6 : decode cJ0_coder_7d493 6 = .ok (.aload_n 0, 1) := by decide +kernel
theorem dJ0_coder_7d493_7 : decode cJ0_coder_7d493 7 = .ok (.getfield 15, 3) := by decide +kernel
theorem dJ0_coder_7d493_10 : decode cJ0_coder_7d493 10 = .ok (.goto 4, 3) := by decide +kernel
theorem dJ0_coder_7d493_13 : decode cJ0_coder_7d493 13 = .ok (.iconst 1, 1) := by decide +kernel
theorem dJ0_coder_7d493_14 : decode cJ0_coder_7d493 14 = .ok (.ireturn, 1) := by decide +kernel
theorem dJ0_isLatin1_aae02_0 : decode cJ0_isLatin1_aae02 0 = .ok (.getstatic 38, 3) := by decide +kernel
theorem dJ0_isLatin1_aae02_3 : decode cJ0_isLatin1_aae02 3 = .ok (.ifCond .eq 14, 3) := by decide +kernel
theorem dJ0_isLatin1_aae02_6 : decode cJ0_isLatin1_aae02 6 = .ok (.aload_n 0, 1) := by decide +kernel
theorem dJ0_isLatin1_aae02_7 : decode cJ0_isLatin1_aae02 7 = .ok (.getfield 15, 3) := by decide +kernel
theorem dJ0_isLatin1_aae02_10 : decode cJ0_isLatin1_aae02 10 = .ok (.ifCond .ne 7, 3) := by decide +kernel
theorem dJ0_isLatin1_aae02_13 : decode cJ0_isLatin1_aae02 13 = .ok (.iconst 1, 1) := by decide +kernel
theorem dJ0_isLatin1_aae02_14 : decode cJ0_isLatin1_aae02 14 = .ok (.goto 4, 3) := by decide +kernel
theorem dJ0_isLatin1_aae02_17 : decode cJ0_isLatin1_aae02 17 = .ok (.iconst 0, 1) := by decide +kernel
theorem dJ0_isLatin1_aae02_18 : decode cJ0_isLatin1_aae02 18 = .ok (.ireturn, 1) := by decide +kernel
theorem dJ0_checkIndex_df160_0 : decode cJ0_checkIndex_df160 0 = .ok (.iload_n 0, 1) := by decide +kernel
theorem dJ0_checkIndex_df160_1 : decode cJ0_checkIndex_df160 1 = .ok (.iload_n 1, 1) := by decide +kernel
theorem dJ0_checkIndex_df160_2 : decode cJ0_checkIndex_df160 2 = .ok (.getstatic 1053, 3) := by decide +kernel
theorem dJ0_checkIndex_df160_5 : decode cJ0_checkIndex_df160 5 = .ok (.invokestatic 1059, 3) := by decide +kernel
theorem dJ0_checkIndex_df160_8 : decode cJ0_checkIndex_df160 8 = .ok (.pop, 1) := by decide +kernel
theorem dJ0_checkIndex_df160_9 : decode cJ0_checkIndex_df160 9 = .ok (.return_, 1) := by decide +kernel
theorem dJ0_checkBoundsOffCount_cabcc_0 : decode cJ0_checkBoundsOffCount_cabcc 0 = .ok (.iload_n 0, 1) := by decide +kernel
theorem dJ0_checkBoundsOffCount_cabcc_1 : decode cJ0_checkBoundsOffCount_cabcc 1 = .ok (.iload_n 1, 1) := by decide +kernel
theorem dJ0_checkBoundsOffCount_cabcc_2 : decode cJ0_checkBoundsOffCount_cabcc 2 = .ok (.iload_n 2, 1) := by decide +kernel
theorem dJ0_checkBoundsOffCount_cabcc_3 : decode cJ0_checkBoundsOffCount_cabcc 3 = .ok (.getstatic 1053, 3) := by decide +kernel
theorem dJ0_checkBoundsOffCount_cabcc_6 : decode cJ0_checkBoundsOffCount_cabcc 6 = .ok (.invokestatic 1065, 3) := by decide +kernel
theorem dJ0_checkBoundsOffCount_cabcc_9 : decode cJ0_checkBoundsOffCount_cabcc 9 = .ok (.ireturn, 1) := by decide +kernel
theorem dJ0_checkBoundsBeginEnd_23922_0 : decode cJ0_checkBoundsBeginEnd_23922 0 = .ok (.iload_n 0, 1) := by decide +kernel
theorem dJ0_checkBoundsBeginEnd_23922_1 : decode cJ0_checkBoundsBeginEnd_23922 1 = .ok (.iload_n 1, 1) := by decide +kernel
theorem dJ0_checkBoundsBeginEnd_23922_2 : decode cJ0_checkBoundsBeginEnd_23922 2 = .ok (.iload_n 2, 1) := by decide +kernel
theorem dJ0_checkBoundsBeginEnd_23922_3 : decode cJ0_checkBoundsBeginEnd_23922 3 = .ok (.getstatic 1053, 3) := by decide +kernel
theorem dJ0_checkBoundsBeginEnd_23922_6 : decode cJ0_checkBoundsBeginEnd_23922 6 = .ok (.invokestatic 1062, 3) := by decide +kernel
theorem dJ0_checkBoundsBeginEnd_23922_9 : decode cJ0_checkBoundsBeginEnd_23922 9 = .ok (.pop, 1) := by decide +kernel
theorem dJ0_checkBoundsBeginEnd_23922_10 : decode cJ0_checkBoundsBeginEnd_23922 10 = .ok (.return_, 1) := by decide +kernel
theorem dJ4_init_a7421_0 : decode cJ4_init_a7421 0 = .ok (.aload_n 0, 1) := by decide +kernel
theorem dJ4_init_a7421_1 : decode cJ4_init_a7421 1 = .ok (.aload_n 1, 1) := by decide +kernel
theorem dJ4_init_a7421_2 : decode cJ4_init_a7421 2 = .ok (.invokespecial 7, 3) := by decide +kernel
theorem dJ4_init_a7421_5 : decode cJ4_init_a7421 5 = .ok (.return_, 1) := by decide +kernel
theorem dJ4_append_15ec4_0 : decode cJ4_append_15ec4 0 = .ok (.aload_n 0, 1) := by decide +kernel
theorem dJ4_append_15ec4_1 : decode cJ4_append_15ec4 1 = .ok (.aload_n 1, 1) := by decide +kernel
theorem dJ4_append_15ec4_2 : decode cJ4_append_15ec4 2 = .ok (.invokespecial 29, 3) := by decide +kernel
theorem dJ4_append_15ec4_5 : decode cJ4_append_15ec4 5 = .ok (.pop, 1) := by decide +kernel
theorem dJ4_append_15ec4_6 : decode cJ4_append_15ec4 6 = .ok (.aload_n 0, 1) := by decide +kernel
theorem dJ4_append_15ec4_7 : decode cJ4_append_15ec4 7 = .ok (.areturn, 1) := by decide +kernel
theorem dJ4_append_cf468_0 : decode cJ4_append_cf468 0 = .ok (.aload_n 0, 1) := by decide +kernel
theorem dJ4_append_cf468_1 : decode cJ4_append_cf468 1 = .ok (.iload_n 1, 1) := by decide +kernel
theorem dJ4_append_cf468_2 : decode cJ4_append_cf468 2 = .ok (.invokespecial 50, 3) := by decide +kernel
theorem dJ4_append_cf468_5 : decode cJ4_append_cf468 5 = .ok (.pop, 1) := by decide +kernel
theorem dJ4_append_cf468_6 : decode cJ4_append_cf468 6 = .ok (.aload_n 0, 1) := by decide +kernel
theorem dJ4_append_cf468_7 : decode cJ4_append_cf468 7 = .ok (.areturn, 1) := by decide +kernel
theorem dJ4_append_bf812_0 : decode cJ4_append_bf812 0 = .ok (.aload_n 0, 1) := by decide +kernel
theorem dJ4_append_bf812_1 : decode cJ4_append_bf812 1 = .ok (.iload_n 1, 1) := by decide +kernel
theorem dJ4_append_bf812_2 : decode cJ4_append_bf812 2 = .ok (.invokespecial 53, 3) := by decide +kernel
theorem dJ4_append_bf812_5 : decode cJ4_append_bf812 5 = .ok (.pop, 1) := by decide +kernel
theorem dJ4_append_bf812_6 : decode cJ4_append_bf812 6 = .ok (.aload_n 0, 1) := by decide +kernel
theorem dJ4_append_bf812_7 : decode cJ4_append_bf812 7 = .ok (.areturn, 1) := by decide +kernel
theorem dJ4_append_cf1ce_0 : decode cJ4_append_cf1ce 0 = .ok (.aload_n 0, 1) := by decide +kernel
theorem dJ4_append_cf1ce_1 : decode cJ4_append_cf1ce 1 = .ok (.aload_n 1, 1) := by decide +kernel
theorem dJ4_append_cf1ce_2 : decode cJ4_append_cf1ce 2 = .ok (.invokevirtual 23, 3) := by decide +kernel
theorem dJ4_append_cf1ce_5 : decode cJ4_append_cf1ce 5 = .ok (.areturn, 1) := by decide +kernel
theorem dJ4_charAt_5068e_0 : decode cJ4_charAt_5068e 0 = .ok (.aload_n 0, 1) := by decide +kernel
theorem dJ4_charAt_5068e_1 : decode cJ4_charAt_5068e 1 = .ok (.iload_n 1, 1) := by decide +kernel
theorem dJ4_charAt_5068e_2 : decode cJ4_charAt_5068e 2 = .ok (.invokespecial 329, 3) := by decide +kernel
theorem dJ4_charAt_5068e_5 : decode cJ4_charAt_5068e 5 = .ok (.ireturn, 1) := by decide +kernel
theorem dJ4_length_8abf5_0 : decode cJ4_length_8abf5 0 = .ok (.aload_n 0, 1) := by decide +kernel
theorem dJ4_length_8abf5_1 : decode cJ4_length_8abf5 1 = .ok (.invokespecial 343, 3) := by decide +kernel
theorem dJ4_length_8abf5_4 : decode cJ4_length_8abf5 4 = .ok (.ireturn, 1) := by decide +kernel
theorem dJ1_charAt_3b067_0 : decode cJ1_charAt_3b067 0 = .ok (.iload_n 1, 1) := by decide +kernel
theorem dJ1_charAt_3b067_1 : decode cJ1_charAt_3b067 1 = .ok (.aload_n 0, 1) := by decide +kernel
theorem dJ1_charAt_3b067_2 : decode cJ1_charAt_3b067 2 = .ok (.arraylength, 1) := by decide +kernel
theorem dJ1_charAt_3b067_3 : decode cJ1_charAt_3b067 3 = .ok (.invokestatic 9, 3) := by decide +kernel
theorem dJ1_charAt_3b067_6 : decode cJ1_charAt_3b067 6 = .ok (.aload_n 0, 1) := by decide +kernel
theorem dJ1_charAt_3b067_7 : decode cJ1_charAt_3b067 7 = .ok (.iload_n 1, 1) := by decide +kernel
theorem dJ1_charAt_3b067_8 : decode cJ1_charAt_3b067 8 = .ok (.baload, 1) := by decide +kernel
theorem dJ1_charAt_3b067_9 : decode cJ1_charAt_3b067 9 = .ok (.sipush 255, 3) := by decide +kernel
theorem dJ1_charAt_3b067_12 : decode cJ1_charAt_3b067 12 = .ok (.iand, 1) := by decide +kernel
theorem dJ1_charAt_3b067_13 : decode cJ1_charAt_3b067 13 = .ok (.i2c, 1) := by decide +kernel
theorem dJ1_charAt_3b067_14 : decode cJ1_charAt_3b067 14 = .ok (.ireturn, 1) := by decide +kernel
theorem dJ1_canEncode_fc78d_0 : decode cJ1_canEncode_fc78d 0 = .ok (.iload_n 0, 1) := by decide +kernel
theorem dJ1_canEncode_fc78d_1 : decode cJ1_canEncode_fc78d 1 = .ok (.sipush 255, 3) := by decide +kernel
theorem dJ1_canEncode_fc78d_4 : decode cJ1_canEncode_fc78d 4 = .ok (.if_icmp .gt 7, 3) := by decide +kernel
theorem dJ1_canEncode_fc78d_7 : decode cJ1_canEncode_fc78d 7 = .ok (.iconst 1, 1) := by decide +kernel
theorem dJ1_canEncode_fc78d_8 : decode cJ1_canEncode_fc78d 8 = .ok (.goto 4, 3) := by decide +kernel
theorem dJ1_canEncode_fc78d_11 : decode cJ1_canEncode_fc78d 11 = .ok (.iconst 0, 1) := by decide +kernel
theorem dJ1_canEncode_fc78d_12 : decode cJ1_canEncode_fc78d 12 = .ok (.ireturn, 1) := by decide +kernel
theorem dJ1_inflate_0e8fd_0 : decode cJ1_inflate_0e8fd 0 = .ok (.aload_n 0, 1) := by decide +kernel
theorem dJ1_inflate_0e8fd_1 : decode cJ1_inflate_0e8fd 1 = .ok (.iload_n 1, 1) := by decide +kernel
theorem dJ1_inflate_0e8fd_2 : decode cJ1_inflate_0e8fd 2 = .ok (.aload_n 2, 1) := by decide +kernel
theorem dJ1_inflate_0e8fd_3 : decode cJ1_inflate_0e8fd 3 = .ok (.iload_n 3, 1) := by decide +kernel
theorem dJ1_inflate_0e8fd_4 : decode cJ1_inflate_0e8fd 4 = .ok (.iload 4, 2) := by decide +kernel
theorem dJ1_inflate_0e8fd_6 : decode cJ1_inflate_0e8fd 6 = .ok (.invokestatic 240, 3) := by decide +kernel
theorem dJ1_inflate_0e8fd_9 : decode cJ1_inflate_0e8fd 9 = .ok (.return_, 1) := by decide +kernel
theorem dJ2_newBytesFor_77867_0 : decode cJ2_newBytesFor_77867 0 = .ok (.iload_n 0, 1) := by decide +kernel
theorem dJ2_newBytesFor_77867_1 : decode cJ2_newBytesFor_77867 1 = .ok (.invokestatic 11, 3) := by decide +kernel
theorem dJ2_newBytesFor_77867_4 : decode cJ2_newBytesFor_77867 4 = .ok (.newarray .byte, 2) := by decide +kernel
theorem dJ2_newBytesFor_77867_6 : decode cJ2_newBytesFor_77867 6 = .ok (.areturn, 1) := by decide +kernel
theorem dJ2_newBytesLength_0f7a4_0 : decode cJ2_newBytesLength_0f7a4 0 = .ok (.iload_n 0, 1) := by decide +kernel
theorem dJ2_newBytesLength_0f7a4_1 : decode cJ2_newBytesLength_0f7a4 1 = .ok (.ifCond .ge 11, 3) := by decide +kernel
theorem dJ2_newBytesLength_0f7a4_4 : decode cJ2_newBytesLength_0f7a4 4 = .ok (.new 17, 3) := by decide +kernel
theorem dJ2_newBytesLength_0f7a4_7 : decode cJ2_newBytesLength_0f7a4 7 = .ok (.dup, 1) := by decide +kernel
theorem dJ2_newBytesLength_0f7a4_8 : decode cJ2_newBytesLength_0f7a4 8 = .ok (.invokespecial 19, 3) := by decide +kernel
theorem dJ2_newBytesLength_0f7a4_11 : decode cJ2_newBytesLength_0f7a4 11 = .ok (.athrow, 1) := by decide +kernel
theorem dJ2_newBytesLength_0f7a4_12 : decode cJ2_newBytesLength_0f7a4 12 = .ok (.iload_n 0, 1) := by decide +kernel
theorem dJ2_newBytesLength_0f7a4_13 : decode cJ2_newBytesLength_0f7a4 13 = .ok (.ldc 20, 2) := by decide +kernel
theorem dJ2_newBytesLength_0f7a4_15 : decode cJ2_newBytesLength_0f7a4 15 = .ok (.if_icmp .lt 40, 3) := by decide +kernel
theorem dJ2_newBytesLength_0f7a4_18 : decode cJ2_newBytesLength_0f7a4 18 = .ok (.new 21, 3) := by decide +kernel
theorem dJ2_newBytesLength_0f7a4_21 : decode cJ2_newBytesLength_0f7a4 21 = .ok (.dup, 1) := by decide +kernel
theorem dJ2_newBytesLength_0f7a4_22 : decode cJ2_newBytesLength_0f7a4 22 = .ok (.new 23, 3) := by decide +kernel
theorem dJ2_newBytesLength_0f7a4_25 : decode cJ2_newBytesLength_0f7a4 25 = .ok (.dup, 1) := by decide +kernel
theorem dJ2_newBytesLength_0f7a4_26 : decode cJ2_newBytesLength_0f7a4 26 = .ok (.invokespecial 25, 3) := by decide +kernel
theorem dJ2_newBytesLength_0f7a4_29 : decode cJ2_newBytesLength_0f7a4 29 = .ok (.ldc 26, 2) := by decide +kernel
theorem dJ2_newBytesLength_0f7a4_31 : decode cJ2_newBytesLength_0f7a4 31 = .ok (.invokevirtual 28, 3) := by decide +kernel
theorem dJ2_newBytesLength_0f7a4_34 : decode cJ2_newBytesLength_0f7a4 34 = .ok (.iload_n 0, 1) := by decide +kernel
theorem dJ2_newBytesLength_0f7a4_35 : decode cJ2_newBytesLength_0f7a4 35 = .ok (.invokevirtual 32, 3) := by decide +kernel
theorem dJ2_newBytesLength_0f7a4_38 : decode cJ2_newBytesLength_0f7a4 38 = .ok (.ldc 35, 2) := by decide +kernel
theorem dJ2_newBytesLength_0f7a4_40 : decode cJ2_newBytesLength_0f7a4 40 = .ok (.invokevirtual 28, 3) := by decide +kernel
theorem dJ2_newBytesLength_0f7a4_43 : decode cJ2_newBytesLength_0f7a4 43 = .ok (.ldc 20, 2) := by decide +kernel
theorem dJ2_newBytesLength_0f7a4_45 : decode cJ2_newBytesLength_0f7a4 45 = .ok (.invokevirtual 32, 3) := by decide +kernel
theorem dJ2_newBytesLength_0f7a4_48 : decode cJ2_newBytesLength_0f7a4 48 = .ok (.invokevirtual 37, 3) := by decide +kernel
theorem dJ2_newBytesLength_0f7a4_51 : decode cJ2_newBytesLength_0f7a4 51 = .ok (.invokespecial 41, 3) := by decide +kernel
theorem dJ2_newBytesLength_0f7a4_54 : decode cJ2_newBytesLength_0f7a4 54 = .ok (.athrow, 1) := by decide +kernel
theorem dJ2_newBytesLength_0f7a4_55 : decode cJ2_newBytesLength_0f7a4 55 = .ok (.iload_n 0, 1) := by decide +kernel
theorem dJ2_newBytesLength_0f7a4_56 : decode cJ2_newBytesLength_0f7a4 56 = .ok (.iconst 1, 1) := by decide +kernel
theorem dJ2_newBytesLength_0f7a4_57 : decode cJ2_newBytesLength_0f7a4 57 = .ok (.ishl, 1) := by decide +kernel
theorem dJ2_newBytesLength_0f7a4_58 : decode cJ2_newBytesLength_0f7a4 58 = .ok (.ireturn, 1) := by decide +kernel
theorem dJ2_putChar_b72d1_0 : decode cJ2_putChar_b72d1 0 = .ok (.getstatic 44, 3) := by decide +kernel
theorem dJ2_putChar_b72d1_3 : decode cJ2_putChar_b72d1 3 = .ok (.ifCond .ne 25, 3) := by decide +kernel
theorem dJ2_putChar_b72d1_6 : decode cJ2_putChar_b72d1 6 = .ok (.iload_n 1, 1) := by decide +kernel
theorem dJ2_putChar_b72d1_7 : decode cJ2_putChar_b72d1 7 = .ok (.ifCond .lt 11, 3) := by decide +kernel
theorem dJ2_putChar_b72d1_10 : decode cJ2_putChar_b72d1 10 = .ok (.iload_n 1, 1) := by decide +kernel
theorem dJ2_putChar_b72d1_11 : decode cJ2_putChar_b72d1 11 = .ok (.aload_n 0, 1) := by decide +kernel
theorem dJ2_putChar_b72d1_12 : decode cJ2_putChar_b72d1 12 = .ok (.invokestatic 48, 3) := by decide +kernel
theorem dJ2_putChar_b72d1_15 : decode cJ2_putChar_b72d1 15 = .ok (.if_icmp .lt 13, 3) := by decide +kernel
theorem dJ2_putChar_b72d1_18 : decode cJ2_putChar_b72d1 18 = .ok (.new 52, 3) := by decide +kernel
theorem dJ2_putChar_b72d1_21 : decode cJ2_putChar_b72d1 21 = .ok (.dup, 1) := by decide +kernel
theorem dJ2_putChar_b72d1_22 : decode cJ2_putChar_b72d1 22 = .ok (.ldc 54, 2) := by decide +kernel
theorem dJ2_putChar_b72d1_24 : decode cJ2_putChar_b72d1 24 = .ok (.invokespecial 56, 3) := by decide +kernel
theorem dJ2_putChar_b72d1_27 : decode cJ2_putChar_b72d1 27 = .ok (.athrow, 1) := by decide +kernel
theorem dJ2_putChar_b72d1_28 : decode cJ2_putChar_b72d1 28 = .ok (.iload_n 1, 1) := by decide +kernel
theorem dJ2_putChar_b72d1_29 : decode cJ2_putChar_b72d1 29 = .ok (.iconst 1, 1) := by decide +kernel
theorem dJ2_putChar_b72d1_30 : decode cJ2_putChar_b72d1 30 = .ok (.ishl, 1) := by decide +kernel
theorem dJ2_putChar_b72d1_31 : decode cJ2_putChar_b72d1 31 = .ok (.istore_n 1, 1) := by decide +kernel
theorem dJ2_putChar_b72d1_32 : decode cJ2_putChar_b72d1 32 = .ok (.aload_n 0, 1) := by decide +kernel
theorem dJ2_putChar_b72d1_33 : decode cJ2_putChar_b72d1 33 = .ok (.iload_n 1, 1) := by decide +kernel
theorem dJ2_putChar_b72d1_34 : decode cJ2_putChar_b72d1 34 = .ok (.iinc 1 1, 3) := by decide +kernel
theorem dJ2_putChar_b72d1_37 : decode cJ2_putChar_b72d1 37 = .ok (.iload_n 2, 1) := by decide +kernel
theorem dJ2_putChar_b72d1_38 : decode cJ2_putChar_b72d1 38 = .ok (.getstatic 59, 3) := by decide +kernel
theorem dJ2_putChar_b72d1_41 : decode cJ2_putChar_b72d1 41 = .ok (.ishr, 1) := by decide +kernel
theorem dJ2_putChar_b72d1_42 : decode cJ2_putChar_b72d1 42 = .ok (.i2b, 1) := by decide +kernel
theorem dJ2_putChar_b72d1_43 : decode cJ2_putChar_b72d1 43 = .ok (.bastore, 1) := by decide +kernel
theorem dJ2_putChar_b72d1_44 : decode cJ2_putChar_b72d1 44 = .ok (.aload_n 0, 1) := by decide +kernel
theorem dJ2_putChar_b72d1_45 : decode cJ2_putChar_b72d1 45 = .ok (.iload_n 1, 1) := by decide +kernel
theorem dJ2_putChar_b72d1_46 : decode cJ2_putChar_b72d1 46 = .ok (.iload_n 2, 1) := by decide +kernel
theorem dJ2_putChar_b72d1_47 : decode cJ2_putChar_b72d1 47 = .ok (.getstatic 63, 3) := by decide +kernel
theorem dJ2_putChar_b72d1_50 : decode cJ2_putChar_b72d1 50 = .ok (.ishr, 1) := by decide +kernel
theorem dJ2_putChar_b72d1_51 : decode cJ2_putChar_b72d1 51 = .ok (.i2b, 1) := by decide +kernel
theorem dJ2_putChar_b72d1_52 : decode cJ2_putChar_b72d1 52 = .ok (.bastore, 1) := by decide +kernel
theorem dJ2_putChar_b72d1_53 : decode cJ2_putChar_b72d1 53 = .ok (.return_, 1) := by decide +kernel
theorem dJ2_getChar_3b067_0 : decode cJ2_getChar_3b067 0 = .ok (.getstatic 44, 3) := by decide +kernel
theorem dJ2_getChar_3b067_3 : decode cJ2_getChar_3b067 3 = .ok (.ifCond .ne 25, 3) := by decide +kernel
theorem dJ2_getChar_3b067_6 : decode cJ2_getChar_3b067 6 = .ok (.iload_n 1, 1) := by decide +kernel
theorem dJ2_getChar_3b067_7 : decode cJ2_getChar_3b067 7 = .ok (.ifCond .lt 11, 3) := by decide +kernel
theorem dJ2_getChar_3b067_10 : decode cJ2_getChar_3b067 10 = .ok (.iload_n 1, 1) := by decide +kernel
theorem dJ2_getChar_3b067_11 : decode cJ2_getChar_3b067 11 = .ok (.aload_n 0, 1) := by decide +kernel
theorem dJ2_getChar_3b067_12 : decode cJ2_getChar_3b067 12 = .ok (.invokestatic 48, 3) := by decide +kernel
theorem dJ2_getChar_3b067_15 : decode cJ2_getChar_3b067 15 = .ok (.if_icmp .lt 13, 3) := by decide +kernel
theorem dJ2_getChar_3b067_18 : decode cJ2_getChar_3b067 18 = .ok (.new 52, 3) := by decide +kernel
theorem dJ2_getChar_3b067_21 : decode cJ2_getChar_3b067 21 = .ok (.dup, 1) := by decide +kernel
theorem dJ2_getChar_3b067_22 : decode cJ2_getChar_3b067 22 = .ok (.ldc 54, 2) := by decide +kernel
theorem dJ2_getChar_3b067_24 : decode cJ2_getChar_3b067 24 = .ok (.invokespecial 56, 3) := by decide +kernel
theorem dJ2_getChar_3b067_27 : decode cJ2_getChar_3b067 27 = .ok (.athrow, 1) := by decide +kernel
theorem dJ2_getChar_3b067_28 : decode cJ2_getChar_3b067 28 = .ok (.iload_n 1, 1) := by decide +kernel
theorem dJ2_getChar_3b067_29 : decode cJ2_getChar_3b067 29 = .ok (.iconst 1, 1) := by decide +kernel
theorem dJ2_getChar_3b067_30 : decode cJ2_getChar_3b067 30 = .ok (.ishl, 1) := by decide +kernel
theorem dJ2_getChar_3b067_31 : decode cJ2_getChar_3b067 31 = .ok (.istore_n 1, 1) := by decide +kernel
theorem dJ2_getChar_3b067_32 : decode cJ2_getChar_3b067 32 = .ok (.aload_n 0, 1) := by decide +kernel
theorem dJ2_getChar_3b067_33 : decode cJ2_getChar_3b067 33 = .ok (.iload_n 1, 1) := by decide +kernel
theorem dJ2_getChar_3b067_34 : decode cJ2_getChar_3b067 34 = .ok (.iinc 1 1, 3) := by decide +kernel
theorem dJ2_getChar_3b067_37 : decode cJ2_getChar_3b067 37 = .ok (.baload, 1) := by decide +kernel
theorem dJ2_getChar_3b067_38 : decode cJ2_getChar_3b067 38 = .ok (.sipush 255, 3) := by decide +kernel
theorem dJ2_getChar_3b067_41 : decode cJ2_getChar_3b067 41 = .ok (.iand, 1) := by decide +kernel
theorem dJ2_getChar_3b067_42 : decode cJ2_getChar_3b067 42 = .ok (.getstatic 59, 3) := by decide +kernel
theorem dJ2_getChar_3b067_45 : decode cJ2_getChar_3b067 45 = .ok (.ishl, 1) := by decide +kernel
theorem dJ2_getChar_3b067_46 : decode cJ2_getChar_3b067 46 = .ok (.aload_n 0, 1) := by decide +kernel
theorem dJ2_getChar_3b067_47 : decode cJ2_getChar_3b067 47 = .ok (.iload_n 1, 1) := by decide +kernel
theorem dJ2_getChar_3b067_48 : decode cJ2_getChar_3b067 48 = .ok (.baload, 1) := by decide +kernel
theorem dJ2_getChar_3b067_49 : decode cJ2_getChar_3b067 49 = .ok (.sipush 255, 3) := by decide +kernel
theorem dJ2_getChar_3b067_52 : decode cJ2_getChar_3b067 52 = .ok (.iand, 1) := by decide +kernel
theorem dJ2_getChar_3b067_53 : decode cJ2_getChar_3b067 53 = .ok (.getstatic 63, 3) := by decide +kernel
theorem dJ2_getChar_3b067_56 : decode cJ2_getChar_3b067 56 = .ok (.ishl, 1) := by decide +kernel
theorem dJ2_getChar_3b067_57 : decode cJ2_getChar_3b067 57 = .ok (.ior, 1) := by decide +kernel
theorem dJ2_getChar_3b067_58 : decode cJ2_getChar_3b067 58 = .ok (.i2c, 1) := by decide +kernel
theorem dJ2_getChar_3b067_59 : decode cJ2_getChar_3b067 59 = .ok (.ireturn, 1) := by decide +kernel
theorem dJ2_length_9d52b_0 : decode cJ2_length_9d52b 0 = .ok (.aload_n 0, 1) := by decide +kernel
theorem dJ2_length_9d52b_1 : decode cJ2_length_9d52b 1 = .ok (.arraylength, 1) := by decide +kernel
theorem dJ2_length_9d52b_2 : decode cJ2_length_9d52b 2 = .ok (.iconst 1, 1) := by decide +kernel
theorem dJ2_length_9d52b_3 : decode cJ2_length_9d52b 3 = .ok (.ishr, 1) := by decide +kernel
theorem dJ2_length_9d52b_4 : decode cJ2_length_9d52b 4 = .ok (.ireturn, 1) := by decide +kernel
theorem dJ2_putCharSB_b72d1_0 : decode cJ2_putCharSB_b72d1 0 = .ok (.iload_n 1, 1) := by decide +kernel
theorem dJ2_putCharSB_b72d1_1 : decode cJ2_putCharSB_b72d1 1 = .ok (.aload_n 0, 1) := by decide +kernel
theorem dJ2_putCharSB_b72d1_2 : decode cJ2_putCharSB_b72d1 2 = .ok (.invokestatic 67, 3) := by decide +kernel
theorem dJ2_putCharSB_b72d1_5 : decode cJ2_putCharSB_b72d1 5 = .ok (.aload_n 0, 1) := by decide +kernel
theorem dJ2_putCharSB_b72d1_6 : decode cJ2_putCharSB_b72d1 6 = .ok (.iload_n 1, 1) := by decide +kernel
theorem dJ2_putCharSB_b72d1_7 : decode cJ2_putCharSB_b72d1 7 = .ok (.iload_n 2, 1) := by decide +kernel
theorem dJ2_putCharSB_b72d1_8 : decode cJ2_putCharSB_b72d1 8 = .ok (.invokestatic 111, 3) := by decide +kernel
theorem dJ2_putCharSB_b72d1_11 : decode cJ2_putCharSB_b72d1 11 = .ok (.return_, 1) := by decide +kernel
theorem dJ2_getChars_46870_0 : decode cJ2_getChars_46870 0 = .ok (.iload_n 1, 1) := by decide +kernel
theorem dJ2_getChars_46870_1 : decode cJ2_getChars_46870 1 = .ok (.iload_n 2, 1) := by decide +kernel
theorem dJ2_getChars_46870_2 : decode cJ2_getChars_46870 2 = .ok (.aload_n 3, 1) := by decide +kernel
theorem dJ2_getChars_46870_3 : decode cJ2_getChars_46870 3 = .ok (.invokestatic 96, 3) := by decide +kernel
theorem dJ2_getChars_46870_6 : decode cJ2_getChars_46870 6 = .ok (.iload_n 0, 1) := by decide +kernel
theorem dJ2_getChars_46870_7 : decode cJ2_getChars_46870 7 = .ok (.iload_n 2, 1) := by decide +kernel
theorem dJ2_getChars_46870_8 : decode cJ2_getChars_46870 8 = .ok (.aload_n 3, 1) := by decide +kernel
theorem dJ2_getChars_46870_9 : decode cJ2_getChars_46870 9 = .ok (.invokestatic 393, 3) := by decide +kernel
theorem dJ2_getChars_46870_12 : decode cJ2_getChars_46870 12 = .ok (.istore 4, 2) := by decide +kernel
theorem dJ2_getChars_46870_14 : decode cJ2_getChars_46870 14 = .ok (.getstatic 44, 3) := by decide +kernel
theorem dJ2_getChars_46870_17 : decode cJ2_getChars_46870 17 = .ok (.ifCond .ne 17, 3) := by decide +kernel
theorem dJ2_getChars_46870_20 : decode cJ2_getChars_46870 20 = .ok (.iload_n 1, 1) := by decide +kernel
theorem dJ2_getChars_46870_21 : decode cJ2_getChars_46870 21 = .ok (.iload 4, 2) := by decide +kernel
theorem dJ2_getChars_46870_23 : decode cJ2_getChars_46870 23 = .ok (.if_icmp .eq 11, 3) := by decide +kernel
theorem dJ2_getChars_46870_26 : decode cJ2_getChars_46870 26 = .ok (.new 52, 3) := by decide +kernel
theorem dJ2_getChars_46870_29 : decode cJ2_getChars_46870 29 = .ok (.dup, 1) := by decide +kernel
theorem dJ2_getChars_46870_30 : decode cJ2_getChars_46870 30 = .ok (.invokespecial 66, 3) := by decide +kernel
theorem dJ2_getChars_46870_33 : decode cJ2_getChars_46870 33 = .ok (.athrow, 1) := by decide +kernel
theorem dJ2_getChars_46870_34 : decode cJ2_getChars_46870 34 = .ok (.iload 4, 2) := by decide +kernel
theorem dJ2_getChars_46870_36 : decode cJ2_getChars_46870 36 = .ok (.ireturn, 1) := by decide +kernel
theorem dJ2_putCharsAt_cd4e5_0 : decode cJ2_putCharsAt_cd4e5 0 = .ok (.iload_n 1, 1) := by decide +kernel
theorem dJ2_putCharsAt_cd4e5_1 : decode cJ2_putCharsAt_cd4e5 1 = .ok (.iconst 4, 1) := by decide +kernel
theorem dJ2_putCharsAt_cd4e5_2 : decode cJ2_putCharsAt_cd4e5 2 = .ok (.iadd, 1) := by decide +kernel
theorem dJ2_putCharsAt_cd4e5_3 : decode cJ2_putCharsAt_cd4e5 3 = .ok (.istore 6, 2) := by decide +kernel
theorem dJ2_putCharsAt_cd4e5_5 : decode cJ2_putCharsAt_cd4e5 5 = .ok (.iload_n 1, 1) := by decide +kernel
theorem dJ2_putCharsAt_cd4e5_6 : decode cJ2_putCharsAt_cd4e5 6 = .ok (.iload 6, 2) := by decide +kernel
theorem dJ2_putCharsAt_cd4e5_8 : decode cJ2_putCharsAt_cd4e5 8 = .ok (.aload_n 0, 1) := by decide +kernel
theorem dJ2_putCharsAt_cd4e5_9 : decode cJ2_putCharsAt_cd4e5 9 = .ok (.invokestatic 96, 3) := by decide +kernel
theorem dJ2_putCharsAt_cd4e5_12 : decode cJ2_putCharsAt_cd4e5 12 = .ok (.aload_n 0, 1) := by decide +kernel
theorem dJ2_putCharsAt_cd4e5_13 : decode cJ2_putCharsAt_cd4e5 13 = .ok (.iload_n 1, 1) := by decide +kernel
theorem dJ2_putCharsAt_cd4e5_14 : decode cJ2_putCharsAt_cd4e5 14 = .ok (.iinc 1 1, 3) := by decide +kernel
theorem dJ2_putCharsAt_cd4e5_17 : decode cJ2_putCharsAt_cd4e5 17 = .ok (.iload_n 2, 1) := by decide +kernel
theorem dJ2_putCharsAt_cd4e5_18 : decode cJ2_putCharsAt_cd4e5 18 = .ok (.invokestatic 111, 3) := by decide +kernel
theorem dJ2_putCharsAt_cd4e5_21 : decode cJ2_putCharsAt_cd4e5 21 = .ok (.aload_n 0, 1) := by decide +kernel
theorem dJ2_putCharsAt_cd4e5_22 : decode cJ2_putCharsAt_cd4e5 22 = .ok (.iload_n 1, 1) := by decide +kernel
theorem dJ2_putCharsAt_cd4e5_23 : decode cJ2_putCharsAt_cd4e5 23 = .ok (.iinc 1 1, 3) := by decide +kernel
theorem dJ2_putCharsAt_cd4e5_26 : decode cJ2_putCharsAt_cd4e5 26 = .ok (.iload_n 3, 1) := by decide +kernel
theorem dJ2_putCharsAt_cd4e5_27 : decode cJ2_putCharsAt_cd4e5 27 = .ok (.invokestatic 111, 3) := by decide +kernel
theorem dJ2_putCharsAt_cd4e5_30 : decode cJ2_putCharsAt_cd4e5 30 = .ok (.aload_n 0, 1) := by decide +kernel
theorem dJ2_putCharsAt_cd4e5_31 : decode cJ2_putCharsAt_cd4e5 31 = .ok (.iload_n 1, 1) := by decide +kernel
theorem dJ2_putCharsAt_cd4e5_32 : decode cJ2_putCharsAt_cd4e5 32 = .ok (.iinc 1 1, 3) := by decide +kernel
theorem dJ2_putCharsAt_cd4e5_35 : decode cJ2_putCharsAt_cd4e5 35 = .ok (.iload 4, 2) := by decide +kernel
theorem dJ2_putCharsAt_cd4e5_37 : decode cJ2_putCharsAt_cd4e5 37 = .ok (.invokestatic 111, 3) := by decide +kernel
theorem dJ2_putCharsAt_cd4e5_40 : decode cJ2_putCharsAt_cd4e5 40 = .ok (.aload_n 0, 1) := by decide +kernel
theorem dJ2_putCharsAt_cd4e5_41 : decode cJ2_putCharsAt_cd4e5 41 = .ok (.iload_n 1, 1) := by decide +kernel
theorem dJ2_putCharsAt_cd4e5_42 : decode cJ2_putCharsAt_cd4e5 42 = .ok (.iinc 1 1, 3) := by decide +kernel
theorem dJ2_putCharsAt_cd4e5_45 : decode cJ2_putCharsAt_cd4e5 45 = .ok (.iload 5, 2) := by decide +kernel
theorem dJ2_putCharsAt_cd4e5_47 : decode cJ2_putCharsAt_cd4e5 47 = .ok (.invokestatic 111, 3) := by decide +kernel
theorem dJ2_putCharsAt_cd4e5_50 : decode cJ2_putCharsAt_cd4e5 50 = .ok (.getstatic 44, 3) := by decide +kernel
theorem dJ2_putCharsAt_cd4e5_53 : decode cJ2_putCharsAt_cd4e5 53 = .ok (.ifCond .ne 17, 3) := by decide +kernel
theorem dJ2_putCharsAt_cd4e5_56 : decode cJ2_putCharsAt_cd4e5 56 = .ok (.iload_n 1, 1) := by decide +kernel
theorem dJ2_putCharsAt_cd4e5_57 : decode cJ2_putCharsAt_cd4e5 57 = .ok (.iload 6, 2) := by decide +kernel
theorem dJ2_putCharsAt_cd4e5_59 : decode cJ2_putCharsAt_cd4e5 59 = .ok (.if_icmp .eq 11, 3) := by decide +kernel
theorem dJ2_putCharsAt_cd4e5_62 : decode cJ2_putCharsAt_cd4e5 62 = .ok (.new 52, 3) := by decide +kernel
theorem dJ2_putCharsAt_cd4e5_65 : decode cJ2_putCharsAt_cd4e5 65 = .ok (.dup, 1) := by decide +kernel
theorem dJ2_putCharsAt_cd4e5_66 : decode cJ2_putCharsAt_cd4e5 66 = .ok (.invokespecial 66, 3) := by decide +kernel
theorem dJ2_putCharsAt_cd4e5_69 : decode cJ2_putCharsAt_cd4e5 69 = .ok (.athrow, 1) := by decide +kernel
theorem dJ2_putCharsAt_cd4e5_70 : decode cJ2_putCharsAt_cd4e5 70 = .ok (.iload 6, 2) := by decide +kernel
theorem dJ2_putCharsAt_cd4e5_72 : decode cJ2_putCharsAt_cd4e5 72 = .ok (.ireturn, 1) := by decide +kernel
theorem dJ2_charAt_3b067_0 : decode cJ2_charAt_3b067 0 = .ok (.iload_n 1, 1) := by decide +kernel
theorem dJ2_charAt_3b067_1 : decode cJ2_charAt_3b067 1 = .ok (.aload_n 0, 1) := by decide +kernel
theorem dJ2_charAt_3b067_2 : decode cJ2_charAt_3b067 2 = .ok (.invokestatic 67, 3) := by decide +kernel
theorem dJ2_charAt_3b067_5 : decode cJ2_charAt_3b067 5 = .ok (.aload_n 0, 1) := by decide +kernel
theorem dJ2_charAt_3b067_6 : decode cJ2_charAt_3b067 6 = .ok (.iload_n 1, 1) := by decide +kernel
theorem dJ2_charAt_3b067_7 : decode cJ2_charAt_3b067 7 = .ok (.invokestatic 71, 3) := by decide +kernel
theorem dJ2_charAt_3b067_10 : decode cJ2_charAt_3b067 10 = .ok (.ireturn, 1) := by decide +kernel
theorem dJ2_inflate_0e8fd_0 : decode cJ2_inflate_0e8fd 0 = .ok (.iload_n 3, 1) := by decide +kernel
theorem dJ2_inflate_0e8fd_1 : decode cJ2_inflate_0e8fd 1 = .ok (.iload 4, 2) := by decide +kernel
theorem dJ2_inflate_0e8fd_3 : decode cJ2_inflate_0e8fd 3 = .ok (.aload_n 2, 1) := by decide +kernel
theorem dJ2_inflate_0e8fd_4 : decode cJ2_inflate_0e8fd 4 = .ok (.invokestatic 173, 3) := by decide +kernel
theorem dJ2_inflate_0e8fd_7 : decode cJ2_inflate_0e8fd 7 = .ok (.iconst 0, 1) := by decide +kernel
theorem dJ2_inflate_0e8fd_8 : decode cJ2_inflate_0e8fd 8 = .ok (.istore 5, 2) := by decide +kernel
theorem dJ2_inflate_0e8fd_10 : decode cJ2_inflate_0e8fd 10 = .ok (.iload 5, 2) := by decide +kernel
theorem dJ2_inflate_0e8fd_12 : decode cJ2_inflate_0e8fd 12 = .ok (.iload 4, 2) := by decide +kernel
theorem dJ2_inflate_0e8fd_14 : decode cJ2_inflate_0e8fd 14 = .ok (.if_icmp .ge 27, 3) := by decide +kernel
theorem dJ2_inflate_0e8fd_17 : decode cJ2_inflate_0e8fd 17 = .ok (.aload_n 2, 1) := by decide +kernel
theorem dJ2_inflate_0e8fd_18 : decode cJ2_inflate_0e8fd 18 = .ok (.iload_n 3, 1) := by decide +kernel
theorem dJ2_inflate_0e8fd_19 : decode cJ2_inflate_0e8fd 19 = .ok (.iinc 3 1, 3) := by decide +kernel
theorem dJ2_inflate_0e8fd_22 : decode cJ2_inflate_0e8fd 22 = .ok (.aload_n 0, 1) := by decide +kernel
theorem dJ2_inflate_0e8fd_23 : decode cJ2_inflate_0e8fd 23 = .ok (.iload_n 1, 1) := by decide +kernel
theorem dJ2_inflate_0e8fd_24 : decode cJ2_inflate_0e8fd 24 = .ok (.iinc 1 1, 3) := by decide +kernel
theorem dJ2_inflate_0e8fd_27 : decode cJ2_inflate_0e8fd 27 = .ok (.baload, 1) := by decide +kernel
theorem dJ2_inflate_0e8fd_28 : decode cJ2_inflate_0e8fd 28 = .ok (.sipush 255, 3) := by decide +kernel
theorem dJ2_inflate_0e8fd_31 : decode cJ2_inflate_0e8fd 31 = .ok (.iand, 1) := by decide +kernel
theorem dJ2_inflate_0e8fd_32 : decode cJ2_inflate_0e8fd 32 = .ok (.invokestatic 111, 3) := by decide +kernel
theorem dJ2_inflate_0e8fd_35 : decode cJ2_inflate_0e8fd 35 = .ok (.iinc 5 1, 3) := by decide +kernel
theorem dJ2_inflate_0e8fd_38 : decode cJ2_inflate_0e8fd 38 = .ok (.goto (-28), 3) := by decide +kernel
theorem dJ2_inflate_0e8fd_41 : decode cJ2_inflate_0e8fd 41 = .ok (.return_, 1) := by decide +kernel
theorem dJ2_getChars_ba4f3_0 : decode cJ2_getChars_ba4f3 0 = .ok (.iload_n 1, 1) := by decide +kernel
theorem dJ2_getChars_ba4f3_1 : decode cJ2_getChars_ba4f3 1 = .ok (.istore 5, 2) := by decide +kernel
theorem dJ2_getChars_ba4f3_3 : decode cJ2_getChars_ba4f3 3 = .ok (.iload_n 0, 1) := by decide +kernel
theorem dJ2_getChars_ba4f3_4 : decode cJ2_getChars_ba4f3 4 = .ok (.ifCond .ge 7, 3) := by decide +kernel
theorem dJ2_getChars_ba4f3_7 : decode cJ2_getChars_ba4f3 7 = .ok (.iconst 1, 1) := by decide +kernel
theorem dJ2_getChars_ba4f3_8 : decode cJ2_getChars_ba4f3 8 = .ok (.goto 4, 3) := by decide +kernel
theorem dJ2_getChars_ba4f3_11 : decode cJ2_getChars_ba4f3 11 = .ok (.iconst 0, 1) := by decide +kernel
theorem dJ2_getChars_ba4f3_12 : decode cJ2_getChars_ba4f3 12 = .ok (.istore 6, 2) := by decide +kernel
theorem dJ2_getChars_ba4f3_14 : decode cJ2_getChars_ba4f3 14 = .ok (.iload 6, 2) := by decide +kernel
theorem dJ2_getChars_ba4f3_16 : decode cJ2_getChars_ba4f3 16 = .ok (.ifCond .ne 6, 3) := by decide +kernel
theorem dJ2_getChars_ba4f3_19 : decode cJ2_getChars_ba4f3 19 = .ok (.iload_n 0, 1) := by decide +kernel
theorem dJ2_getChars_ba4f3_20 : decode cJ2_getChars_ba4f3 20 = .ok (.ineg, 1) := by decide +kernel
theorem dJ2_getChars_ba4f3_21 : decode cJ2_getChars_ba4f3 21 = .ok (.istore_n 0, 1) := by decide +kernel
theorem dJ2_getChars_ba4f3_22 : decode cJ2_getChars_ba4f3 22 = .ok (.iload_n 0, 1) := by decide +kernel
theorem dJ2_getChars_ba4f3_23 : decode cJ2_getChars_ba4f3 23 = .ok (.bipush (-100), 2) := by decide +kernel
theorem dJ2_getChars_ba4f3_25 : decode cJ2_getChars_ba4f3 25 = .ok (.if_icmp .gt 51, 3) := by decide +kernel
theorem dJ2_getChars_ba4f3_28 : decode cJ2_getChars_ba4f3 28 = .ok (.iload_n 0, 1) := by decide +kernel
theorem dJ2_getChars_ba4f3_29 : decode cJ2_getChars_ba4f3 29 = .ok (.bipush 100, 2) := by decide +kernel
theorem dJ2_getChars_ba4f3_31 : decode cJ2_getChars_ba4f3 31 = .ok (.idiv, 1) := by decide +kernel
theorem dJ2_getChars_ba4f3_32 : decode cJ2_getChars_ba4f3 32 = .ok (.istore_n 3, 1) := by decide +kernel
theorem dJ2_getChars_ba4f3_33 : decode cJ2_getChars_ba4f3 33 = .ok (.iload_n 3, 1) := by decide +kernel
theorem dJ2_getChars_ba4f3_34 : decode cJ2_getChars_ba4f3 34 = .ok (.bipush 100, 2) := by decide +kernel
theorem dJ2_getChars_ba4f3_36 : decode cJ2_getChars_ba4f3 36 = .ok (.imul, 1) := by decide +kernel
theorem dJ2_getChars_ba4f3_37 : decode cJ2_getChars_ba4f3 37 = .ok (.iload_n 0, 1) := by decide +kernel
theorem dJ2_getChars_ba4f3_38 : decode cJ2_getChars_ba4f3 38 = .ok (.isub, 1) := by decide +kernel
theorem dJ2_getChars_ba4f3_39 : decode cJ2_getChars_ba4f3 39 = .ok (.istore 4, 2) := by decide +kernel
theorem dJ2_getChars_ba4f3_41 : decode cJ2_getChars_ba4f3 41 = .ok (.iload_n 3, 1) := by decide +kernel
theorem dJ2_getChars_ba4f3_42 : decode cJ2_getChars_ba4f3 42 = .ok (.istore_n 0, 1) := by decide +kernel
theorem dJ2_getChars_ba4f3_43 : decode cJ2_getChars_ba4f3 43 = .ok (.aload_n 2, 1) := by decide +kernel
theorem dJ2_getChars_ba4f3_44 : decode cJ2_getChars_ba4f3 44 = .ok (.iinc 5 (-1), 3) := by decide +kernel
theorem dJ2_getChars_ba4f3_47 : decode cJ2_getChars_ba4f3 47 = .ok (.iload 5, 2) := by decide +kernel
theorem dJ2_getChars_ba4f3_49 : decode cJ2_getChars_ba4f3 49 = .ok (.getstatic 403, 3) := by decide +kernel
theorem dJ2_getChars_ba4f3_52 : decode cJ2_getChars_ba4f3 52 = .ok (.iload 4, 2) := by decide +kernel
theorem dJ2_getChars_ba4f3_54 : decode cJ2_getChars_ba4f3 54 = .ok (.baload, 1) := by decide +kernel
theorem dJ2_getChars_ba4f3_55 : decode cJ2_getChars_ba4f3 55 = .ok (.invokestatic 111, 3) := by decide +kernel
theorem dJ2_getChars_ba4f3_58 : decode cJ2_getChars_ba4f3 58 = .ok (.aload_n 2, 1) := by decide +kernel
theorem dJ2_getChars_ba4f3_59 : decode cJ2_getChars_ba4f3 59 = .ok (.iinc 5 (-1), 3) := by decide +kernel
theorem dJ2_getChars_ba4f3_62 : decode cJ2_getChars_ba4f3 62 = .ok (.iload 5, 2) := by decide +kernel
theorem dJ2_getChars_ba4f3_64 : decode cJ2_getChars_ba4f3 64 = .ok (.getstatic 407, 3) := by decide +kernel
theorem dJ2_getChars_ba4f3_67 : decode cJ2_getChars_ba4f3 67 = .ok (.iload 4, 2) := by decide +kernel
theorem dJ2_getChars_ba4f3_69 : decode cJ2_getChars_ba4f3 69 = .ok (.baload, 1) := by decide +kernel
theorem dJ2_getChars_ba4f3_70 : decode cJ2_getChars_ba4f3 70 = .ok (.invokestatic 111, 3) := by decide +kernel
theorem dJ2_getChars_ba4f3_73 : decode cJ2_getChars_ba4f3 73 = .ok (.goto (-51), 3) := by decide +kernel
theorem dJ2_getChars_ba4f3_76 : decode cJ2_getChars_ba4f3 76 = .ok (.aload_n 2, 1) := by decide +kernel
theorem dJ2_getChars_ba4f3_77 : decode cJ2_getChars_ba4f3 77 = .ok (.iinc 5 (-1), 3) := by decide +kernel
theorem dJ2_getChars_ba4f3_80 : decode cJ2_getChars_ba4f3 80 = .ok (.iload 5, 2) := by decide +kernel
theorem dJ2_getChars_ba4f3_82 : decode cJ2_getChars_ba4f3 82 = .ok (.getstatic 403, 3) := by decide +kernel
theorem dJ2_getChars_ba4f3_85 : decode cJ2_getChars_ba4f3 85 = .ok (.iload_n 0, 1) := by decide +kernel
theorem dJ2_getChars_ba4f3_86 : decode cJ2_getChars_ba4f3 86 = .ok (.ineg, 1) := by decide +kernel
theorem dJ2_getChars_ba4f3_87 : decode cJ2_getChars_ba4f3 87 = .ok (.baload, 1) := by decide +kernel
theorem dJ2_getChars_ba4f3_88 : decode cJ2_getChars_ba4f3 88 = .ok (.invokestatic 111, 3) := by decide +kernel
theorem dJ2_getChars_ba4f3_91 : decode cJ2_getChars_ba4f3 91 = .ok (.iload_n 0, 1) := by decide +kernel
theorem dJ2_getChars_ba4f3_92 : decode cJ2_getChars_ba4f3 92 = .ok (.bipush (-9), 2) := by decide +kernel
theorem dJ2_getChars_ba4f3_94 : decode cJ2_getChars_ba4f3 94 = .ok (.if_icmp .ge 18, 3) := by decide +kernel
theorem dJ2_getChars_ba4f3_97 : decode cJ2_getChars_ba4f3 97 = .ok (.aload_n 2, 1) := by decide +kernel
theorem dJ2_getChars_ba4f3_98 : decode cJ2_getChars_ba4f3 98 = .ok (.iinc 5 (-1), 3) := by decide +kernel
theorem dJ2_getChars_ba4f3_101 : decode cJ2_getChars_ba4f3 101 = .ok (.iload 5, 2) := by decide +kernel
theorem dJ2_getChars_ba4f3_103 : decode cJ2_getChars_ba4f3 103 = .ok (.getstatic 407, 3) := by decide +kernel
theorem dJ2_getChars_ba4f3_106 : decode cJ2_getChars_ba4f3 106 = .ok (.iload_n 0, 1) := by decide +kernel
theorem dJ2_getChars_ba4f3_107 : decode cJ2_getChars_ba4f3 107 = .ok (.ineg, 1) := by decide +kernel
theorem dJ2_getChars_ba4f3_108 : decode cJ2_getChars_ba4f3 108 = .ok (.baload, 1) := by decide +kernel
theorem dJ2_getChars_ba4f3_109 : decode cJ2_getChars_ba4f3 109 = .ok (.invokestatic 111, 3) := by decide +kernel
theorem dJ2_getChars_ba4f3_112 : decode cJ2_getChars_ba4f3 112 = .ok (.iload 6, 2) := by decide +kernel
theorem dJ2_getChars_ba4f3_114 : decode cJ2_getChars_ba4f3 114 = .ok (.ifCond .eq 14, 3) := by decide +kernel
theorem dJ2_getChars_ba4f3_117 : decode cJ2_getChars_ba4f3 117 = .ok (.aload_n 2, 1) := by decide +kernel
theorem dJ2_getChars_ba4f3_118 : decode cJ2_getChars_ba4f3 118 = .ok (.iinc 5 (-1), 3) := by decide +kernel
theorem dJ2_getChars_ba4f3_121 : decode cJ2_getChars_ba4f3 121 = .ok (.iload 5, 2) := by decide +kernel
theorem dJ2_getChars_ba4f3_123 : decode cJ2_getChars_ba4f3 123 = .ok (.bipush 45, 2) := by decide +kernel
theorem dJ2_getChars_ba4f3_125 : decode cJ2_getChars_ba4f3 125 = .ok (.invokestatic 111, 3) := by decide +kernel
theorem dJ2_getChars_ba4f3_128 : decode cJ2_getChars_ba4f3 128 = .ok (.iload 5, 2) := by decide +kernel
theorem dJ2_getChars_ba4f3_130 : decode cJ2_getChars_ba4f3 130 = .ok (.ireturn, 1) := by decide +kernel
theorem dJ2_checkIndex_2214a_0 : decode cJ2_checkIndex_2214a 0 = .ok (.iload_n 0, 1) := by decide +kernel
theorem dJ2_checkIndex_2214a_1 : decode cJ2_checkIndex_2214a 1 = .ok (.aload_n 1, 1) := by decide +kernel
theorem dJ2_checkIndex_2214a_2 : decode cJ2_checkIndex_2214a 2 = .ok (.invokestatic 48, 3) := by decide +kernel
theorem dJ2_checkIndex_2214a_5 : decode cJ2_checkIndex_2214a 5 = .ok (.invokestatic 414, 3) := by decide +kernel
theorem dJ2_checkIndex_2214a_8 : decode cJ2_checkIndex_2214a 8 = .ok (.return_, 1) := by decide +kernel
theorem dJ2_checkBoundsBeginEnd_d044e_0 : decode cJ2_checkBoundsBeginEnd_d044e 0 = .ok (.iload_n 0, 1) := by decide +kernel
theorem dJ2_checkBoundsBeginEnd_d044e_1 : decode cJ2_checkBoundsBeginEnd_d044e 1 = .ok (.iload_n 1, 1) := by decide +kernel
theorem dJ2_checkBoundsBeginEnd_d044e_2 : decode cJ2_checkBoundsBeginEnd_d044e 2 = .ok (.aload_n 2, 1) := by decide +kernel
theorem dJ2_checkBoundsBeginEnd_d044e_3 : decode cJ2_checkBoundsBeginEnd_d044e 3 = .ok (.invokestatic 48, 3) := by decide +kernel
theorem dJ2_checkBoundsBeginEnd_d044e_6 : decode cJ2_checkBoundsBeginEnd_d044e 6 = .ok (.invokestatic 241, 3) := by decide +kernel
theorem dJ2_checkBoundsBeginEnd_d044e_9 : decode cJ2_checkBoundsBeginEnd_d044e 9 = .ok (.return_, 1) := by decide +kernel
theorem dJ2_checkBoundsOffCount_d044e_0 : decode cJ2_checkBoundsOffCount_d044e 0 = .ok (.iload_n 0, 1) := by decide +kernel
theorem dJ2_checkBoundsOffCount_d044e_1 : decode cJ2_checkBoundsOffCount_d044e 1 = .ok (.iload_n 1, 1) := by decide +kernel
theorem dJ2_checkBoundsOffCount_d044e_2 : decode cJ2_checkBoundsOffCount_d044e 2 = .ok (.aload_n 2, 1) := by decide +kernel
theorem dJ2_checkBoundsOffCount_d044e_3 : decode cJ2_checkBoundsOffCount_d044e 3 = .ok (.invokestatic 48, 3) := by decide +kernel
theorem dJ2_checkBoundsOffCount_d044e_6 : decode cJ2_checkBoundsOffCount_d044e 6 = .ok (.invokestatic 419, 3) := by decide +kernel
theorem dJ2_checkBoundsOffCount_d044e_9 : decode cJ2_checkBoundsOffCount_d044e 9 = .ok (.pop, 1) := by decide +kernel
theorem dJ2_checkBoundsOffCount_d044e_10 : decode cJ2_checkBoundsOffCount_d044e 10 = .ok (.return_, 1) := by decide +kernel
theorem dJ7_copyOf_9075b_0 : decode cJ7_copyOf_9075b 0 = .ok (.iload_n 1, 1) := by decide +kernel
theorem dJ7_copyOf_9075b_1 : decode cJ7_copyOf_9075b 1 = .ok (.aload_n 0, 1) := by decide +kernel
theorem dJ7_copyOf_9075b_2 : decode cJ7_copyOf_9075b 2 = .ok (.arraylength, 1) := by decide +kernel
theorem dJ7_copyOf_9075b_3 : decode cJ7_copyOf_9075b 3 = .ok (.if_icmp .ne 11, 3) := by decide +kernel
theorem dJ7_copyOf_9075b_6 : decode cJ7_copyOf_9075b 6 = .ok (.aload_n 0, 1) := by decide +kernel
theorem dJ7_copyOf_9075b_7 : decode cJ7_copyOf_9075b 7 = .ok (.invokevirtual 310, 3) := by decide +kernel
theorem dJ7_copyOf_9075b_10 : decode cJ7_copyOf_9075b 10 = .ok (.checkcast 311, 3) := by decide +kernel
theorem dJ7_copyOf_9075b_13 : decode cJ7_copyOf_9075b 13 = .ok (.areturn, 1) := by decide +kernel
theorem dJ7_copyOf_9075b_14 : decode cJ7_copyOf_9075b 14 = .ok (.iload_n 1, 1) := by decide +kernel
theorem dJ7_copyOf_9075b_15 : decode cJ7_copyOf_9075b 15 = .ok (.newarray .byte, 2) := by decide +kernel
theorem dJ7_copyOf_9075b_17 : decode cJ7_copyOf_9075b 17 = .ok (.astore_n 2, 1) := by decide +kernel
theorem dJ7_copyOf_9075b_18 : decode cJ7_copyOf_9075b 18 = .ok (.aload_n 0, 1) := by decide +kernel
theorem dJ7_copyOf_9075b_19 : decode cJ7_copyOf_9075b 19 = .ok (.iconst 0, 1) := by decide +kernel
theorem dJ7_copyOf_9075b_20 : decode cJ7_copyOf_9075b 20 = .ok (.aload_n 2, 1) := by decide +kernel
theorem dJ7_copyOf_9075b_21 : decode cJ7_copyOf_9075b 21 = .ok (.iconst 0, 1) := by decide +kernel
theorem dJ7_copyOf_9075b_22 : decode cJ7_copyOf_9075b 22 = .ok (.aload_n 0, 1) := by decide +kernel
theorem dJ7_copyOf_9075b_23 : decode cJ7_copyOf_9075b 23 = .ok (.arraylength, 1) := by decide +kernel
theorem dJ7_copyOf_9075b_24 : decode cJ7_copyOf_9075b 24 = .ok (.iload_n 1, 1) := by decide +kernel
theorem dJ7_copyOf_9075b_25 : decode cJ7_copyOf_9075b 25 = .ok (.invokestatic 304, 3) := by decide +kernel
theorem dJ7_copyOf_9075b_28 : decode cJ7_copyOf_9075b 28 = .ok (.invokestatic 150, 3) := by decide +kernel
theorem dJ7_copyOf_9075b_31 : decode cJ7_copyOf_9075b 31 = .ok (.aload_n 2, 1) := by decide +kernel
theorem dJ7_copyOf_9075b_32 : decode cJ7_copyOf_9075b 32 = .ok (.areturn, 1) := by decide +kernel
theorem dJ8_newLength_cabcc_0 : decode cJ8_newLength_cabcc 0 = .ok (.iload_n 0, 1) := by decide +kernel
theorem dJ8_newLength_cabcc_1 : decode cJ8_newLength_cabcc 1 = .ok (.iload_n 1, 1) := by decide +kernel
theorem dJ8_newLength_cabcc_2 : decode cJ8_newLength_cabcc 2 = .ok (.iload_n 2, 1) := by decide +kernel
theorem dJ8_newLength_cabcc_3 : decode cJ8_newLength_cabcc 3 = .ok (.invokestatic 194, 3) := by decide +kernel
theorem dJ8_newLength_cabcc_6 : decode cJ8_newLength_cabcc 6 = .ok (.iadd, 1) := by decide +kernel
theorem dJ8_newLength_cabcc_7 : decode cJ8_newLength_cabcc 7 = .ok (.istore_n 3, 1) := by decide +kernel
theorem dJ8_newLength_cabcc_8 : decode cJ8_newLength_cabcc 8 = .ok (.iconst 0, 1) := by decide +kernel
theorem dJ8_newLength_cabcc_9 : decode cJ8_newLength_cabcc 9 = .ok (.iload_n 3, 1) := by decide +kernel
theorem dJ8_newLength_cabcc_10 : decode cJ8_newLength_cabcc 10 = .ok (.if_icmp .ge 11, 3) := by decide +kernel
theorem dJ8_newLength_cabcc_13 : decode cJ8_newLength_cabcc 13 = .ok (.iload_n 3, 1) := by decide +kernel
theorem dJ8_newLength_cabcc_14 : decode cJ8_newLength_cabcc 14 = .ok (.ldc 200, 2) := by decide +kernel
theorem dJ8_newLength_cabcc_16 : decode cJ8_newLength_cabcc 16 = .ok (.if_icmp .gt 5, 3) := by decide +kernel
theorem dJ8_newLength_cabcc_19 : decode cJ8_newLength_cabcc 19 = .ok (.iload_n 3, 1) := by decide +kernel
theorem dJ8_newLength_cabcc_20 : decode cJ8_newLength_cabcc 20 = .ok (.ireturn, 1) := by decide +kernel
theorem dJ8_newLength_cabcc_21 : decode cJ8_newLength_cabcc 21 = .ok (.iload_n 0, 1) := by decide +kernel
theorem dJ8_newLength_cabcc_22 : decode cJ8_newLength_cabcc 22 = .ok (.iload_n 1, 1) := by decide +kernel
theorem dJ8_newLength_cabcc_23 : decode cJ8_newLength_cabcc 23 = .ok (.invokestatic 201, 3) := by decide +kernel
theorem dJ8_newLength_cabcc_26 : decode cJ8_newLength_cabcc 26 = .ok (.ireturn, 1) := by decide +kernel
theorem dJ8_hugeLength_7cf53_0 : decode cJ8_hugeLength_7cf53 0 = .ok (.iload_n 0, 1) := by decide +kernel
theorem dJ8_hugeLength_7cf53_1 : decode cJ8_hugeLength_7cf53 1 = .ok (.iload_n 1, 1) := by decide +kernel
theorem dJ8_hugeLength_7cf53_2 : decode cJ8_hugeLength_7cf53 2 = .ok (.iadd, 1) := by decide +kernel
theorem dJ8_hugeLength_7cf53_3 : decode cJ8_hugeLength_7cf53 3 = .ok (.istore_n 2, 1) := by decide +kernel
theorem dJ8_hugeLength_7cf53_4 : decode cJ8_hugeLength_7cf53 4 = .ok (.iload_n 2, 1) := by decide +kernel
theorem dJ8_hugeLength_7cf53_5 : decode cJ8_hugeLength_7cf53 5 = .ok (.ifCond .ge 44, 3) := by decide +kernel
theorem dJ8_hugeLength_7cf53_8 : decode cJ8_hugeLength_7cf53 8 = .ok (.new 204, 3) := by decide +kernel
theorem dJ8_hugeLength_7cf53_11 : decode cJ8_hugeLength_7cf53 11 = .ok (.dup, 1) := by decide +kernel
theorem dJ8_hugeLength_7cf53_12 : decode cJ8_hugeLength_7cf53 12 = .ok (.new 89, 3) := by decide +kernel
theorem dJ8_hugeLength_7cf53_15 : decode cJ8_hugeLength_7cf53 15 = .ok (.dup, 1) := by decide +kernel
theorem dJ8_hugeLength_7cf53_16 : decode cJ8_hugeLength_7cf53 16 = .ok (.invokespecial 91, 3) := by decide +kernel
theorem dJ8_hugeLength_7cf53_19 : decode cJ8_hugeLength_7cf53 19 = .ok (.ldc 206, 2) := by decide +kernel
theorem dJ8_hugeLength_7cf53_21 : decode cJ8_hugeLength_7cf53 21 = .ok (.invokevirtual 94, 3) := by decide +kernel
theorem dJ8_hugeLength_7cf53_24 : decode cJ8_hugeLength_7cf53 24 = .ok (.iload_n 0, 1) := by decide +kernel
theorem dJ8_hugeLength_7cf53_25 : decode cJ8_hugeLength_7cf53 25 = .ok (.invokevirtual 98, 3) := by decide +kernel
theorem dJ8_hugeLength_7cf53_28 : decode cJ8_hugeLength_7cf53 28 = .ok (.ldc 208, 2) := by decide +kernel
theorem dJ8_hugeLength_7cf53_30 : decode cJ8_hugeLength_7cf53 30 = .ok (.invokevirtual 94, 3) := by decide +kernel
theorem dJ8_hugeLength_7cf53_33 : decode cJ8_hugeLength_7cf53 33 = .ok (.iload_n 1, 1) := by decide +kernel
theorem dJ8_hugeLength_7cf53_34 : decode cJ8_hugeLength_7cf53 34 = .ok (.invokevirtual 98, 3) := by decide +kernel
theorem dJ8_hugeLength_7cf53_37 : decode cJ8_hugeLength_7cf53 37 = .ok (.ldc 210, 2) := by decide +kernel
theorem dJ8_hugeLength_7cf53_39 : decode cJ8_hugeLength_7cf53 39 = .ok (.invokevirtual 94, 3) := by decide +kernel
theorem dJ8_hugeLength_7cf53_42 : decode cJ8_hugeLength_7cf53 42 = .ok (.invokevirtual 101, 3) := by decide +kernel
theorem dJ8_hugeLength_7cf53_45 : decode cJ8_hugeLength_7cf53 45 = .ok (.invokespecial 212, 3) := by decide +kernel
theorem dJ8_hugeLength_7cf53_48 : decode cJ8_hugeLength_7cf53 48 = .ok (.athrow, 1) := by decide +kernel
theorem dJ8_hugeLength_7cf53_49 : decode cJ8_hugeLength_7cf53 49 = .ok (.iload_n 2, 1) := by decide +kernel
theorem dJ8_hugeLength_7cf53_50 : decode cJ8_hugeLength_7cf53 50 = .ok (.ldc 200, 2) := by decide +kernel
theorem dJ8_hugeLength_7cf53_52 : decode cJ8_hugeLength_7cf53 52 = .ok (.if_icmp .gt 6, 3) := by decide +kernel
theorem dJ8_hugeLength_7cf53_55 : decode cJ8_hugeLength_7cf53 55 = .ok (.ldc 200, 2) := by decide +kernel
theorem dJ8_hugeLength_7cf53_57 : decode cJ8_hugeLength_7cf53 57 = .ok (.ireturn, 1) := by decide +kernel
theorem dJ8_hugeLength_7cf53_58 : decode cJ8_hugeLength_7cf53 58 = .ok (.iload_n 2, 1) := by decide +kernel
theorem dJ8_hugeLength_7cf53_59 : decode cJ8_hugeLength_7cf53 59 = .ok (.ireturn, 1) := by decide +kernel
theorem dJ3_checkIndex_8e157_0 : decode cJ3_checkIndex_8e157 0 = .ok (.iload_n 0, 1) := by decide +kernel
theorem dJ3_checkIndex_8e157_1 : decode cJ3_checkIndex_8e157 1 = .ok (.ifCond .lt 8, 3) := by decide +kernel
theorem dJ3_checkIndex_8e157_4 : decode cJ3_checkIndex_8e157 4 = .ok (.iload_n 0, 1) := by decide +kernel
theorem dJ3_checkIndex_8e157_5 : decode cJ3_checkIndex_8e157 5 = .ok (.iload_n 1, 1) := by decide +kernel
theorem dJ3_checkIndex_8e157_6 : decode cJ3_checkIndex_8e157 6 = .ok (.if_icmp .lt 10, 3) := by decide +kernel
theorem dJ3_checkIndex_8e157_9 : decode cJ3_checkIndex_8e157 9 = .ok (.aload_n 2, 1) := by decide +kernel
theorem dJ3_checkIndex_8e157_10 : decode cJ3_checkIndex_8e157 10 = .ok (.iload_n 0, 1) := by decide +kernel
theorem dJ3_checkIndex_8e157_11 : decode cJ3_checkIndex_8e157 11 = .ok (.iload_n 1, 1) := by decide +kernel
theorem dJ3_checkIndex_8e157_12 : decode cJ3_checkIndex_8e157 12 = .ok (.invokestatic 95, 3) := by decide +kernel
theorem dJ3_checkIndex_8e157_15 : decode cJ3_checkIndex_8e157 15 = .ok (.athrow, 1) := by decide +kernel
theorem dJ3_checkIndex_8e157_16 : decode cJ3_checkIndex_8e157 16 = .ok (.iload_n 0, 1) := by decide +kernel
theorem dJ3_checkIndex_8e157_17 : decode cJ3_checkIndex_8e157 17 = .ok (.ireturn, 1) := by decide +kernel
theorem dJ3_checkFromToIndex_8c36e_0 : decode cJ3_checkFromToIndex_8c36e 0 = .ok (.iload_n 0, 1) := by decide +kernel
theorem dJ3_checkFromToIndex_8c36e_1 : decode cJ3_checkFromToIndex_8c36e 1 = .ok (.ifCond .lt 13, 3) := by decide +kernel
theorem dJ3_checkFromToIndex_8c36e_4 : decode cJ3_checkFromToIndex_8c36e 4 = .ok (.iload_n 0, 1) := by decide +kernel
theorem dJ3_checkFromToIndex_8c36e_5 : decode cJ3_checkFromToIndex_8c36e 5 = .ok (.iload_n 1, 1) := by decide +kernel
theorem dJ3_checkFromToIndex_8c36e_6 : decode cJ3_checkFromToIndex_8c36e 6 = .ok (.if_icmp .gt 8, 3) := by decide +kernel
theorem dJ3_checkFromToIndex_8c36e_9 : decode cJ3_checkFromToIndex_8c36e 9 = .ok (.iload_n 1, 1) := by decide +kernel
theorem dJ3_checkFromToIndex_8c36e_10 : decode cJ3_checkFromToIndex_8c36e 10 = .ok (.iload_n 2, 1) := by decide +kernel
theorem dJ3_checkFromToIndex_8c36e_11 : decode cJ3_checkFromToIndex_8c36e 11 = .ok (.if_icmp .le 11, 3) := by decide +kernel
theorem dJ3_checkFromToIndex_8c36e_14 : decode cJ3_checkFromToIndex_8c36e 14 = .ok (.aload_n 3, 1) := by decide +kernel
theorem dJ3_checkFromToIndex_8c36e_15 : decode cJ3_checkFromToIndex_8c36e 15 = .ok (.iload_n 0, 1) := by decide +kernel
theorem dJ3_checkFromToIndex_8c36e_16 : decode cJ3_checkFromToIndex_8c36e 16 = .ok (.iload_n 1, 1) := by decide +kernel
theorem dJ3_checkFromToIndex_8c36e_17 : decode cJ3_checkFromToIndex_8c36e 17 = .ok (.iload_n 2, 1) := by decide +kernel
theorem dJ3_checkFromToIndex_8c36e_18 : decode cJ3_checkFromToIndex_8c36e 18 = .ok (.invokestatic 99, 3) := by decide +kernel
theorem dJ3_checkFromToIndex_8c36e_21 : decode cJ3_checkFromToIndex_8c36e 21 = .ok (.athrow, 1) := by decide +kernel
theorem dJ3_checkFromToIndex_8c36e_22 : decode cJ3_checkFromToIndex_8c36e 22 = .ok (.iload_n 0, 1) := by decide +kernel
theorem dJ3_checkFromToIndex_8c36e_23 : decode cJ3_checkFromToIndex_8c36e 23 = .ok (.ireturn, 1) := by decide +kernel
theorem dJ3_checkFromIndexSize_8c36e_0 : decode cJ3_checkFromIndexSize_8c36e 0 = .ok (.iload_n 2, 1) := by decide +kernel
theorem dJ3_checkFromIndexSize_8c36e_1 : decode cJ3_checkFromIndexSize_8c36e 1 = .ok (.iload_n 0, 1) := by decide +kernel
theorem dJ3_checkFromIndexSize_8c36e_2 : decode cJ3_checkFromIndexSize_8c36e 2 = .ok (.ior, 1) := by decide +kernel
theorem dJ3_checkFromIndexSize_8c36e_3 : decode cJ3_checkFromIndexSize_8c36e 3 = .ok (.iload_n 1, 1) := by decide +kernel
theorem dJ3_checkFromIndexSize_8c36e_4 : decode cJ3_checkFromIndexSize_8c36e 4 = .ok (.ior, 1) := by decide +kernel
theorem dJ3_checkFromIndexSize_8c36e_5 : decode cJ3_checkFromIndexSize_8c36e 5 = .ok (.ifCond .lt 10, 3) := by decide +kernel
theorem dJ3_checkFromIndexSize_8c36e_8 : decode cJ3_checkFromIndexSize_8c36e 8 = .ok (.iload_n 1, 1) := by decide +kernel
theorem dJ3_checkFromIndexSize_8c36e_9 : decode cJ3_checkFromIndexSize_8c36e 9 = .ok (.iload_n 2, 1) := by decide +kernel
theorem dJ3_checkFromIndexSize_8c36e_10 : decode cJ3_checkFromIndexSize_8c36e 10 = .ok (.iload_n 0, 1) := by decide +kernel
theorem dJ3_checkFromIndexSize_8c36e_11 : decode cJ3_checkFromIndexSize_8c36e 11 = .ok (.isub, 1) := by decide +kernel
theorem dJ3_checkFromIndexSize_8c36e_12 : decode cJ3_checkFromIndexSize_8c36e 12 = .ok (.if_icmp .le 11, 3) := by decide +kernel
theorem dJ3_checkFromIndexSize_8c36e_15 : decode cJ3_checkFromIndexSize_8c36e 15 = .ok (.aload_n 3, 1) := by decide +kernel
theorem dJ3_checkFromIndexSize_8c36e_16 : decode cJ3_checkFromIndexSize_8c36e 16 = .ok (.iload_n 0, 1) := by decide +kernel
theorem dJ3_checkFromIndexSize_8c36e_17 : decode cJ3_checkFromIndexSize_8c36e 17 = .ok (.iload_n 1, 1) := by decide +kernel
theorem dJ3_checkFromIndexSize_8c36e_18 : decode cJ3_checkFromIndexSize_8c36e 18 = .ok (.iload_n 2, 1) := by decide +kernel
theorem dJ3_checkFromIndexSize_8c36e_19 : decode cJ3_checkFromIndexSize_8c36e 19 = .ok (.invokestatic 103, 3) := by decide +kernel
theorem dJ3_checkFromIndexSize_8c36e_22 : decode cJ3_checkFromIndexSize_8c36e 22 = .ok (.athrow, 1) := by decide +kernel
theorem dJ3_checkFromIndexSize_8c36e_23 : decode cJ3_checkFromIndexSize_8c36e 23 = .ok (.iload_n 0, 1) := by decide +kernel
theorem dJ3_checkFromIndexSize_8c36e_24 : decode cJ3_checkFromIndexSize_8c36e 24 = .ok (.ireturn, 1) := by decide +kernel
