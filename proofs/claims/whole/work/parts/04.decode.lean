theorem dX0_init_0 : decode cX0_init 0 = .ok (.aload_n 0, 1) := by decide +kernel
theorem dX0_init_1 : decode cX0_init 1 = .ok (.invokespecial 3, 3) := by decide +kernel
theorem dX0_init_4 : decode cX0_init 4 = .ok (.aload_n 0, 1) := by decide +kernel
theorem dX0_init_5 : decode cX0_init 5 = .ok (.bipush 8, 2) := by decide +kernel
theorem dX0_init_7 : decode cX0_init 7 = .ok (.newarray .int, 2) := by decide +kernel
theorem dX0_init_9 : decode cX0_init 9 = .ok (.putfield 9, 3) := by decide +kernel
theorem dX0_init_12 : decode cX0_init 12 = .ok (.aload_n 0, 1) := by decide +kernel
theorem dX0_init_13 : decode cX0_init 13 = .ok (.bipush 8, 2) := by decide +kernel
theorem dX0_init_15 : decode cX0_init 15 = .ok (.newarray .int, 2) := by decide +kernel
theorem dX0_init_17 : decode cX0_init 17 = .ok (.putfield 15, 3) := by decide +kernel
theorem dX0_init_20 : decode cX0_init 20 = .ok (.aload_n 0, 1) := by decide +kernel
theorem dX0_init_21 : decode cX0_init 21 = .ok (.bipush 8, 2) := by decide +kernel
theorem dX0_init_23 : decode cX0_init 23 = .ok (.newarray .int, 2) := by decide +kernel
theorem dX0_init_25 : decode cX0_init 25 = .ok (.putfield 18, 3) := by decide +kernel
theorem dX0_init_28 : decode cX0_init 28 = .ok (.aload_n 0, 1) := by decide +kernel
theorem dX0_init_29 : decode cX0_init 29 = .ok (.bipush 8, 2) := by decide +kernel
theorem dX0_init_31 : decode cX0_init 31 = .ok (.newarray .int, 2) := by decide +kernel
theorem dX0_init_33 : decode cX0_init 33 = .ok (.putfield 21, 3) := by decide +kernel
theorem dX0_init_36 : decode cX0_init 36 = .ok (.aload_n 0, 1) := by decide +kernel
theorem dX0_init_37 : decode cX0_init 37 = .ok (.bipush 8, 2) := by decide +kernel
theorem dX0_init_39 : decode cX0_init 39 = .ok (.newarray .int, 2) := by decide +kernel
theorem dX0_init_41 : decode cX0_init 41 = .ok (.putfield 24, 3) := by decide +kernel
theorem dX0_init_44 : decode cX0_init 44 = .ok (.aload_n 0, 1) := by decide +kernel
theorem dX0_init_45 : decode cX0_init 45 = .ok (.bipush 8, 2) := by decide +kernel
theorem dX0_init_47 : decode cX0_init 47 = .ok (.newarray .int, 2) := by decide +kernel
theorem dX0_init_49 : decode cX0_init 49 = .ok (.putfield 27, 3) := by decide +kernel
theorem dX0_init_52 : decode cX0_init 52 = .ok (.aload_n 0, 1) := by decide +kernel
theorem dX0_init_53 : decode cX0_init 53 = .ok (.bipush 8, 2) := by decide +kernel
theorem dX0_init_55 : decode cX0_init 55 = .ok (.newarray .int, 2) := by decide +kernel
theorem dX0_init_57 : decode cX0_init 57 = .ok (.putfield 30, 3) := by decide +kernel
theorem dX0_init_60 : decode cX0_init 60 = .ok (.return_, 1) := by decide +kernel
theorem dX0_copyFrom_0 : decode cX0_copyFrom 0 = .ok (.aload_n 0, 1) := by decide +kernel
theorem dX0_copyFrom_1 : decode cX0_copyFrom 1 = .ok (.aload_n 1, 1) := by decide +kernel
theorem dX0_copyFrom_2 : decode cX0_copyFrom 2 = .ok (.getfield 33, 3) := by decide +kernel
theorem dX0_copyFrom_5 : decode cX0_copyFrom 5 = .ok (.putfield 33, 3) := by decide +kernel
theorem dX0_copyFrom_8 : decode cX0_copyFrom 8 = .ok (.aload_n 1, 1) := by decide +kernel
theorem dX0_copyFrom_9 : decode cX0_copyFrom 9 = .ok (.getfield 9, 3) := by decide +kernel
theorem dX0_copyFrom_12 : decode cX0_copyFrom 12 = .ok (.iconst 0, 1) := by decide +kernel
theorem dX0_copyFrom_13 : decode cX0_copyFrom 13 = .ok (.aload_n 0, 1) := by decide +kernel
theorem dX0_copyFrom_14 : decode cX0_copyFrom 14 = .ok (.getfield 9, 3) := by decide +kernel
theorem dX0_copyFrom_17 : decode cX0_copyFrom 17 = .ok (.iconst 0, 1) := by decide +kernel
theorem dX0_copyFrom_18 : decode cX0_copyFrom 18 = .ok (.aload_n 0, 1) := by decide +kernel
theorem dX0_copyFrom_19 : decode cX0_copyFrom 19 = .ok (.getfield 33, 3) := by decide +kernel
theorem dX0_copyFrom_22 : decode cX0_copyFrom 22 = .ok (.invokestatic 37, 3) := by decide +kernel
theorem dX0_copyFrom_25 : decode cX0_copyFrom 25 = .ok (.aload_n 1, 1) := by decide +kernel
theorem dX0_copyFrom_26 : decode cX0_copyFrom 26 = .ok (.getfield 15, 3) := by decide +kernel
theorem dX0_copyFrom_29 : decode cX0_copyFrom 29 = .ok (.iconst 0, 1) := by decide +kernel
theorem dX0_copyFrom_30 : decode cX0_copyFrom 30 = .ok (.aload_n 0, 1) := by decide +kernel
theorem dX0_copyFrom_31 : decode cX0_copyFrom 31 = .ok (.getfield 15, 3) := by decide +kernel
theorem dX0_copyFrom_34 : decode cX0_copyFrom 34 = .ok (.iconst 0, 1) := by decide +kernel
theorem dX0_copyFrom_35 : decode cX0_copyFrom 35 = .ok (.aload_n 0, 1) := by decide +kernel
theorem dX0_copyFrom_36 : decode cX0_copyFrom 36 = .ok (.getfield 33, 3) := by decide +kernel
theorem dX0_copyFrom_39 : decode cX0_copyFrom 39 = .ok (.invokestatic 37, 3) := by decide +kernel
theorem dX0_copyFrom_42 : decode cX0_copyFrom 42 = .ok (.aload_n 1, 1) := by decide +kernel
theorem dX0_copyFrom_43 : decode cX0_copyFrom 43 = .ok (.getfield 18, 3) := by decide +kernel
theorem dX0_copyFrom_46 : decode cX0_copyFrom 46 = .ok (.iconst 0, 1) := by decide +kernel
theorem dX0_copyFrom_47 : decode cX0_copyFrom 47 = .ok (.aload_n 0, 1) := by decide +kernel
theorem dX0_copyFrom_48 : decode cX0_copyFrom 48 = .ok (.getfield 18, 3) := by decide +kernel
theorem dX0_copyFrom_51 : decode cX0_copyFrom 51 = .ok (.iconst 0, 1) := by decide +kernel
theorem dX0_copyFrom_52 : decode cX0_copyFrom 52 = .ok (.aload_n 0, 1) := by decide +kernel
theorem dX0_copyFrom_53 : decode cX0_copyFrom 53 = .ok (.getfield 33, 3) := by decide +kernel
theorem dX0_copyFrom_56 : decode cX0_copyFrom 56 = .ok (.invokestatic 37, 3) := by decide +kernel
theorem dX0_copyFrom_59 : decode cX0_copyFrom 59 = .ok (.aload_n 1, 1) := by decide +kernel
theorem dX0_copyFrom_60 : decode cX0_copyFrom 60 = .ok (.getfield 21, 3) := by decide +kernel
theorem dX0_copyFrom_63 : decode cX0_copyFrom 63 = .ok (.iconst 0, 1) := by decide +kernel
theorem dX0_copyFrom_64 : decode cX0_copyFrom 64 = .ok (.aload_n 0, 1) := by decide +kernel
theorem dX0_copyFrom_65 : decode cX0_copyFrom 65 = .ok (.getfield 21, 3) := by decide +kernel
theorem dX0_copyFrom_68 : decode cX0_copyFrom 68 = .ok (.iconst 0, 1) := by decide +kernel
theorem dX0_copyFrom_69 : decode cX0_copyFrom 69 = .ok (.aload_n 0, 1) := by decide +kernel
theorem dX0_copyFrom_70 : decode cX0_copyFrom 70 = .ok (.getfield 33, 3) := by decide +kernel
theorem dX0_copyFrom_73 : decode cX0_copyFrom 73 = .ok (.invokestatic 37, 3) := by decide +kernel
theorem dX0_copyFrom_76 : decode cX0_copyFrom 76 = .ok (.aload_n 1, 1) := by decide +kernel
theorem dX0_copyFrom_77 : decode cX0_copyFrom 77 = .ok (.getfield 24, 3) := by decide +kernel
theorem dX0_copyFrom_80 : decode cX0_copyFrom 80 = .ok (.iconst 0, 1) := by decide +kernel
theorem dX0_copyFrom_81 : decode cX0_copyFrom 81 = .ok (.aload_n 0, 1) := by decide +kernel
theorem dX0_copyFrom_82 : decode cX0_copyFrom 82 = .ok (.getfield 24, 3) := by decide +kernel
theorem dX0_copyFrom_85 : decode cX0_copyFrom 85 = .ok (.iconst 0, 1) := by decide +kernel
theorem dX0_copyFrom_86 : decode cX0_copyFrom 86 = .ok (.aload_n 0, 1) := by decide +kernel
theorem dX0_copyFrom_87 : decode cX0_copyFrom 87 = .ok (.getfield 33, 3) := by decide +kernel
theorem dX0_copyFrom_90 : decode cX0_copyFrom 90 = .ok (.invokestatic 37, 3) := by decide +kernel
theorem dX0_copyFrom_93 : decode cX0_copyFrom 93 = .ok (.aload_n 1, 1) := by decide +kernel
theorem dX0_copyFrom_94 : decode cX0_copyFrom 94 = .ok (.getfield 27, 3) := by decide +kernel
theorem dX0_copyFrom_97 : decode cX0_copyFrom 97 = .ok (.iconst 0, 1) := by decide +kernel
theorem dX0_copyFrom_98 : decode cX0_copyFrom 98 = .ok (.aload_n 0, 1) := by decide +kernel
theorem dX0_copyFrom_99 : decode cX0_copyFrom 99 = .ok (.getfield 27, 3) := by decide +kernel
theorem dX0_copyFrom_102 : decode cX0_copyFrom 102 = .ok (.iconst 0, 1) := by decide +kernel
theorem dX0_copyFrom_103 : decode cX0_copyFrom 103 = .ok (.aload_n 0, 1) := by decide +kernel
theorem dX0_copyFrom_104 : decode cX0_copyFrom 104 = .ok (.getfield 33, 3) := by decide +kernel
theorem dX0_copyFrom_107 : decode cX0_copyFrom 107 = .ok (.invokestatic 37, 3) := by decide +kernel
theorem dX0_copyFrom_110 : decode cX0_copyFrom 110 = .ok (.aload_n 1, 1) := by decide +kernel
theorem dX0_copyFrom_111 : decode cX0_copyFrom 111 = .ok (.getfield 30, 3) := by decide +kernel
theorem dX0_copyFrom_114 : decode cX0_copyFrom 114 = .ok (.iconst 0, 1) := by decide +kernel
theorem dX0_copyFrom_115 : decode cX0_copyFrom 115 = .ok (.aload_n 0, 1) := by decide +kernel
theorem dX0_copyFrom_116 : decode cX0_copyFrom 116 = .ok (.getfield 30, 3) := by decide +kernel
theorem dX0_copyFrom_119 : decode cX0_copyFrom 119 = .ok (.iconst 0, 1) := by decide +kernel
theorem dX0_copyFrom_120 : decode cX0_copyFrom 120 = .ok (.aload_n 0, 1) := by decide +kernel
theorem dX0_copyFrom_121 : decode cX0_copyFrom 121 = .ok (.getfield 33, 3) := by decide +kernel
theorem dX0_copyFrom_124 : decode cX0_copyFrom 124 = .ok (.invokestatic 37, 3) := by decide +kernel
theorem dX0_copyFrom_127 : decode cX0_copyFrom 127 = .ok (.return_, 1) := by decide +kernel
theorem dX0_has_0 : decode cX0_has 0 = .ok (.iload_n 1, 1) := by decide +kernel
theorem dX0_has_1 : decode cX0_has 1 = .ok (.ifCond .lt 15, 3) := by decide +kernel
theorem dX0_has_4 : decode cX0_has 4 = .ok (.iload_n 1, 1) := by decide +kernel
theorem dX0_has_5 : decode cX0_has 5 = .ok (.aload_n 0, 1) := by decide +kernel
theorem dX0_has_6 : decode cX0_has 6 = .ok (.getfield 33, 3) := by decide +kernel
theorem dX0_has_9 : decode cX0_has 9 = .ok (.if_icmp .ge 7, 3) := by decide +kernel
theorem dX0_has_12 : decode cX0_has 12 = .ok (.iconst 1, 1) := by decide +kernel
theorem dX0_has_13 : decode cX0_has 13 = .ok (.goto 4, 3) := by decide +kernel
theorem dX0_has_16 : decode cX0_has 16 = .ok (.iconst 0, 1) := by decide +kernel
theorem dX0_has_17 : decode cX0_has 17 = .ok (.ireturn, 1) := by decide +kernel
theorem dX0_hasRoom_0 : decode cX0_hasRoom 0 = .ok (.aload_n 0, 1) := by decide +kernel
theorem dX0_hasRoom_1 : decode cX0_hasRoom 1 = .ok (.getfield 33, 3) := by decide +kernel
theorem dX0_hasRoom_4 : decode cX0_hasRoom 4 = .ok (.bipush 8, 2) := by decide +kernel
theorem dX0_hasRoom_6 : decode cX0_hasRoom 6 = .ok (.if_icmp .ge 7, 3) := by decide +kernel
theorem dX0_hasRoom_9 : decode cX0_hasRoom 9 = .ok (.iconst 1, 1) := by decide +kernel
theorem dX0_hasRoom_10 : decode cX0_hasRoom 10 = .ok (.goto 4, 3) := by decide +kernel
theorem dX0_hasRoom_13 : decode cX0_hasRoom 13 = .ok (.iconst 0, 1) := by decide +kernel
theorem dX0_hasRoom_14 : decode cX0_hasRoom 14 = .ok (.ireturn, 1) := by decide +kernel
theorem dX0_add_0 : decode cX0_add 0 = .ok (.aload_n 0, 1) := by decide +kernel
theorem dX0_add_1 : decode cX0_add 1 = .ok (.getfield 33, 3) := by decide +kernel
theorem dX0_add_4 : decode cX0_add 4 = .ok (.istore 5, 2) := by decide +kernel
theorem dX0_add_6 : decode cX0_add 6 = .ok (.aload_n 0, 1) := by decide +kernel
theorem dX0_add_7 : decode cX0_add 7 = .ok (.getfield 9, 3) := by decide +kernel
theorem dX0_add_10 : decode cX0_add 10 = .ok (.iload 5, 2) := by decide +kernel
theorem dX0_add_12 : decode cX0_add 12 = .ok (.iload_n 1, 1) := by decide +kernel
theorem dX0_add_13 : decode cX0_add 13 = .ok (.iastore, 1) := by decide +kernel
theorem dX0_add_14 : decode cX0_add 14 = .ok (.aload_n 0, 1) := by decide +kernel
theorem dX0_add_15 : decode cX0_add 15 = .ok (.getfield 15, 3) := by decide +kernel
theorem dX0_add_18 : decode cX0_add 18 = .ok (.iload 5, 2) := by decide +kernel
theorem dX0_add_20 : decode cX0_add 20 = .ok (.iload_n 2, 1) := by decide +kernel
theorem dX0_add_21 : decode cX0_add 21 = .ok (.iastore, 1) := by decide +kernel
theorem dX0_add_22 : decode cX0_add 22 = .ok (.aload_n 0, 1) := by decide +kernel
theorem dX0_add_23 : decode cX0_add 23 = .ok (.getfield 18, 3) := by decide +kernel
theorem dX0_add_26 : decode cX0_add 26 = .ok (.iload 5, 2) := by decide +kernel
theorem dX0_add_28 : decode cX0_add 28 = .ok (.iload_n 3, 1) := by decide +kernel
theorem dX0_add_29 : decode cX0_add 29 = .ok (.iastore, 1) := by decide +kernel
theorem dX0_add_30 : decode cX0_add 30 = .ok (.aload_n 0, 1) := by decide +kernel
theorem dX0_add_31 : decode cX0_add 31 = .ok (.getfield 21, 3) := by decide +kernel
theorem dX0_add_34 : decode cX0_add 34 = .ok (.iload 5, 2) := by decide +kernel
theorem dX0_add_36 : decode cX0_add 36 = .ok (.iload 4, 2) := by decide +kernel
theorem dX0_add_38 : decode cX0_add 38 = .ok (.iastore, 1) := by decide +kernel
theorem dX0_add_39 : decode cX0_add 39 = .ok (.aload_n 0, 1) := by decide +kernel
theorem dX0_add_40 : decode cX0_add 40 = .ok (.getfield 24, 3) := by decide +kernel
theorem dX0_add_43 : decode cX0_add 43 = .ok (.iload 5, 2) := by decide +kernel
theorem dX0_add_45 : decode cX0_add 45 = .ok (.bipush 20, 2) := by decide +kernel
theorem dX0_add_47 : decode cX0_add 47 = .ok (.iastore, 1) := by decide +kernel
theorem dX0_add_48 : decode cX0_add 48 = .ok (.aload_n 0, 1) := by decide +kernel
theorem dX0_add_49 : decode cX0_add 49 = .ok (.getfield 27, 3) := by decide +kernel
theorem dX0_add_52 : decode cX0_add 52 = .ok (.iload 5, 2) := by decide +kernel
theorem dX0_add_54 : decode cX0_add 54 = .ok (.iconst 0, 1) := by decide +kernel
theorem dX0_add_55 : decode cX0_add 55 = .ok (.iastore, 1) := by decide +kernel
theorem dX0_add_56 : decode cX0_add 56 = .ok (.aload_n 0, 1) := by decide +kernel
theorem dX0_add_57 : decode cX0_add 57 = .ok (.getfield 30, 3) := by decide +kernel
theorem dX0_add_60 : decode cX0_add 60 = .ok (.iload 5, 2) := by decide +kernel
theorem dX0_add_62 : decode cX0_add 62 = .ok (.iconst 0, 1) := by decide +kernel
theorem dX0_add_63 : decode cX0_add 63 = .ok (.iastore, 1) := by decide +kernel
theorem dX0_add_64 : decode cX0_add 64 = .ok (.aload_n 0, 1) := by decide +kernel
theorem dX0_add_65 : decode cX0_add 65 = .ok (.dup, 1) := by decide +kernel
theorem dX0_add_66 : decode cX0_add 66 = .ok (.getfield 33, 3) := by decide +kernel
theorem dX0_add_69 : decode cX0_add 69 = .ok (.iconst 1, 1) := by decide +kernel
theorem dX0_add_70 : decode cX0_add 70 = .ok (.iadd, 1) := by decide +kernel
theorem dX0_add_71 : decode cX0_add 71 = .ok (.putfield 33, 3) := by decide +kernel
theorem dX0_add_74 : decode cX0_add 74 = .ok (.iload 5, 2) := by decide +kernel
theorem dX0_add_76 : decode cX0_add 76 = .ok (.ireturn, 1) := by decide +kernel
theorem dX0_hasSeasonOn_0 : decode cX0_hasSeasonOn 0 = .ok (.iload_n 2, 1) := by decide +kernel
theorem dX0_hasSeasonOn_1 : decode cX0_hasSeasonOn 1 = .ok (.aload_n 0, 1) := by decide +kernel
theorem dX0_hasSeasonOn_2 : decode cX0_hasSeasonOn 2 = .ok (.getfield 18, 3) := by decide +kernel
theorem dX0_hasSeasonOn_5 : decode cX0_hasSeasonOn 5 = .ok (.iload_n 1, 1) := by decide +kernel
theorem dX0_hasSeasonOn_6 : decode cX0_hasSeasonOn 6 = .ok (.iaload, 1) := by decide +kernel
theorem dX0_hasSeasonOn_7 : decode cX0_hasSeasonOn 7 = .ok (.if_icmp .lt 17, 3) := by decide +kernel
theorem dX0_hasSeasonOn_10 : decode cX0_hasSeasonOn 10 = .ok (.iload_n 2, 1) := by decide +kernel
theorem dX0_hasSeasonOn_11 : decode cX0_hasSeasonOn 11 = .ok (.aload_n 0, 1) := by decide +kernel
theorem dX0_hasSeasonOn_12 : decode cX0_hasSeasonOn 12 = .ok (.getfield 21, 3) := by decide +kernel
theorem dX0_hasSeasonOn_15 : decode cX0_hasSeasonOn 15 = .ok (.iload_n 1, 1) := by decide +kernel
theorem dX0_hasSeasonOn_16 : decode cX0_hasSeasonOn 16 = .ok (.iaload, 1) := by decide +kernel
theorem dX0_hasSeasonOn_17 : decode cX0_hasSeasonOn 17 = .ok (.if_icmp .gt 7, 3) := by decide +kernel
theorem dX0_hasSeasonOn_20 : decode cX0_hasSeasonOn 20 = .ok (.iconst 1, 1) := by decide +kernel
theorem dX0_hasSeasonOn_21 : decode cX0_hasSeasonOn 21 = .ok (.goto 4, 3) := by decide +kernel
theorem dX0_hasSeasonOn_24 : decode cX0_hasSeasonOn 24 = .ok (.iconst 0, 1) := by decide +kernel
theorem dX0_hasSeasonOn_25 : decode cX0_hasSeasonOn 25 = .ok (.ireturn, 1) := by decide +kernel
theorem dX0_freePlaces_0 : decode cX0_freePlaces 0 = .ok (.aload_n 0, 1) := by decide +kernel
theorem dX0_freePlaces_1 : decode cX0_freePlaces 1 = .ok (.getfield 15, 3) := by decide +kernel
theorem dX0_freePlaces_4 : decode cX0_freePlaces 4 = .ok (.iload_n 1, 1) := by decide +kernel
theorem dX0_freePlaces_5 : decode cX0_freePlaces 5 = .ok (.iaload, 1) := by decide +kernel
theorem dX0_freePlaces_6 : decode cX0_freePlaces 6 = .ok (.aload_n 0, 1) := by decide +kernel
theorem dX0_freePlaces_7 : decode cX0_freePlaces 7 = .ok (.getfield 30, 3) := by decide +kernel
theorem dX0_freePlaces_10 : decode cX0_freePlaces 10 = .ok (.iload_n 1, 1) := by decide +kernel
theorem dX0_freePlaces_11 : decode cX0_freePlaces 11 = .ok (.iaload, 1) := by decide +kernel
theorem dX0_freePlaces_12 : decode cX0_freePlaces 12 = .ok (.isub, 1) := by decide +kernel
theorem dX0_freePlaces_13 : decode cX0_freePlaces 13 = .ok (.ireturn, 1) := by decide +kernel
theorem dX0_countVisit_0 : decode cX0_countVisit 0 = .ok (.aload_n 0, 1) := by decide +kernel
theorem dX0_countVisit_1 : decode cX0_countVisit 1 = .ok (.getfield 27, 3) := by decide +kernel
theorem dX0_countVisit_4 : decode cX0_countVisit 4 = .ok (.iload_n 1, 1) := by decide +kernel
theorem dX0_countVisit_5 : decode cX0_countVisit 5 = .ok (.dup2, 1) := by decide +kernel
theorem dX0_countVisit_6 : decode cX0_countVisit 6 = .ok (.iaload, 1) := by decide +kernel
theorem dX0_countVisit_7 : decode cX0_countVisit 7 = .ok (.iconst 1, 1) := by decide +kernel
theorem dX0_countVisit_8 : decode cX0_countVisit 8 = .ok (.iadd, 1) := by decide +kernel
theorem dX0_countVisit_9 : decode cX0_countVisit 9 = .ok (.iastore, 1) := by decide +kernel
theorem dX0_countVisit_10 : decode cX0_countVisit 10 = .ok (.aload_n 0, 1) := by decide +kernel
theorem dX0_countVisit_11 : decode cX0_countVisit 11 = .ok (.getfield 30, 3) := by decide +kernel
theorem dX0_countVisit_14 : decode cX0_countVisit 14 = .ok (.iload_n 1, 1) := by decide +kernel
theorem dX0_countVisit_15 : decode cX0_countVisit 15 = .ok (.dup2, 1) := by decide +kernel
theorem dX0_countVisit_16 : decode cX0_countVisit 16 = .ok (.iaload, 1) := by decide +kernel
theorem dX0_countVisit_17 : decode cX0_countVisit 17 = .ok (.iconst 1, 1) := by decide +kernel
theorem dX0_countVisit_18 : decode cX0_countVisit 18 = .ok (.iadd, 1) := by decide +kernel
theorem dX0_countVisit_19 : decode cX0_countVisit 19 = .ok (.iastore, 1) := by decide +kernel
theorem dX0_countVisit_20 : decode cX0_countVisit 20 = .ok (.return_, 1) := by decide +kernel
theorem dX0_beginTick_0 : decode cX0_beginTick 0 = .ok (.iconst 0, 1) := by decide +kernel
theorem dX0_beginTick_1 : decode cX0_beginTick 1 = .ok (.istore_n 1, 1) := by decide +kernel
theorem dX0_beginTick_2 : decode cX0_beginTick 2 = .ok (.iload_n 1, 1) := by decide +kernel
theorem dX0_beginTick_3 : decode cX0_beginTick 3 = .ok (.aload_n 0, 1) := by decide +kernel
theorem dX0_beginTick_4 : decode cX0_beginTick 4 = .ok (.getfield 33, 3) := by decide +kernel
theorem dX0_beginTick_7 : decode cX0_beginTick 7 = .ok (.if_icmp .ge 16, 3) := by decide +kernel
theorem dX0_beginTick_10 : decode cX0_beginTick 10 = .ok (.aload_n 0, 1) := by decide +kernel
theorem dX0_beginTick_11 : decode cX0_beginTick 11 = .ok (.getfield 30, 3) := by decide +kernel
theorem dX0_beginTick_14 : decode cX0_beginTick 14 = .ok (.iload_n 1, 1) := by decide +kernel
theorem dX0_beginTick_15 : decode cX0_beginTick 15 = .ok (.iconst 0, 1) := by decide +kernel
theorem dX0_beginTick_16 : decode cX0_beginTick 16 = .ok (.iastore, 1) := by decide +kernel
theorem dX0_beginTick_17 : decode cX0_beginTick 17 = .ok (.iinc 1 1, 3) := by decide +kernel
theorem dX0_beginTick_20 : decode cX0_beginTick 20 = .ok (.goto (-18), 3) := by decide +kernel
theorem dX0_beginTick_23 : decode cX0_beginTick 23 = .ok (.return_, 1) := by decide +kernel
theorem dX0_beginDay_0 : decode cX0_beginDay 0 = .ok (.iconst 0, 1) := by decide +kernel
theorem dX0_beginDay_1 : decode cX0_beginDay 1 = .ok (.istore_n 2, 1) := by decide +kernel
theorem dX0_beginDay_2 : decode cX0_beginDay 2 = .ok (.iload_n 2, 1) := by decide +kernel
theorem dX0_beginDay_3 : decode cX0_beginDay 3 = .ok (.aload_n 0, 1) := by decide +kernel
theorem dX0_beginDay_4 : decode cX0_beginDay 4 = .ok (.getfield 33, 3) := by decide +kernel
theorem dX0_beginDay_7 : decode cX0_beginDay 7 = .ok (.if_icmp .ge 37, 3) := by decide +kernel
theorem dX0_beginDay_10 : decode cX0_beginDay 10 = .ok (.aload_n 0, 1) := by decide +kernel
theorem dX0_beginDay_11 : decode cX0_beginDay 11 = .ok (.iload_n 2, 1) := by decide +kernel
theorem dX0_beginDay_12 : decode cX0_beginDay 12 = .ok (.iload_n 1, 1) := by decide +kernel
theorem dX0_beginDay_13 : decode cX0_beginDay 13 = .ok (.invokevirtual 43, 3) := by decide +kernel
theorem dX0_beginDay_16 : decode cX0_beginDay 16 = .ok (.ifCond .eq 22, 3) := by decide +kernel
theorem dX0_beginDay_19 : decode cX0_beginDay 19 = .ok (.aload_n 0, 1) := by decide +kernel
theorem dX0_beginDay_20 : decode cX0_beginDay 20 = .ok (.getfield 24, 3) := by decide +kernel
theorem dX0_beginDay_23 : decode cX0_beginDay 23 = .ok (.iload_n 2, 1) := by decide +kernel
theorem dX0_beginDay_24 : decode cX0_beginDay 24 = .ok (.bipush 50, 2) := by decide +kernel
theorem dX0_beginDay_26 : decode cX0_beginDay 26 = .ok (.aload_n 0, 1) := by decide +kernel
theorem dX0_beginDay_27 : decode cX0_beginDay 27 = .ok (.getfield 24, 3) := by decide +kernel
theorem dX0_beginDay_30 : decode cX0_beginDay 30 = .ok (.iload_n 2, 1) := by decide +kernel
theorem dX0_beginDay_31 : decode cX0_beginDay 31 = .ok (.iaload, 1) := by decide +kernel
theorem dX0_beginDay_32 : decode cX0_beginDay 32 = .ok (.iconst 3, 1) := by decide +kernel
theorem dX0_beginDay_33 : decode cX0_beginDay 33 = .ok (.iadd, 1) := by decide +kernel
theorem dX0_beginDay_34 : decode cX0_beginDay 34 = .ok (.invokestatic 47, 3) := by decide +kernel
theorem dX0_beginDay_37 : decode cX0_beginDay 37 = .ok (.iastore, 1) := by decide +kernel
theorem dX0_beginDay_38 : decode cX0_beginDay 38 = .ok (.iinc 2 1, 3) := by decide +kernel
theorem dX0_beginDay_41 : decode cX0_beginDay 41 = .ok (.goto (-39), 3) := by decide +kernel
theorem dX0_beginDay_44 : decode cX0_beginDay 44 = .ok (.return_, 1) := by decide +kernel
theorem dX0_sumOfVisits_0 : decode cX0_sumOfVisits 0 = .ok (.iconst 0, 1) := by decide +kernel
theorem dX0_sumOfVisits_1 : decode cX0_sumOfVisits 1 = .ok (.istore_n 1, 1) := by decide +kernel
theorem dX0_sumOfVisits_2 : decode cX0_sumOfVisits 2 = .ok (.iconst 0, 1) := by decide +kernel
theorem dX0_sumOfVisits_3 : decode cX0_sumOfVisits 3 = .ok (.istore_n 2, 1) := by decide +kernel
theorem dX0_sumOfVisits_4 : decode cX0_sumOfVisits 4 = .ok (.iload_n 2, 1) := by decide +kernel
theorem dX0_sumOfVisits_5 : decode cX0_sumOfVisits 5 = .ok (.aload_n 0, 1) := by decide +kernel
theorem dX0_sumOfVisits_6 : decode cX0_sumOfVisits 6 = .ok (.getfield 33, 3) := by decide +kernel
theorem dX0_sumOfVisits_9 : decode cX0_sumOfVisits 9 = .ok (.if_icmp .ge 18, 3) := by decide +kernel
theorem dX0_sumOfVisits_12 : decode cX0_sumOfVisits 12 = .ok (.iload_n 1, 1) := by decide +kernel
theorem dX0_sumOfVisits_13 : decode cX0_sumOfVisits 13 = .ok (.aload_n 0, 1) := by decide +kernel
theorem dX0_sumOfVisits_14 : decode cX0_sumOfVisits 14 = .ok (.getfield 27, 3) := by decide +kernel
theorem dX0_sumOfVisits_17 : decode cX0_sumOfVisits 17 = .ok (.iload_n 2, 1) := by decide +kernel
theorem dX0_sumOfVisits_18 : decode cX0_sumOfVisits 18 = .ok (.iaload, 1) := by decide +kernel
theorem dX0_sumOfVisits_19 : decode cX0_sumOfVisits 19 = .ok (.iadd, 1) := by decide +kernel
theorem dX0_sumOfVisits_20 : decode cX0_sumOfVisits 20 = .ok (.istore_n 1, 1) := by decide +kernel
theorem dX0_sumOfVisits_21 : decode cX0_sumOfVisits 21 = .ok (.iinc 2 1, 3) := by decide +kernel
theorem dX0_sumOfVisits_24 : decode cX0_sumOfVisits 24 = .ok (.goto (-20), 3) := by decide +kernel
theorem dX0_sumOfVisits_27 : decode cX0_sumOfVisits 27 = .ok (.iload_n 1, 1) := by decide +kernel
theorem dX0_sumOfVisits_28 : decode cX0_sumOfVisits 28 = .ok (.ireturn, 1) := by decide +kernel
theorem dX0_countWrong_0 : decode cX0_countWrong 0 = .ok (.iconst 0, 1) := by decide +kernel
theorem dX0_countWrong_1 : decode cX0_countWrong 1 = .ok (.istore_n 1, 1) := by decide +kernel
theorem dX0_countWrong_2 : decode cX0_countWrong 2 = .ok (.iconst 0, 1) := by decide +kernel
theorem dX0_countWrong_3 : decode cX0_countWrong 3 = .ok (.istore_n 2, 1) := by decide +kernel
theorem dX0_countWrong_4 : decode cX0_countWrong 4 = .ok (.iload_n 2, 1) := by decide +kernel
theorem dX0_countWrong_5 : decode cX0_countWrong 5 = .ok (.aload_n 0, 1) := by decide +kernel
theorem dX0_countWrong_6 : decode cX0_countWrong 6 = .ok (.getfield 33, 3) := by decide +kernel
theorem dX0_countWrong_9 : decode cX0_countWrong 9 = .ok (.if_icmp .ge 40, 3) := by decide +kernel
theorem dX0_countWrong_12 : decode cX0_countWrong 12 = .ok (.aload_n 0, 1) := by decide +kernel
theorem dX0_countWrong_13 : decode cX0_countWrong 13 = .ok (.iload_n 2, 1) := by decide +kernel
theorem dX0_countWrong_14 : decode cX0_countWrong 14 = .ok (.invokevirtual 53, 3) := by decide +kernel
theorem dX0_countWrong_17 : decode cX0_countWrong 17 = .ok (.ifCond .lt 23, 3) := by decide +kernel
theorem dX0_countWrong_20 : decode cX0_countWrong 20 = .ok (.aload_n 0, 1) := by decide +kernel
theorem dX0_countWrong_21 : decode cX0_countWrong 21 = .ok (.getfield 24, 3) := by decide +kernel
theorem dX0_countWrong_24 : decode cX0_countWrong 24 = .ok (.iload_n 2, 1) := by decide +kernel
theorem dX0_countWrong_25 : decode cX0_countWrong 25 = .ok (.iaload, 1) := by decide +kernel
theorem dX0_countWrong_26 : decode cX0_countWrong 26 = .ok (.ifCond .lt 14, 3) := by decide +kernel
theorem dX0_countWrong_29 : decode cX0_countWrong 29 = .ok (.aload_n 0, 1) := by decide +kernel
theorem dX0_countWrong_30 : decode cX0_countWrong 30 = .ok (.getfield 24, 3) := by decide +kernel
theorem dX0_countWrong_33 : decode cX0_countWrong 33 = .ok (.iload_n 2, 1) := by decide +kernel
theorem dX0_countWrong_34 : decode cX0_countWrong 34 = .ok (.iaload, 1) := by decide +kernel
theorem dX0_countWrong_35 : decode cX0_countWrong 35 = .ok (.bipush 50, 2) := by decide +kernel
theorem dX0_countWrong_37 : decode cX0_countWrong 37 = .ok (.if_icmp .le 6, 3) := by decide +kernel
theorem dX0_countWrong_40 : decode cX0_countWrong 40 = .ok (.iinc 1 1, 3) := by decide +kernel
theorem dX0_countWrong_43 : decode cX0_countWrong 43 = .ok (.iinc 2 1, 3) := by decide +kernel
theorem dX0_countWrong_46 : decode cX0_countWrong 46 = .ok (.goto (-42), 3) := by decide +kernel
theorem dX0_countWrong_49 : decode cX0_countWrong 49 = .ok (.iload_n 1, 1) := by decide +kernel
theorem dX0_countWrong_50 : decode cX0_countWrong 50 = .ok (.ireturn, 1) := by decide +kernel
theorem dX1_init_0 : decode cX1_init 0 = .ok (.aload_n 0, 1) := by decide +kernel
theorem dX1_init_1 : decode cX1_init 1 = .ok (.invokespecial 1, 3) := by decide +kernel
theorem dX1_init_4 : decode cX1_init 4 = .ok (.return_, 1) := by decide +kernel
theorem dX1_reset_0 : decode cX1_reset 0 = .ok (.aload_n 0, 1) := by decide +kernel
theorem dX1_reset_1 : decode cX1_reset 1 = .ok (.iconst 0, 1) := by decide +kernel
theorem dX1_reset_2 : decode cX1_reset 2 = .ok (.putfield 7, 3) := by decide +kernel
theorem dX1_reset_5 : decode cX1_reset 5 = .ok (.aload_n 0, 1) := by decide +kernel
theorem dX1_reset_6 : decode cX1_reset 6 = .ok (.iconst 0, 1) := by decide +kernel
theorem dX1_reset_7 : decode cX1_reset 7 = .ok (.putfield 13, 3) := by decide +kernel
theorem dX1_reset_10 : decode cX1_reset 10 = .ok (.aload_n 0, 1) := by decide +kernel
theorem dX1_reset_11 : decode cX1_reset 11 = .ok (.iconst 0, 1) := by decide +kernel
theorem dX1_reset_12 : decode cX1_reset 12 = .ok (.putfield 16, 3) := by decide +kernel
theorem dX1_reset_15 : decode cX1_reset 15 = .ok (.aload_n 0, 1) := by decide +kernel
theorem dX1_reset_16 : decode cX1_reset 16 = .ok (.iconst 0, 1) := by decide +kernel
theorem dX1_reset_17 : decode cX1_reset 17 = .ok (.putfield 19, 3) := by decide +kernel
theorem dX1_reset_20 : decode cX1_reset 20 = .ok (.aload_n 0, 1) := by decide +kernel
theorem dX1_reset_21 : decode cX1_reset 21 = .ok (.iconst 0, 1) := by decide +kernel
theorem dX1_reset_22 : decode cX1_reset 22 = .ok (.putfield 22, 3) := by decide +kernel
theorem dX1_reset_25 : decode cX1_reset 25 = .ok (.aload_n 0, 1) := by decide +kernel
theorem dX1_reset_26 : decode cX1_reset 26 = .ok (.iconst 0, 1) := by decide +kernel
theorem dX1_reset_27 : decode cX1_reset 27 = .ok (.putfield 25, 3) := by decide +kernel
theorem dX1_reset_30 : decode cX1_reset 30 = .ok (.return_, 1) := by decide +kernel
theorem dX1_copyFrom_0 : decode cX1_copyFrom 0 = .ok (.aload_n 0, 1) := by decide +kernel
theorem dX1_copyFrom_1 : decode cX1_copyFrom 1 = .ok (.aload_n 1, 1) := by decide +kernel
theorem dX1_copyFrom_2 : decode cX1_copyFrom 2 = .ok (.getfield 7, 3) := by decide +kernel
theorem dX1_copyFrom_5 : decode cX1_copyFrom 5 = .ok (.putfield 7, 3) := by decide +kernel
theorem dX1_copyFrom_8 : decode cX1_copyFrom 8 = .ok (.aload_n 0, 1) := by decide +kernel
theorem dX1_copyFrom_9 : decode cX1_copyFrom 9 = .ok (.aload_n 1, 1) := by decide +kernel
theorem dX1_copyFrom_10 : decode cX1_copyFrom 10 = .ok (.getfield 13, 3) := by decide +kernel
theorem dX1_copyFrom_13 : decode cX1_copyFrom 13 = .ok (.putfield 13, 3) := by decide +kernel
theorem dX1_copyFrom_16 : decode cX1_copyFrom 16 = .ok (.aload_n 0, 1) := by decide +kernel
theorem dX1_copyFrom_17 : decode cX1_copyFrom 17 = .ok (.aload_n 1, 1) := by decide +kernel
theorem dX1_copyFrom_18 : decode cX1_copyFrom 18 = .ok (.getfield 16, 3) := by decide +kernel
theorem dX1_copyFrom_21 : decode cX1_copyFrom 21 = .ok (.putfield 16, 3) := by decide +kernel
theorem dX1_copyFrom_24 : decode cX1_copyFrom 24 = .ok (.aload_n 0, 1) := by decide +kernel
theorem dX1_copyFrom_25 : decode cX1_copyFrom 25 = .ok (.aload_n 1, 1) := by decide +kernel
theorem dX1_copyFrom_26 : decode cX1_copyFrom 26 = .ok (.getfield 19, 3) := by decide +kernel
theorem dX1_copyFrom_29 : decode cX1_copyFrom 29 = .ok (.putfield 19, 3) := by decide +kernel
theorem dX1_copyFrom_32 : decode cX1_copyFrom 32 = .ok (.aload_n 0, 1) := by decide +kernel
theorem dX1_copyFrom_33 : decode cX1_copyFrom 33 = .ok (.aload_n 1, 1) := by decide +kernel
theorem dX1_copyFrom_34 : decode cX1_copyFrom 34 = .ok (.getfield 22, 3) := by decide +kernel
theorem dX1_copyFrom_37 : decode cX1_copyFrom 37 = .ok (.putfield 22, 3) := by decide +kernel
theorem dX1_copyFrom_40 : decode cX1_copyFrom 40 = .ok (.aload_n 0, 1) := by decide +kernel
theorem dX1_copyFrom_41 : decode cX1_copyFrom 41 = .ok (.aload_n 1, 1) := by decide +kernel
theorem dX1_copyFrom_42 : decode cX1_copyFrom 42 = .ok (.getfield 25, 3) := by decide +kernel
theorem dX1_copyFrom_45 : decode cX1_copyFrom 45 = .ok (.putfield 25, 3) := by decide +kernel
theorem dX1_copyFrom_48 : decode cX1_copyFrom 48 = .ok (.return_, 1) := by decide +kernel
theorem dX2_init_0 : decode cX2_init 0 = .ok (.aload_n 0, 1) := by decide +kernel
theorem dX2_init_1 : decode cX2_init 1 = .ok (.invokespecial 3, 3) := by decide +kernel
theorem dX2_init_4 : decode cX2_init 4 = .ok (.aload_n 0, 1) := by decide +kernel
theorem dX2_init_5 : decode cX2_init 5 = .ok (.bipush 50, 2) := by decide +kernel
theorem dX2_init_7 : decode cX2_init 7 = .ok (.newarray .int, 2) := by decide +kernel
theorem dX2_init_9 : decode cX2_init 9 = .ok (.putfield 9, 3) := by decide +kernel
theorem dX2_init_12 : decode cX2_init 12 = .ok (.aload_n 0, 1) := by decide +kernel
theorem dX2_init_13 : decode cX2_init 13 = .ok (.bipush 50, 2) := by decide +kernel
theorem dX2_init_15 : decode cX2_init 15 = .ok (.newarray .boolean, 2) := by decide +kernel
theorem dX2_init_17 : decode cX2_init 17 = .ok (.putfield 15, 3) := by decide +kernel
theorem dX2_init_20 : decode cX2_init 20 = .ok (.return_, 1) := by decide +kernel
theorem dX2_copyFrom_0 : decode cX2_copyFrom 0 = .ok (.aload_n 0, 1) := by decide +kernel
theorem dX2_copyFrom_1 : decode cX2_copyFrom 1 = .ok (.aload_n 1, 1) := by decide +kernel
theorem dX2_copyFrom_2 : decode cX2_copyFrom 2 = .ok (.getfield 19, 3) := by decide +kernel
theorem dX2_copyFrom_5 : decode cX2_copyFrom 5 = .ok (.putfield 19, 3) := by decide +kernel
theorem dX2_copyFrom_8 : decode cX2_copyFrom 8 = .ok (.aload_n 1, 1) := by decide +kernel
theorem dX2_copyFrom_9 : decode cX2_copyFrom 9 = .ok (.getfield 9, 3) := by decide +kernel
theorem dX2_copyFrom_12 : decode cX2_copyFrom 12 = .ok (.iconst 0, 1) := by decide +kernel
theorem dX2_copyFrom_13 : decode cX2_copyFrom 13 = .ok (.aload_n 0, 1) := by decide +kernel
theorem dX2_copyFrom_14 : decode cX2_copyFrom 14 = .ok (.getfield 9, 3) := by decide +kernel
theorem dX2_copyFrom_17 : decode cX2_copyFrom 17 = .ok (.iconst 0, 1) := by decide +kernel
theorem dX2_copyFrom_18 : decode cX2_copyFrom 18 = .ok (.aload_n 0, 1) := by decide +kernel
theorem dX2_copyFrom_19 : decode cX2_copyFrom 19 = .ok (.getfield 19, 3) := by decide +kernel
theorem dX2_copyFrom_22 : decode cX2_copyFrom 22 = .ok (.invokestatic 23, 3) := by decide +kernel
theorem dX2_copyFrom_25 : decode cX2_copyFrom 25 = .ok (.iconst 0, 1) := by decide +kernel
theorem dX2_copyFrom_26 : decode cX2_copyFrom 26 = .ok (.istore_n 2, 1) := by decide +kernel
theorem dX2_copyFrom_27 : decode cX2_copyFrom 27 = .ok (.iload_n 2, 1) := by decide +kernel
theorem dX2_copyFrom_28 : decode cX2_copyFrom 28 = .ok (.aload_n 0, 1) := by decide +kernel
theorem dX2_copyFrom_29 : decode cX2_copyFrom 29 = .ok (.getfield 19, 3) := by decide +kernel
theorem dX2_copyFrom_32 : decode cX2_copyFrom 32 = .ok (.if_icmp .ge 21, 3) := by decide +kernel
theorem dX2_copyFrom_35 : decode cX2_copyFrom 35 = .ok (.aload_n 0, 1) := by decide +kernel
theorem dX2_copyFrom_36 : decode cX2_copyFrom 36 = .ok (.getfield 15, 3) := by decide +kernel
theorem dX2_copyFrom_39 : decode cX2_copyFrom 39 = .ok (.iload_n 2, 1) := by decide +kernel
theorem dX2_copyFrom_40 : decode cX2_copyFrom 40 = .ok (.aload_n 1, 1) := by decide +kernel
theorem dX2_copyFrom_41 : decode cX2_copyFrom 41 = .ok (.getfield 15, 3) := by decide +kernel
theorem dX2_copyFrom_44 : decode cX2_copyFrom 44 = .ok (.iload_n 2, 1) := by decide +kernel
theorem dX2_copyFrom_45 : decode cX2_copyFrom 45 = .ok (.baload, 1) := by decide +kernel
theorem dX2_copyFrom_46 : decode cX2_copyFrom 46 = .ok (.bastore, 1) := by decide +kernel
theorem dX2_copyFrom_47 : decode cX2_copyFrom 47 = .ok (.iinc 2 1, 3) := by decide +kernel
theorem dX2_copyFrom_50 : decode cX2_copyFrom 50 = .ok (.goto (-23), 3) := by decide +kernel
theorem dX2_copyFrom_53 : decode cX2_copyFrom 53 = .ok (.return_, 1) := by decide +kernel
theorem dX2_has_0 : decode cX2_has 0 = .ok (.iload_n 1, 1) := by decide +kernel
theorem dX2_has_1 : decode cX2_has 1 = .ok (.ifCond .lt 15, 3) := by decide +kernel
theorem dX2_has_4 : decode cX2_has 4 = .ok (.iload_n 1, 1) := by decide +kernel
theorem dX2_has_5 : decode cX2_has 5 = .ok (.aload_n 0, 1) := by decide +kernel
theorem dX2_has_6 : decode cX2_has 6 = .ok (.getfield 19, 3) := by decide +kernel
theorem dX2_has_9 : decode cX2_has 9 = .ok (.if_icmp .ge 7, 3) := by decide +kernel
theorem dX2_has_12 : decode cX2_has 12 = .ok (.iconst 1, 1) := by decide +kernel
theorem dX2_has_13 : decode cX2_has 13 = .ok (.goto 4, 3) := by decide +kernel
theorem dX2_has_16 : decode cX2_has 16 = .ok (.iconst 0, 1) := by decide +kernel
theorem dX2_has_17 : decode cX2_has 17 = .ok (.ireturn, 1) := by decide +kernel
theorem dX2_hasRoom_0 : decode cX2_hasRoom 0 = .ok (.aload_n 0, 1) := by decide +kernel
theorem dX2_hasRoom_1 : decode cX2_hasRoom 1 = .ok (.getfield 19, 3) := by decide +kernel
theorem dX2_hasRoom_4 : decode cX2_hasRoom 4 = .ok (.bipush 50, 2) := by decide +kernel
theorem dX2_hasRoom_6 : decode cX2_hasRoom 6 = .ok (.if_icmp .ge 7, 3) := by decide +kernel
theorem dX2_hasRoom_9 : decode cX2_hasRoom 9 = .ok (.iconst 1, 1) := by decide +kernel
theorem dX2_hasRoom_10 : decode cX2_hasRoom 10 = .ok (.goto 4, 3) := by decide +kernel
theorem dX2_hasRoom_13 : decode cX2_hasRoom 13 = .ok (.iconst 0, 1) := by decide +kernel
theorem dX2_hasRoom_14 : decode cX2_hasRoom 14 = .ok (.ireturn, 1) := by decide +kernel
theorem dX2_add_0 : decode cX2_add 0 = .ok (.aload_n 0, 1) := by decide +kernel
theorem dX2_add_1 : decode cX2_add 1 = .ok (.getfield 19, 3) := by decide +kernel
theorem dX2_add_4 : decode cX2_add 4 = .ok (.istore_n 2, 1) := by decide +kernel
theorem dX2_add_5 : decode cX2_add 5 = .ok (.aload_n 0, 1) := by decide +kernel
theorem dX2_add_6 : decode cX2_add 6 = .ok (.getfield 9, 3) := by decide +kernel
theorem dX2_add_9 : decode cX2_add 9 = .ok (.iload_n 2, 1) := by decide +kernel
theorem dX2_add_10 : decode cX2_add 10 = .ok (.iload_n 1, 1) := by decide +kernel
theorem dX2_add_11 : decode cX2_add 11 = .ok (.iastore, 1) := by decide +kernel
theorem dX2_add_12 : decode cX2_add 12 = .ok (.aload_n 0, 1) := by decide +kernel
theorem dX2_add_13 : decode cX2_add 13 = .ok (.getfield 15, 3) := by decide +kernel
theorem dX2_add_16 : decode cX2_add 16 = .ok (.iload_n 2, 1) := by decide +kernel
theorem dX2_add_17 : decode cX2_add 17 = .ok (.iconst 0, 1) := by decide +kernel
theorem dX2_add_18 : decode cX2_add 18 = .ok (.bastore, 1) := by decide +kernel
theorem dX2_add_19 : decode cX2_add 19 = .ok (.aload_n 0, 1) := by decide +kernel
theorem dX2_add_20 : decode cX2_add 20 = .ok (.dup, 1) := by decide +kernel
theorem dX2_add_21 : decode cX2_add 21 = .ok (.getfield 19, 3) := by decide +kernel
theorem dX2_add_24 : decode cX2_add 24 = .ok (.iconst 1, 1) := by decide +kernel
theorem dX2_add_25 : decode cX2_add 25 = .ok (.iadd, 1) := by decide +kernel
theorem dX2_add_26 : decode cX2_add 26 = .ok (.putfield 19, 3) := by decide +kernel
theorem dX2_add_29 : decode cX2_add 29 = .ok (.iload_n 2, 1) := by decide +kernel
theorem dX2_add_30 : decode cX2_add 30 = .ok (.ireturn, 1) := by decide +kernel
theorem dX2_isOpenCardOf_0 : decode cX2_isOpenCardOf 0 = .ok (.aload_n 0, 1) := by decide +kernel
theorem dX2_isOpenCardOf_1 : decode cX2_isOpenCardOf 1 = .ok (.iload_n 1, 1) := by decide +kernel
theorem dX2_isOpenCardOf_2 : decode cX2_isOpenCardOf 2 = .ok (.invokevirtual 29, 3) := by decide +kernel
theorem dX2_isOpenCardOf_5 : decode cX2_isOpenCardOf 5 = .ok (.ifCond .eq 26, 3) := by decide +kernel
theorem dX2_isOpenCardOf_8 : decode cX2_isOpenCardOf 8 = .ok (.aload_n 0, 1) := by decide +kernel
theorem dX2_isOpenCardOf_9 : decode cX2_isOpenCardOf 9 = .ok (.getfield 15, 3) := by decide +kernel
theorem dX2_isOpenCardOf_12 : decode cX2_isOpenCardOf 12 = .ok (.iload_n 1, 1) := by decide +kernel
theorem dX2_isOpenCardOf_13 : decode cX2_isOpenCardOf 13 = .ok (.baload, 1) := by decide +kernel
theorem dX2_isOpenCardOf_14 : decode cX2_isOpenCardOf 14 = .ok (.ifCond .ne 17, 3) := by decide +kernel
theorem dX2_isOpenCardOf_17 : decode cX2_isOpenCardOf 17 = .ok (.aload_n 0, 1) := by decide +kernel
theorem dX2_isOpenCardOf_18 : decode cX2_isOpenCardOf 18 = .ok (.getfield 9, 3) := by decide +kernel
theorem dX2_isOpenCardOf_21 : decode cX2_isOpenCardOf 21 = .ok (.iload_n 1, 1) := by decide +kernel
theorem dX2_isOpenCardOf_22 : decode cX2_isOpenCardOf 22 = .ok (.iaload, 1) := by decide +kernel
theorem dX2_isOpenCardOf_23 : decode cX2_isOpenCardOf 23 = .ok (.iload_n 2, 1) := by decide +kernel
theorem dX2_isOpenCardOf_24 : decode cX2_isOpenCardOf 24 = .ok (.if_icmp .ne 7, 3) := by decide +kernel
theorem dX2_isOpenCardOf_27 : decode cX2_isOpenCardOf 27 = .ok (.iconst 1, 1) := by decide +kernel
theorem dX2_isOpenCardOf_28 : decode cX2_isOpenCardOf 28 = .ok (.goto 4, 3) := by decide +kernel
theorem dX2_isOpenCardOf_31 : decode cX2_isOpenCardOf 31 = .ok (.iconst 0, 1) := by decide +kernel
theorem dX2_isOpenCardOf_32 : decode cX2_isOpenCardOf 32 = .ok (.ireturn, 1) := by decide +kernel
theorem dX2_countBlocked_0 : decode cX2_countBlocked 0 = .ok (.iconst 0, 1) := by decide +kernel
theorem dX2_countBlocked_1 : decode cX2_countBlocked 1 = .ok (.istore_n 1, 1) := by decide +kernel
theorem dX2_countBlocked_2 : decode cX2_countBlocked 2 = .ok (.iconst 0, 1) := by decide +kernel
theorem dX2_countBlocked_3 : decode cX2_countBlocked 3 = .ok (.istore_n 2, 1) := by decide +kernel
theorem dX2_countBlocked_4 : decode cX2_countBlocked 4 = .ok (.iload_n 2, 1) := by decide +kernel
theorem dX2_countBlocked_5 : decode cX2_countBlocked 5 = .ok (.aload_n 0, 1) := by decide +kernel
theorem dX2_countBlocked_6 : decode cX2_countBlocked 6 = .ok (.getfield 19, 3) := by decide +kernel
theorem dX2_countBlocked_9 : decode cX2_countBlocked 9 = .ok (.if_icmp .ge 21, 3) := by decide +kernel
theorem dX2_countBlocked_12 : decode cX2_countBlocked 12 = .ok (.aload_n 0, 1) := by decide +kernel
theorem dX2_countBlocked_13 : decode cX2_countBlocked 13 = .ok (.getfield 15, 3) := by decide +kernel
theorem dX2_countBlocked_16 : decode cX2_countBlocked 16 = .ok (.iload_n 2, 1) := by decide +kernel
theorem dX2_countBlocked_17 : decode cX2_countBlocked 17 = .ok (.baload, 1) := by decide +kernel
theorem dX2_countBlocked_18 : decode cX2_countBlocked 18 = .ok (.ifCond .eq 6, 3) := by decide +kernel
theorem dX2_countBlocked_21 : decode cX2_countBlocked 21 = .ok (.iinc 1 1, 3) := by decide +kernel
theorem dX2_countBlocked_24 : decode cX2_countBlocked 24 = .ok (.iinc 2 1, 3) := by decide +kernel
theorem dX2_countBlocked_27 : decode cX2_countBlocked 27 = .ok (.goto (-23), 3) := by decide +kernel
theorem dX2_countBlocked_30 : decode cX2_countBlocked 30 = .ok (.iload_n 1, 1) := by decide +kernel
theorem dX2_countBlocked_31 : decode cX2_countBlocked 31 = .ok (.ireturn, 1) := by decide +kernel
theorem dX3_init_0 : decode cX3_init 0 = .ok (.aload_n 0, 1) := by decide +kernel
theorem dX3_init_1 : decode cX3_init 1 = .ok (.invokespecial 3, 3) := by decide +kernel
theorem dX3_init_4 : decode cX3_init 4 = .ok (.return_, 1) := by decide +kernel
theorem dX3_reset_0 : decode cX3_reset 0 = .ok (.aload_n 0, 1) := by decide +kernel
theorem dX3_reset_1 : decode cX3_reset 1 = .ok (.iconst 0, 1) := by decide +kernel
theorem dX3_reset_2 : decode cX3_reset 2 = .ok (.putfield 9, 3) := by decide +kernel
theorem dX3_reset_5 : decode cX3_reset 5 = .ok (.aload_n 0, 1) := by decide +kernel
theorem dX3_reset_6 : decode cX3_reset 6 = .ok (.bipush 50, 2) := by decide +kernel
theorem dX3_reset_8 : decode cX3_reset 8 = .ok (.bipush 53, 2) := by decide +kernel
theorem dX3_reset_10 : decode cX3_reset 10 = .ok (.invokevirtual 15, 3) := by decide +kernel
theorem dX3_reset_13 : decode cX3_reset 13 = .ok (.return_, 1) := by decide +kernel
theorem dX3_copyFrom_0 : decode cX3_copyFrom 0 = .ok (.aload_n 0, 1) := by decide +kernel
theorem dX3_copyFrom_1 : decode cX3_copyFrom 1 = .ok (.aload_n 1, 1) := by decide +kernel
theorem dX3_copyFrom_2 : decode cX3_copyFrom 2 = .ok (.getfield 9, 3) := by decide +kernel
theorem dX3_copyFrom_5 : decode cX3_copyFrom 5 = .ok (.putfield 9, 3) := by decide +kernel
theorem dX3_copyFrom_8 : decode cX3_copyFrom 8 = .ok (.aload_n 0, 1) := by decide +kernel
theorem dX3_copyFrom_9 : decode cX3_copyFrom 9 = .ok (.aload_n 1, 1) := by decide +kernel
theorem dX3_copyFrom_10 : decode cX3_copyFrom 10 = .ok (.getfield 19, 3) := by decide +kernel
theorem dX3_copyFrom_13 : decode cX3_copyFrom 13 = .ok (.aload_n 1, 1) := by decide +kernel
theorem dX3_copyFrom_14 : decode cX3_copyFrom 14 = .ok (.getfield 22, 3) := by decide +kernel
theorem dX3_copyFrom_17 : decode cX3_copyFrom 17 = .ok (.invokevirtual 15, 3) := by decide +kernel
theorem dX3_copyFrom_20 : decode cX3_copyFrom 20 = .ok (.return_, 1) := by decide +kernel
theorem dX3_letPeacocksWalk_0 : decode cX3_letPeacocksWalk 0 = .ok (.aload_n 0, 1) := by decide +kernel
theorem dX3_letPeacocksWalk_1 : decode cX3_letPeacocksWalk 1 = .ok (.iload_n 1, 1) := by decide +kernel
theorem dX3_letPeacocksWalk_2 : decode cX3_letPeacocksWalk 2 = .ok (.putfield 19, 3) := by decide +kernel
theorem dX3_letPeacocksWalk_5 : decode cX3_letPeacocksWalk 5 = .ok (.aload_n 0, 1) := by decide +kernel
theorem dX3_letPeacocksWalk_6 : decode cX3_letPeacocksWalk 6 = .ok (.iload_n 2, 1) := by decide +kernel
theorem dX3_letPeacocksWalk_7 : decode cX3_letPeacocksWalk 7 = .ok (.putfield 22, 3) := by decide +kernel
theorem dX3_letPeacocksWalk_10 : decode cX3_letPeacocksWalk 10 = .ok (.return_, 1) := by decide +kernel
theorem dX3_today_0 : decode cX3_today 0 = .ok (.aload_n 0, 1) := by decide +kernel
theorem dX3_today_1 : decode cX3_today 1 = .ok (.getfield 9, 3) := by decide +kernel
theorem dX3_today_4 : decode cX3_today 4 = .ok (.bipush 96, 2) := by decide +kernel
theorem dX3_today_6 : decode cX3_today 6 = .ok (.idiv, 1) := by decide +kernel
theorem dX3_today_7 : decode cX3_today 7 = .ok (.ireturn, 1) := by decide +kernel
theorem dX3_canGoOn_0 : decode cX3_canGoOn 0 = .ok (.aload_n 0, 1) := by decide +kernel
theorem dX3_canGoOn_1 : decode cX3_canGoOn 1 = .ok (.getfield 9, 3) := by decide +kernel
theorem dX3_canGoOn_4 : decode cX3_canGoOn 4 = .ok (.iload_n 1, 1) := by decide +kernel
theorem dX3_canGoOn_5 : decode cX3_canGoOn 5 = .ok (.iadd, 1) := by decide +kernel
theorem dX3_canGoOn_6 : decode cX3_canGoOn 6 = .ok (.sipush 9599, 3) := by decide +kernel
theorem dX3_canGoOn_9 : decode cX3_canGoOn 9 = .ok (.if_icmp .gt 7, 3) := by decide +kernel
theorem dX3_canGoOn_12 : decode cX3_canGoOn 12 = .ok (.iconst 1, 1) := by decide +kernel
theorem dX3_canGoOn_13 : decode cX3_canGoOn 13 = .ok (.goto 4, 3) := by decide +kernel
theorem dX3_canGoOn_16 : decode cX3_canGoOn 16 = .ok (.iconst 0, 1) := by decide +kernel
theorem dX3_canGoOn_17 : decode cX3_canGoOn 17 = .ok (.ireturn, 1) := by decide +kernel
theorem dX3_tickOfDay_0 : decode cX3_tickOfDay 0 = .ok (.aload_n 0, 1) := by decide +kernel
theorem dX3_tickOfDay_1 : decode cX3_tickOfDay 1 = .ok (.getfield 9, 3) := by decide +kernel
theorem dX3_tickOfDay_4 : decode cX3_tickOfDay 4 = .ok (.bipush 96, 2) := by decide +kernel
theorem dX3_tickOfDay_6 : decode cX3_tickOfDay 6 = .ok (.irem, 1) := by decide +kernel
theorem dX3_tickOfDay_7 : decode cX3_tickOfDay 7 = .ok (.ireturn, 1) := by decide +kernel
theorem dX3_isOpenIn_0 : decode cX3_isOpenIn 0 = .ok (.iload_n 1, 1) := by decide +kernel
theorem dX3_isOpenIn_1 : decode cX3_isOpenIn 1 = .ok (.aload_n 0, 1) := by decide +kernel
theorem dX3_isOpenIn_2 : decode cX3_isOpenIn 2 = .ok (.getfield 19, 3) := by decide +kernel
theorem dX3_isOpenIn_5 : decode cX3_isOpenIn 5 = .ok (.if_icmp .lt 15, 3) := by decide +kernel
theorem dX3_isOpenIn_8 : decode cX3_isOpenIn 8 = .ok (.iload_n 1, 1) := by decide +kernel
theorem dX3_isOpenIn_9 : decode cX3_isOpenIn 9 = .ok (.aload_n 0, 1) := by decide +kernel
theorem dX3_isOpenIn_10 : decode cX3_isOpenIn 10 = .ok (.getfield 22, 3) := by decide +kernel
theorem dX3_isOpenIn_13 : decode cX3_isOpenIn 13 = .ok (.if_icmp .gt 7, 3) := by decide +kernel
theorem dX3_isOpenIn_16 : decode cX3_isOpenIn 16 = .ok (.iconst 1, 1) := by decide +kernel
theorem dX3_isOpenIn_17 : decode cX3_isOpenIn 17 = .ok (.goto 4, 3) := by decide +kernel
theorem dX3_isOpenIn_20 : decode cX3_isOpenIn 20 = .ok (.iconst 0, 1) := by decide +kernel
theorem dX3_isOpenIn_21 : decode cX3_isOpenIn 21 = .ok (.istore_n 2, 1) := by decide +kernel
theorem dX3_isOpenIn_22 : decode cX3_isOpenIn 22 = .ok (.iload_n 1, 1) := by decide +kernel
theorem dX3_isOpenIn_23 : decode cX3_isOpenIn 23 = .ok (.bipush 32, 2) := by decide +kernel
theorem dX3_isOpenIn_25 : decode cX3_isOpenIn 25 = .ok (.if_icmp .lt 17, 3) := by decide +kernel
theorem dX3_isOpenIn_28 : decode cX3_isOpenIn 28 = .ok (.iload_n 1, 1) := by decide +kernel
theorem dX3_isOpenIn_29 : decode cX3_isOpenIn 29 = .ok (.bipush 67, 2) := by decide +kernel
theorem dX3_isOpenIn_31 : decode cX3_isOpenIn 31 = .ok (.if_icmp .gt 11, 3) := by decide +kernel
theorem dX3_isOpenIn_34 : decode cX3_isOpenIn 34 = .ok (.iload_n 2, 1) := by decide +kernel
theorem dX3_isOpenIn_35 : decode cX3_isOpenIn 35 = .ok (.ifCond .ne 7, 3) := by decide +kernel
theorem dX3_isOpenIn_38 : decode cX3_isOpenIn 38 = .ok (.iconst 1, 1) := by decide +kernel
theorem dX3_isOpenIn_39 : decode cX3_isOpenIn 39 = .ok (.goto 4, 3) := by decide +kernel
theorem dX3_isOpenIn_42 : decode cX3_isOpenIn 42 = .ok (.iconst 0, 1) := by decide +kernel
theorem dX3_isOpenIn_43 : decode cX3_isOpenIn 43 = .ok (.ireturn, 1) := by decide +kernel
theorem dX3_openTicksOfDay_0 : decode cX3_openTicksOfDay 0 = .ok (.iconst 0, 1) := by decide +kernel
theorem dX3_openTicksOfDay_1 : decode cX3_openTicksOfDay 1 = .ok (.istore_n 1, 1) := by decide +kernel
theorem dX3_openTicksOfDay_2 : decode cX3_openTicksOfDay 2 = .ok (.bipush 32, 2) := by decide +kernel
theorem dX3_openTicksOfDay_4 : decode cX3_openTicksOfDay 4 = .ok (.istore_n 2, 1) := by decide +kernel
theorem dX3_openTicksOfDay_5 : decode cX3_openTicksOfDay 5 = .ok (.iload_n 2, 1) := by decide +kernel
theorem dX3_openTicksOfDay_6 : decode cX3_openTicksOfDay 6 = .ok (.bipush 67, 2) := by decide +kernel
theorem dX3_openTicksOfDay_8 : decode cX3_openTicksOfDay 8 = .ok (.if_icmp .gt 20, 3) := by decide +kernel
theorem dX3_openTicksOfDay_11 : decode cX3_openTicksOfDay 11 = .ok (.aload_n 0, 1) := by decide +kernel
theorem dX3_openTicksOfDay_12 : decode cX3_openTicksOfDay 12 = .ok (.iload_n 2, 1) := by decide +kernel
theorem dX3_openTicksOfDay_13 : decode cX3_openTicksOfDay 13 = .ok (.invokevirtual 25, 3) := by decide +kernel
theorem dX3_openTicksOfDay_16 : decode cX3_openTicksOfDay 16 = .ok (.ifCond .eq 6, 3) := by decide +kernel
theorem dX3_openTicksOfDay_19 : decode cX3_openTicksOfDay 19 = .ok (.iinc 1 1, 3) := by decide +kernel
theorem dX3_openTicksOfDay_22 : decode cX3_openTicksOfDay 22 = .ok (.iinc 2 1, 3) := by decide +kernel
theorem dX3_openTicksOfDay_25 : decode cX3_openTicksOfDay 25 = .ok (.goto (-20), 3) := by decide +kernel
theorem dX3_openTicksOfDay_28 : decode cX3_openTicksOfDay 28 = .ok (.iload_n 1, 1) := by decide +kernel
theorem dX3_openTicksOfDay_29 : decode cX3_openTicksOfDay 29 = .ok (.ireturn, 1) := by decide +kernel
theorem dX3_waitForOpening_0 : decode cX3_waitForOpening 0 = .ok (.iconst 0, 1) := by decide +kernel
theorem dX3_waitForOpening_1 : decode cX3_waitForOpening 1 = .ok (.istore_n 1, 1) := by decide +kernel
theorem dX3_waitForOpening_2 : decode cX3_waitForOpening 2 = .ok (.iload_n 1, 1) := by decide +kernel
theorem dX3_waitForOpening_3 : decode cX3_waitForOpening 3 = .ok (.bipush 96, 2) := by decide +kernel
theorem dX3_waitForOpening_5 : decode cX3_waitForOpening 5 = .ok (.if_icmp .ge 27, 3) := by decide +kernel
theorem dX3_waitForOpening_8 : decode cX3_waitForOpening 8 = .ok (.aload_n 0, 1) := by decide +kernel
theorem dX3_waitForOpening_9 : decode cX3_waitForOpening 9 = .ok (.aload_n 0, 1) := by decide +kernel
theorem dX3_waitForOpening_10 : decode cX3_waitForOpening 10 = .ok (.getfield 9, 3) := by decide +kernel
theorem dX3_waitForOpening_13 : decode cX3_waitForOpening 13 = .ok (.iload_n 1, 1) := by decide +kernel
theorem dX3_waitForOpening_14 : decode cX3_waitForOpening 14 = .ok (.iadd, 1) := by decide +kernel
theorem dX3_waitForOpening_15 : decode cX3_waitForOpening 15 = .ok (.bipush 96, 2) := by decide +kernel
theorem dX3_waitForOpening_17 : decode cX3_waitForOpening 17 = .ok (.irem, 1) := by decide +kernel
theorem dX3_waitForOpening_18 : decode cX3_waitForOpening 18 = .ok (.invokevirtual 25, 3) := by decide +kernel
theorem dX3_waitForOpening_21 : decode cX3_waitForOpening 21 = .ok (.ifCond .eq 5, 3) := by decide +kernel
theorem dX3_waitForOpening_24 : decode cX3_waitForOpening 24 = .ok (.iload_n 1, 1) := by decide +kernel
theorem dX3_waitForOpening_25 : decode cX3_waitForOpening 25 = .ok (.ireturn, 1) := by decide +kernel
theorem dX3_waitForOpening_26 : decode cX3_waitForOpening 26 = .ok (.iinc 1 1, 3) := by decide +kernel
theorem dX3_waitForOpening_29 : decode cX3_waitForOpening 29 = .ok (.goto (-27), 3) := by decide +kernel
theorem dX3_waitForOpening_32 : decode cX3_waitForOpening 32 = .ok (.iconst (-1), 1) := by decide +kernel
theorem dX3_waitForOpening_33 : decode cX3_waitForOpening 33 = .ok (.ireturn, 1) := by decide +kernel
theorem dX4_init_0 : decode cX4_init 0 = .ok (.aload_n 0, 1) := by decide +kernel
theorem dX4_init_1 : decode cX4_init 1 = .ok (.invokespecial 3, 3) := by decide +kernel
theorem dX4_init_4 : decode cX4_init 4 = .ok (.aload_n 0, 1) := by decide +kernel
theorem dX4_init_5 : decode cX4_init 5 = .ok (.new 9, 3) := by decide +kernel
theorem dX4_init_8 : decode cX4_init 8 = .ok (.dup, 1) := by decide +kernel
theorem dX4_init_9 : decode cX4_init 9 = .ok (.invokespecial 11, 3) := by decide +kernel
theorem dX4_init_12 : decode cX4_init 12 = .ok (.putfield 12, 3) := by decide +kernel
theorem dX4_init_15 : decode cX4_init 15 = .ok (.aload_n 0, 1) := by decide +kernel
theorem dX4_init_16 : decode cX4_init 16 = .ok (.new 18, 3) := by decide +kernel
theorem dX4_init_19 : decode cX4_init 19 = .ok (.dup, 1) := by decide +kernel
theorem dX4_init_20 : decode cX4_init 20 = .ok (.invokespecial 20, 3) := by decide +kernel
theorem dX4_init_23 : decode cX4_init 23 = .ok (.putfield 21, 3) := by decide +kernel
theorem dX4_init_26 : decode cX4_init 26 = .ok (.aload_n 0, 1) := by decide +kernel
theorem dX4_init_27 : decode cX4_init 27 = .ok (.new 25, 3) := by decide +kernel
theorem dX4_init_30 : decode cX4_init 30 = .ok (.dup, 1) := by decide +kernel
theorem dX4_init_31 : decode cX4_init 31 = .ok (.invokespecial 27, 3) := by decide +kernel
theorem dX4_init_34 : decode cX4_init 34 = .ok (.putfield 28, 3) := by decide +kernel
theorem dX4_init_37 : decode cX4_init 37 = .ok (.aload_n 0, 1) := by decide +kernel
theorem dX4_init_38 : decode cX4_init 38 = .ok (.new 32, 3) := by decide +kernel
theorem dX4_init_41 : decode cX4_init 41 = .ok (.dup, 1) := by decide +kernel
theorem dX4_init_42 : decode cX4_init 42 = .ok (.invokespecial 34, 3) := by decide +kernel
theorem dX4_init_45 : decode cX4_init 45 = .ok (.putfield 35, 3) := by decide +kernel
theorem dX4_init_48 : decode cX4_init 48 = .ok (.aload_n 0, 1) := by decide +kernel
theorem dX4_init_49 : decode cX4_init 49 = .ok (.new 39, 3) := by decide +kernel
theorem dX4_init_52 : decode cX4_init 52 = .ok (.dup, 1) := by decide +kernel
theorem dX4_init_53 : decode cX4_init 53 = .ok (.invokespecial 41, 3) := by decide +kernel
theorem dX4_init_56 : decode cX4_init 56 = .ok (.putfield 42, 3) := by decide +kernel
theorem dX4_init_59 : decode cX4_init 59 = .ok (.aload_n 0, 1) := by decide +kernel
theorem dX4_init_60 : decode cX4_init 60 = .ok (.new 46, 3) := by decide +kernel
theorem dX4_init_63 : decode cX4_init 63 = .ok (.dup, 1) := by decide +kernel
theorem dX4_init_64 : decode cX4_init 64 = .ok (.invokespecial 48, 3) := by decide +kernel
theorem dX4_init_67 : decode cX4_init 67 = .ok (.putfield 49, 3) := by decide +kernel
theorem dX4_init_70 : decode cX4_init 70 = .ok (.return_, 1) := by decide +kernel
theorem dX4_reset_0 : decode cX4_reset 0 = .ok (.aload_n 0, 1) := by decide +kernel
theorem dX4_reset_1 : decode cX4_reset 1 = .ok (.getfield 12, 3) := by decide +kernel
theorem dX4_reset_4 : decode cX4_reset 4 = .ok (.invokevirtual 53, 3) := by decide +kernel
theorem dX4_reset_7 : decode cX4_reset 7 = .ok (.aload_n 0, 1) := by decide +kernel
theorem dX4_reset_8 : decode cX4_reset 8 = .ok (.getfield 21, 3) := by decide +kernel
theorem dX4_reset_11 : decode cX4_reset 11 = .ok (.invokevirtual 56, 3) := by decide +kernel
theorem dX4_reset_14 : decode cX4_reset 14 = .ok (.aload_n 0, 1) := by decide +kernel
theorem dX4_reset_15 : decode cX4_reset 15 = .ok (.getfield 28, 3) := by decide +kernel
theorem dX4_reset_18 : decode cX4_reset 18 = .ok (.iconst 0, 1) := by decide +kernel
theorem dX4_reset_19 : decode cX4_reset 19 = .ok (.putfield 57, 3) := by decide +kernel
theorem dX4_reset_22 : decode cX4_reset 22 = .ok (.aload_n 0, 1) := by decide +kernel
theorem dX4_reset_23 : decode cX4_reset 23 = .ok (.getfield 35, 3) := by decide +kernel
theorem dX4_reset_26 : decode cX4_reset 26 = .ok (.iconst 0, 1) := by decide +kernel
theorem dX4_reset_27 : decode cX4_reset 27 = .ok (.putfield 61, 3) := by decide +kernel
theorem dX4_reset_30 : decode cX4_reset 30 = .ok (.aload_n 0, 1) := by decide +kernel
theorem dX4_reset_31 : decode cX4_reset 31 = .ok (.getfield 42, 3) := by decide +kernel
theorem dX4_reset_34 : decode cX4_reset 34 = .ok (.iconst 0, 1) := by decide +kernel
theorem dX4_reset_35 : decode cX4_reset 35 = .ok (.putfield 62, 3) := by decide +kernel
theorem dX4_reset_38 : decode cX4_reset 38 = .ok (.aload_n 0, 1) := by decide +kernel
theorem dX4_reset_39 : decode cX4_reset 39 = .ok (.getfield 49, 3) := by decide +kernel
theorem dX4_reset_42 : decode cX4_reset 42 = .ok (.invokevirtual 63, 3) := by decide +kernel
theorem dX4_reset_45 : decode cX4_reset 45 = .ok (.aload_n 0, 1) := by decide +kernel
theorem dX4_reset_46 : decode cX4_reset 46 = .ok (.iconst 1, 1) := by decide +kernel
theorem dX4_reset_47 : decode cX4_reset 47 = .ok (.putfield 64, 3) := by decide +kernel
theorem dX4_reset_50 : decode cX4_reset 50 = .ok (.return_, 1) := by decide +kernel
theorem dX4_copyFrom_0 : decode cX4_copyFrom 0 = .ok (.aload_n 0, 1) := by decide +kernel
theorem dX4_copyFrom_1 : decode cX4_copyFrom 1 = .ok (.getfield 12, 3) := by decide +kernel
theorem dX4_copyFrom_4 : decode cX4_copyFrom 4 = .ok (.aload_n 1, 1) := by decide +kernel
theorem dX4_copyFrom_5 : decode cX4_copyFrom 5 = .ok (.getfield 12, 3) := by decide +kernel
theorem dX4_copyFrom_8 : decode cX4_copyFrom 8 = .ok (.invokevirtual 67, 3) := by decide +kernel
theorem dX4_copyFrom_11 : decode cX4_copyFrom 11 = .ok (.aload_n 0, 1) := by decide +kernel
theorem dX4_copyFrom_12 : decode cX4_copyFrom 12 = .ok (.getfield 21, 3) := by decide +kernel
theorem dX4_copyFrom_15 : decode cX4_copyFrom 15 = .ok (.aload_n 1, 1) := by decide +kernel
theorem dX4_copyFrom_16 : decode cX4_copyFrom 16 = .ok (.getfield 21, 3) := by decide +kernel
theorem dX4_copyFrom_19 : decode cX4_copyFrom 19 = .ok (.invokevirtual 71, 3) := by decide +kernel
theorem dX4_copyFrom_22 : decode cX4_copyFrom 22 = .ok (.aload_n 0, 1) := by decide +kernel
theorem dX4_copyFrom_23 : decode cX4_copyFrom 23 = .ok (.getfield 28, 3) := by decide +kernel
theorem dX4_copyFrom_26 : decode cX4_copyFrom 26 = .ok (.aload_n 1, 1) := by decide +kernel
theorem dX4_copyFrom_27 : decode cX4_copyFrom 27 = .ok (.getfield 28, 3) := by decide +kernel
theorem dX4_copyFrom_30 : decode cX4_copyFrom 30 = .ok (.invokevirtual 74, 3) := by decide +kernel
theorem dX4_copyFrom_33 : decode cX4_copyFrom 33 = .ok (.aload_n 0, 1) := by decide +kernel
theorem dX4_copyFrom_34 : decode cX4_copyFrom 34 = .ok (.getfield 35, 3) := by decide +kernel
theorem dX4_copyFrom_37 : decode cX4_copyFrom 37 = .ok (.aload_n 1, 1) := by decide +kernel
theorem dX4_copyFrom_38 : decode cX4_copyFrom 38 = .ok (.getfield 35, 3) := by decide +kernel
theorem dX4_copyFrom_41 : decode cX4_copyFrom 41 = .ok (.invokevirtual 77, 3) := by decide +kernel
theorem dX4_copyFrom_44 : decode cX4_copyFrom 44 = .ok (.aload_n 0, 1) := by decide +kernel
theorem dX4_copyFrom_45 : decode cX4_copyFrom 45 = .ok (.getfield 42, 3) := by decide +kernel
theorem dX4_copyFrom_48 : decode cX4_copyFrom 48 = .ok (.aload_n 1, 1) := by decide +kernel
theorem dX4_copyFrom_49 : decode cX4_copyFrom 49 = .ok (.getfield 42, 3) := by decide +kernel
theorem dX4_copyFrom_52 : decode cX4_copyFrom 52 = .ok (.invokevirtual 80, 3) := by decide +kernel
theorem dX4_copyFrom_55 : decode cX4_copyFrom 55 = .ok (.aload_n 0, 1) := by decide +kernel
theorem dX4_copyFrom_56 : decode cX4_copyFrom 56 = .ok (.getfield 49, 3) := by decide +kernel
theorem dX4_copyFrom_59 : decode cX4_copyFrom 59 = .ok (.aload_n 1, 1) := by decide +kernel
theorem dX4_copyFrom_60 : decode cX4_copyFrom 60 = .ok (.getfield 49, 3) := by decide +kernel
theorem dX4_copyFrom_63 : decode cX4_copyFrom 63 = .ok (.invokevirtual 83, 3) := by decide +kernel
theorem dX4_copyFrom_66 : decode cX4_copyFrom 66 = .ok (.aload_n 0, 1) := by decide +kernel
theorem dX4_copyFrom_67 : decode cX4_copyFrom 67 = .ok (.aload_n 1, 1) := by decide +kernel
theorem dX4_copyFrom_68 : decode cX4_copyFrom 68 = .ok (.getfield 64, 3) := by decide +kernel
theorem dX4_copyFrom_71 : decode cX4_copyFrom 71 = .ok (.putfield 64, 3) := by decide +kernel
theorem dX4_copyFrom_74 : decode cX4_copyFrom 74 = .ok (.return_, 1) := by decide +kernel
theorem dX4_letTicksPass_0 : decode cX4_letTicksPass 0 = .ok (.aload_n 0, 1) := by decide +kernel
theorem dX4_letTicksPass_1 : decode cX4_letTicksPass 1 = .ok (.getfield 12, 3) := by decide +kernel
theorem dX4_letTicksPass_4 : decode cX4_letTicksPass 4 = .ok (.invokevirtual 86, 3) := by decide +kernel
theorem dX4_letTicksPass_7 : decode cX4_letTicksPass 7 = .ok (.istore_n 2, 1) := by decide +kernel
theorem dX4_letTicksPass_8 : decode cX4_letTicksPass 8 = .ok (.aload_n 0, 1) := by decide +kernel
theorem dX4_letTicksPass_9 : decode cX4_letTicksPass 9 = .ok (.getfield 12, 3) := by decide +kernel
theorem dX4_letTicksPass_12 : decode cX4_letTicksPass 12 = .ok (.dup, 1) := by decide +kernel
theorem dX4_letTicksPass_13 : decode cX4_letTicksPass 13 = .ok (.getfield 90, 3) := by decide +kernel
theorem dX4_letTicksPass_16 : decode cX4_letTicksPass 16 = .ok (.iload_n 1, 1) := by decide +kernel
theorem dX4_letTicksPass_17 : decode cX4_letTicksPass 17 = .ok (.iadd, 1) := by decide +kernel
theorem dX4_letTicksPass_18 : decode cX4_letTicksPass 18 = .ok (.putfield 90, 3) := by decide +kernel
theorem dX4_letTicksPass_21 : decode cX4_letTicksPass 21 = .ok (.aload_n 0, 1) := by decide +kernel
theorem dX4_letTicksPass_22 : decode cX4_letTicksPass 22 = .ok (.getfield 28, 3) := by decide +kernel
theorem dX4_letTicksPass_25 : decode cX4_letTicksPass 25 = .ok (.invokevirtual 93, 3) := by decide +kernel
theorem dX4_letTicksPass_28 : decode cX4_letTicksPass 28 = .ok (.iload_n 2, 1) := by decide +kernel
theorem dX4_letTicksPass_29 : decode cX4_letTicksPass 29 = .ok (.iconst 1, 1) := by decide +kernel
theorem dX4_letTicksPass_30 : decode cX4_letTicksPass 30 = .ok (.iadd, 1) := by decide +kernel
theorem dX4_letTicksPass_31 : decode cX4_letTicksPass 31 = .ok (.istore_n 3, 1) := by decide +kernel
theorem dX4_letTicksPass_32 : decode cX4_letTicksPass 32 = .ok (.iload_n 3, 1) := by decide +kernel
theorem dX4_letTicksPass_33 : decode cX4_letTicksPass 33 = .ok (.aload_n 0, 1) := by decide +kernel
theorem dX4_letTicksPass_34 : decode cX4_letTicksPass 34 = .ok (.getfield 12, 3) := by decide +kernel
theorem dX4_letTicksPass_37 : decode cX4_letTicksPass 37 = .ok (.invokevirtual 86, 3) := by decide +kernel
theorem dX4_letTicksPass_40 : decode cX4_letTicksPass 40 = .ok (.if_icmp .gt 17, 3) := by decide +kernel
theorem dX4_letTicksPass_43 : decode cX4_letTicksPass 43 = .ok (.aload_n 0, 1) := by decide +kernel
theorem dX4_letTicksPass_44 : decode cX4_letTicksPass 44 = .ok (.getfield 28, 3) := by decide +kernel
theorem dX4_letTicksPass_47 : decode cX4_letTicksPass 47 = .ok (.iload_n 3, 1) := by decide +kernel
theorem dX4_letTicksPass_48 : decode cX4_letTicksPass 48 = .ok (.invokevirtual 96, 3) := by decide +kernel
theorem dX4_letTicksPass_51 : decode cX4_letTicksPass 51 = .ok (.iinc 3 1, 3) := by decide +kernel
theorem dX4_letTicksPass_54 : decode cX4_letTicksPass 54 = .ok (.goto (-22), 3) := by decide +kernel
theorem dX4_letTicksPass_57 : decode cX4_letTicksPass 57 = .ok (.return_, 1) := by decide +kernel
theorem dX4_canSellPass_0 : decode cX4_canSellPass 0 = .ok (.aload_n 0, 1) := by decide +kernel
theorem dX4_canSellPass_1 : decode cX4_canSellPass 1 = .ok (.getfield 35, 3) := by decide +kernel
theorem dX4_canSellPass_4 : decode cX4_canSellPass 4 = .ok (.invokevirtual 100, 3) := by decide +kernel
theorem dX4_canSellPass_7 : decode cX4_canSellPass 7 = .ok (.ifCond .eq 17, 3) := by decide +kernel
theorem dX4_canSellPass_10 : decode cX4_canSellPass 10 = .ok (.aload_n 0, 1) := by decide +kernel
theorem dX4_canSellPass_11 : decode cX4_canSellPass 11 = .ok (.getfield 42, 3) := by decide +kernel
theorem dX4_canSellPass_14 : decode cX4_canSellPass 14 = .ok (.invokevirtual 104, 3) := by decide +kernel
theorem dX4_canSellPass_17 : decode cX4_canSellPass 17 = .ok (.ifCond .eq 7, 3) := by decide +kernel
theorem dX4_canSellPass_20 : decode cX4_canSellPass 20 = .ok (.iconst 1, 1) := by decide +kernel
theorem dX4_canSellPass_21 : decode cX4_canSellPass 21 = .ok (.goto 4, 3) := by decide +kernel
theorem dX4_canSellPass_24 : decode cX4_canSellPass 24 = .ok (.iconst 0, 1) := by decide +kernel
theorem dX4_canSellPass_25 : decode cX4_canSellPass 25 = .ok (.ireturn, 1) := by decide +kernel
theorem dX4_sellPass_0 : decode cX4_sellPass 0 = .ok (.aload_n 0, 1) := by decide +kernel
theorem dX4_sellPass_1 : decode cX4_sellPass 1 = .ok (.getfield 21, 3) := by decide +kernel
theorem dX4_sellPass_4 : decode cX4_sellPass 4 = .ok (.iload_n 1, 1) := by decide +kernel
theorem dX4_sellPass_5 : decode cX4_sellPass 5 = .ok (.iload_n 3, 1) := by decide +kernel
theorem dX4_sellPass_6 : decode cX4_sellPass 6 = .ok (.iload 4, 2) := by decide +kernel
theorem dX4_sellPass_8 : decode cX4_sellPass 8 = .ok (.invokevirtual 105, 3) := by decide +kernel
theorem dX4_sellPass_11 : decode cX4_sellPass 11 = .ok (.istore 5, 2) := by decide +kernel
theorem dX4_sellPass_13 : decode cX4_sellPass 13 = .ok (.aload_n 0, 1) := by decide +kernel
theorem dX4_sellPass_14 : decode cX4_sellPass 14 = .ok (.getfield 35, 3) := by decide +kernel
theorem dX4_sellPass_17 : decode cX4_sellPass 17 = .ok (.iload_n 1, 1) := by decide +kernel
theorem dX4_sellPass_18 : decode cX4_sellPass 18 = .ok (.iload_n 2, 1) := by decide +kernel
theorem dX4_sellPass_19 : decode cX4_sellPass 19 = .ok (.iload_n 3, 1) := by decide +kernel
theorem dX4_sellPass_20 : decode cX4_sellPass 20 = .ok (.iload 4, 2) := by decide +kernel
theorem dX4_sellPass_22 : decode cX4_sellPass 22 = .ok (.iload 5, 2) := by decide +kernel
theorem dX4_sellPass_24 : decode cX4_sellPass 24 = .ok (.invokevirtual 109, 3) := by decide +kernel
theorem dX4_sellPass_27 : decode cX4_sellPass 27 = .ok (.istore 6, 2) := by decide +kernel
theorem dX4_sellPass_29 : decode cX4_sellPass 29 = .ok (.aload_n 0, 1) := by decide +kernel
theorem dX4_sellPass_30 : decode cX4_sellPass 30 = .ok (.getfield 35, 3) := by decide +kernel
theorem dX4_sellPass_33 : decode cX4_sellPass 33 = .ok (.getfield 113, 3) := by decide +kernel
theorem dX4_sellPass_36 : decode cX4_sellPass 36 = .ok (.iload 6, 2) := by decide +kernel
theorem dX4_sellPass_38 : decode cX4_sellPass 38 = .ok (.aload_n 0, 1) := by decide +kernel
theorem dX4_sellPass_39 : decode cX4_sellPass 39 = .ok (.getfield 42, 3) := by decide +kernel
theorem dX4_sellPass_42 : decode cX4_sellPass 42 = .ok (.iload 6, 2) := by decide +kernel
theorem dX4_sellPass_44 : decode cX4_sellPass 44 = .ok (.invokevirtual 117, 3) := by decide +kernel
theorem dX4_sellPass_47 : decode cX4_sellPass 47 = .ok (.iastore, 1) := by decide +kernel
theorem dX4_sellPass_48 : decode cX4_sellPass 48 = .ok (.aload_n 0, 1) := by decide +kernel
theorem dX4_sellPass_49 : decode cX4_sellPass 49 = .ok (.getfield 49, 3) := by decide +kernel
theorem dX4_sellPass_52 : decode cX4_sellPass 52 = .ok (.dup, 1) := by decide +kernel
theorem dX4_sellPass_53 : decode cX4_sellPass 53 = .ok (.getfield 120, 3) := by decide +kernel
theorem dX4_sellPass_56 : decode cX4_sellPass 56 = .ok (.iload 5, 2) := by decide +kernel
theorem dX4_sellPass_58 : decode cX4_sellPass 58 = .ok (.iadd, 1) := by decide +kernel
theorem dX4_sellPass_59 : decode cX4_sellPass 59 = .ok (.putfield 120, 3) := by decide +kernel
theorem dX4_sellPass_62 : decode cX4_sellPass 62 = .ok (.iload 6, 2) := by decide +kernel
theorem dX4_sellPass_64 : decode cX4_sellPass 64 = .ok (.ireturn, 1) := by decide +kernel
theorem dX4_canChangePass_0 : decode cX4_canChangePass 0 = .ok (.aload_n 0, 1) := by decide +kernel
theorem dX4_canChangePass_1 : decode cX4_canChangePass 1 = .ok (.getfield 35, 3) := by decide +kernel
theorem dX4_canChangePass_4 : decode cX4_canChangePass 4 = .ok (.getfield 123, 3) := by decide +kernel
theorem dX4_canChangePass_7 : decode cX4_canChangePass 7 = .ok (.iload_n 1, 1) := by decide +kernel
theorem dX4_canChangePass_8 : decode cX4_canChangePass 8 = .ok (.baload, 1) := by decide +kernel
theorem dX4_canChangePass_9 : decode cX4_canChangePass 9 = .ok (.ifCond .ne 25, 3) := by decide +kernel
theorem dX4_canChangePass_12 : decode cX4_canChangePass 12 = .ok (.aload_n 0, 1) := by decide +kernel
theorem dX4_canChangePass_13 : decode cX4_canChangePass 13 = .ok (.getfield 35, 3) := by decide +kernel
theorem dX4_canChangePass_16 : decode cX4_canChangePass 16 = .ok (.iload_n 1, 1) := by decide +kernel
theorem dX4_canChangePass_17 : decode cX4_canChangePass 17 = .ok (.invokevirtual 127, 3) := by decide +kernel
theorem dX4_canChangePass_20 : decode cX4_canChangePass 20 = .ok (.aload_n 0, 1) := by decide +kernel
theorem dX4_canChangePass_21 : decode cX4_canChangePass 21 = .ok (.getfield 12, 3) := by decide +kernel
theorem dX4_canChangePass_24 : decode cX4_canChangePass 24 = .ok (.invokevirtual 86, 3) := by decide +kernel
theorem dX4_canChangePass_27 : decode cX4_canChangePass 27 = .ok (.if_icmp .lt 7, 3) := by decide +kernel
theorem dX4_canChangePass_30 : decode cX4_canChangePass 30 = .ok (.iconst 1, 1) := by decide +kernel
theorem dX4_canChangePass_31 : decode cX4_canChangePass 31 = .ok (.goto 4, 3) := by decide +kernel
theorem dX4_canChangePass_34 : decode cX4_canChangePass 34 = .ok (.iconst 0, 1) := by decide +kernel
theorem dX4_canChangePass_35 : decode cX4_canChangePass 35 = .ok (.ireturn, 1) := by decide +kernel
theorem dX4_payNewPrice_0 : decode cX4_payNewPrice 0 = .ok (.aload_n 0, 1) := by decide +kernel
theorem dX4_payNewPrice_1 : decode cX4_payNewPrice 1 = .ok (.getfield 21, 3) := by decide +kernel
theorem dX4_payNewPrice_4 : decode cX4_payNewPrice 4 = .ok (.aload_n 0, 1) := by decide +kernel
theorem dX4_payNewPrice_5 : decode cX4_payNewPrice 5 = .ok (.getfield 35, 3) := by decide +kernel
theorem dX4_payNewPrice_8 : decode cX4_payNewPrice 8 = .ok (.getfield 130, 3) := by decide +kernel
theorem dX4_payNewPrice_11 : decode cX4_payNewPrice 11 = .ok (.iload_n 1, 1) := by decide +kernel
theorem dX4_payNewPrice_12 : decode cX4_payNewPrice 12 = .ok (.iaload, 1) := by decide +kernel
theorem dX4_payNewPrice_13 : decode cX4_payNewPrice 13 = .ok (.aload_n 0, 1) := by decide +kernel
theorem dX4_payNewPrice_14 : decode cX4_payNewPrice 14 = .ok (.getfield 35, 3) := by decide +kernel
theorem dX4_payNewPrice_17 : decode cX4_payNewPrice 17 = .ok (.getfield 133, 3) := by decide +kernel
theorem dX4_payNewPrice_20 : decode cX4_payNewPrice 20 = .ok (.iload_n 1, 1) := by decide +kernel
theorem dX4_payNewPrice_21 : decode cX4_payNewPrice 21 = .ok (.iaload, 1) := by decide +kernel
theorem dX4_payNewPrice_22 : decode cX4_payNewPrice 22 = .ok (.aload_n 0, 1) := by decide +kernel
theorem dX4_payNewPrice_23 : decode cX4_payNewPrice 23 = .ok (.getfield 35, 3) := by decide +kernel
theorem dX4_payNewPrice_26 : decode cX4_payNewPrice 26 = .ok (.getfield 136, 3) := by decide +kernel
theorem dX4_payNewPrice_29 : decode cX4_payNewPrice 29 = .ok (.iload_n 1, 1) := by decide +kernel
theorem dX4_payNewPrice_30 : decode cX4_payNewPrice 30 = .ok (.iaload, 1) := by decide +kernel
theorem dX4_payNewPrice_31 : decode cX4_payNewPrice 31 = .ok (.invokevirtual 105, 3) := by decide +kernel
theorem dX4_payNewPrice_34 : decode cX4_payNewPrice 34 = .ok (.istore_n 2, 1) := by decide +kernel
theorem dX4_payNewPrice_35 : decode cX4_payNewPrice 35 = .ok (.iconst 0, 1) := by decide +kernel
theorem dX4_payNewPrice_36 : decode cX4_payNewPrice 36 = .ok (.iload_n 2, 1) := by decide +kernel
theorem dX4_payNewPrice_37 : decode cX4_payNewPrice 37 = .ok (.aload_n 0, 1) := by decide +kernel
theorem dX4_payNewPrice_38 : decode cX4_payNewPrice 38 = .ok (.getfield 35, 3) := by decide +kernel
theorem dX4_payNewPrice_41 : decode cX4_payNewPrice 41 = .ok (.getfield 139, 3) := by decide +kernel
theorem dX4_payNewPrice_44 : decode cX4_payNewPrice 44 = .ok (.iload_n 1, 1) := by decide +kernel
theorem dX4_payNewPrice_45 : decode cX4_payNewPrice 45 = .ok (.iaload, 1) := by decide +kernel
theorem dX4_payNewPrice_46 : decode cX4_payNewPrice 46 = .ok (.isub, 1) := by decide +kernel
theorem dX4_payNewPrice_47 : decode cX4_payNewPrice 47 = .ok (.invokestatic 142, 3) := by decide +kernel
theorem dX4_payNewPrice_50 : decode cX4_payNewPrice 50 = .ok (.istore_n 3, 1) := by decide +kernel
theorem dX4_payNewPrice_51 : decode cX4_payNewPrice 51 = .ok (.aload_n 0, 1) := by decide +kernel
theorem dX4_payNewPrice_52 : decode cX4_payNewPrice 52 = .ok (.getfield 35, 3) := by decide +kernel
theorem dX4_payNewPrice_55 : decode cX4_payNewPrice 55 = .ok (.getfield 139, 3) := by decide +kernel
theorem dX4_payNewPrice_58 : decode cX4_payNewPrice 58 = .ok (.iload_n 1, 1) := by decide +kernel
theorem dX4_payNewPrice_59 : decode cX4_payNewPrice 59 = .ok (.dup2, 1) := by decide +kernel
theorem dX4_payNewPrice_60 : decode cX4_payNewPrice 60 = .ok (.iaload, 1) := by decide +kernel
theorem dX4_payNewPrice_61 : decode cX4_payNewPrice 61 = .ok (.iload_n 3, 1) := by decide +kernel
theorem dX4_payNewPrice_62 : decode cX4_payNewPrice 62 = .ok (.iadd, 1) := by decide +kernel
theorem dX4_payNewPrice_63 : decode cX4_payNewPrice 63 = .ok (.iastore, 1) := by decide +kernel
theorem dX4_payNewPrice_64 : decode cX4_payNewPrice 64 = .ok (.aload_n 0, 1) := by decide +kernel
theorem dX4_payNewPrice_65 : decode cX4_payNewPrice 65 = .ok (.getfield 49, 3) := by decide +kernel
theorem dX4_payNewPrice_68 : decode cX4_payNewPrice 68 = .ok (.dup, 1) := by decide +kernel
theorem dX4_payNewPrice_69 : decode cX4_payNewPrice 69 = .ok (.getfield 120, 3) := by decide +kernel
theorem dX4_payNewPrice_72 : decode cX4_payNewPrice 72 = .ok (.iload_n 3, 1) := by decide +kernel
theorem dX4_payNewPrice_73 : decode cX4_payNewPrice 73 = .ok (.iadd, 1) := by decide +kernel
theorem dX4_payNewPrice_74 : decode cX4_payNewPrice 74 = .ok (.putfield 120, 3) := by decide +kernel
theorem dX4_payNewPrice_77 : decode cX4_payNewPrice 77 = .ok (.iload_n 3, 1) := by decide +kernel
theorem dX4_payNewPrice_78 : decode cX4_payNewPrice 78 = .ok (.ireturn, 1) := by decide +kernel
theorem dX4_blockCardOf_0 : decode cX4_blockCardOf 0 = .ok (.aload_n 0, 1) := by decide +kernel
theorem dX4_blockCardOf_1 : decode cX4_blockCardOf 1 = .ok (.getfield 35, 3) := by decide +kernel
theorem dX4_blockCardOf_4 : decode cX4_blockCardOf 4 = .ok (.getfield 113, 3) := by decide +kernel
theorem dX4_blockCardOf_7 : decode cX4_blockCardOf 7 = .ok (.iload_n 1, 1) := by decide +kernel
theorem dX4_blockCardOf_8 : decode cX4_blockCardOf 8 = .ok (.iaload, 1) := by decide +kernel
theorem dX4_blockCardOf_9 : decode cX4_blockCardOf 9 = .ok (.istore_n 2, 1) := by decide +kernel
theorem dX4_blockCardOf_10 : decode cX4_blockCardOf 10 = .ok (.aload_n 0, 1) := by decide +kernel
theorem dX4_blockCardOf_11 : decode cX4_blockCardOf 11 = .ok (.getfield 42, 3) := by decide +kernel
theorem dX4_blockCardOf_14 : decode cX4_blockCardOf 14 = .ok (.iload_n 2, 1) := by decide +kernel
theorem dX4_blockCardOf_15 : decode cX4_blockCardOf 15 = .ok (.invokevirtual 148, 3) := by decide +kernel
theorem dX4_blockCardOf_18 : decode cX4_blockCardOf 18 = .ok (.ifCond .eq 13, 3) := by decide +kernel
theorem dX4_blockCardOf_21 : decode cX4_blockCardOf 21 = .ok (.aload_n 0, 1) := by decide +kernel
theorem dX4_blockCardOf_22 : decode cX4_blockCardOf 22 = .ok (.getfield 42, 3) := by decide +kernel
theorem dX4_blockCardOf_25 : decode cX4_blockCardOf 25 = .ok (.getfield 152, 3) := by decide +kernel
theorem dX4_blockCardOf_28 : decode cX4_blockCardOf 28 = .ok (.iload_n 2, 1) := by decide +kernel
theorem dX4_blockCardOf_29 : decode cX4_blockCardOf 29 = .ok (.iconst 1, 1) := by decide +kernel
theorem dX4_blockCardOf_30 : decode cX4_blockCardOf 30 = .ok (.bastore, 1) := by decide +kernel
theorem dX4_blockCardOf_31 : decode cX4_blockCardOf 31 = .ok (.aload_n 0, 1) := by decide +kernel
theorem dX4_blockCardOf_32 : decode cX4_blockCardOf 32 = .ok (.getfield 35, 3) := by decide +kernel
theorem dX4_blockCardOf_35 : decode cX4_blockCardOf 35 = .ok (.getfield 113, 3) := by decide +kernel
theorem dX4_blockCardOf_38 : decode cX4_blockCardOf 38 = .ok (.iload_n 1, 1) := by decide +kernel
theorem dX4_blockCardOf_39 : decode cX4_blockCardOf 39 = .ok (.iconst (-1), 1) := by decide +kernel
theorem dX4_blockCardOf_40 : decode cX4_blockCardOf 40 = .ok (.iastore, 1) := by decide +kernel
theorem dX4_blockCardOf_41 : decode cX4_blockCardOf 41 = .ok (.iload_n 2, 1) := by decide +kernel
theorem dX4_blockCardOf_42 : decode cX4_blockCardOf 42 = .ok (.ireturn, 1) := by decide +kernel
theorem dX4_canReplaceCard_0 : decode cX4_canReplaceCard 0 = .ok (.aload_n 0, 1) := by decide +kernel
theorem dX4_canReplaceCard_1 : decode cX4_canReplaceCard 1 = .ok (.getfield 35, 3) := by decide +kernel
theorem dX4_canReplaceCard_4 : decode cX4_canReplaceCard 4 = .ok (.iload_n 1, 1) := by decide +kernel
theorem dX4_canReplaceCard_5 : decode cX4_canReplaceCard 5 = .ok (.invokevirtual 155, 3) := by decide +kernel
theorem dX4_canReplaceCard_8 : decode cX4_canReplaceCard 8 = .ok (.ifCond .ne 29, 3) := by decide +kernel
theorem dX4_canReplaceCard_11 : decode cX4_canReplaceCard 11 = .ok (.aload_n 0, 1) := by decide +kernel
theorem dX4_canReplaceCard_12 : decode cX4_canReplaceCard 12 = .ok (.getfield 35, 3) := by decide +kernel
theorem dX4_canReplaceCard_15 : decode cX4_canReplaceCard 15 = .ok (.getfield 123, 3) := by decide +kernel
theorem dX4_canReplaceCard_18 : decode cX4_canReplaceCard 18 = .ok (.iload_n 1, 1) := by decide +kernel
theorem dX4_canReplaceCard_19 : decode cX4_canReplaceCard 19 = .ok (.baload, 1) := by decide +kernel
theorem dX4_canReplaceCard_20 : decode cX4_canReplaceCard 20 = .ok (.ifCond .ne 17, 3) := by decide +kernel
theorem dX4_canReplaceCard_23 : decode cX4_canReplaceCard 23 = .ok (.aload_n 0, 1) := by decide +kernel
theorem dX4_canReplaceCard_24 : decode cX4_canReplaceCard 24 = .ok (.getfield 42, 3) := by decide +kernel
theorem dX4_canReplaceCard_27 : decode cX4_canReplaceCard 27 = .ok (.invokevirtual 104, 3) := by decide +kernel
theorem dX4_canReplaceCard_30 : decode cX4_canReplaceCard 30 = .ok (.ifCond .eq 7, 3) := by decide +kernel
theorem dX4_canReplaceCard_33 : decode cX4_canReplaceCard 33 = .ok (.iconst 1, 1) := by decide +kernel
theorem dX4_canReplaceCard_34 : decode cX4_canReplaceCard 34 = .ok (.goto 4, 3) := by decide +kernel
theorem dX4_canReplaceCard_37 : decode cX4_canReplaceCard 37 = .ok (.iconst 0, 1) := by decide +kernel
theorem dX4_canReplaceCard_38 : decode cX4_canReplaceCard 38 = .ok (.ireturn, 1) := by decide +kernel
theorem dX4_issueNewCard_0 : decode cX4_issueNewCard 0 = .ok (.aload_n 0, 1) := by decide +kernel
theorem dX4_issueNewCard_1 : decode cX4_issueNewCard 1 = .ok (.getfield 35, 3) := by decide +kernel
theorem dX4_issueNewCard_4 : decode cX4_issueNewCard 4 = .ok (.getfield 113, 3) := by decide +kernel
theorem dX4_issueNewCard_7 : decode cX4_issueNewCard 7 = .ok (.iload_n 1, 1) := by decide +kernel
theorem dX4_issueNewCard_8 : decode cX4_issueNewCard 8 = .ok (.aload_n 0, 1) := by decide +kernel
theorem dX4_issueNewCard_9 : decode cX4_issueNewCard 9 = .ok (.getfield 42, 3) := by decide +kernel
theorem dX4_issueNewCard_12 : decode cX4_issueNewCard 12 = .ok (.iload_n 1, 1) := by decide +kernel
theorem dX4_issueNewCard_13 : decode cX4_issueNewCard 13 = .ok (.invokevirtual 117, 3) := by decide +kernel
theorem dX4_issueNewCard_16 : decode cX4_issueNewCard 16 = .ok (.iastore, 1) := by decide +kernel
theorem dX4_issueNewCard_17 : decode cX4_issueNewCard 17 = .ok (.aload_n 0, 1) := by decide +kernel
theorem dX4_issueNewCard_18 : decode cX4_issueNewCard 18 = .ok (.getfield 49, 3) := by decide +kernel
theorem dX4_issueNewCard_21 : decode cX4_issueNewCard 21 = .ok (.dup, 1) := by decide +kernel
theorem dX4_issueNewCard_22 : decode cX4_issueNewCard 22 = .ok (.getfield 120, 3) := by decide +kernel
theorem dX4_issueNewCard_25 : decode cX4_issueNewCard 25 = .ok (.iconst 5, 1) := by decide +kernel
theorem dX4_issueNewCard_26 : decode cX4_issueNewCard 26 = .ok (.iadd, 1) := by decide +kernel
theorem dX4_issueNewCard_27 : decode cX4_issueNewCard 27 = .ok (.putfield 120, 3) := by decide +kernel
theorem dX4_issueNewCard_30 : decode cX4_issueNewCard 30 = .ok (.aload_n 0, 1) := by decide +kernel
theorem dX4_issueNewCard_31 : decode cX4_issueNewCard 31 = .ok (.getfield 35, 3) := by decide +kernel
theorem dX4_issueNewCard_34 : decode cX4_issueNewCard 34 = .ok (.getfield 113, 3) := by decide +kernel
theorem dX4_issueNewCard_37 : decode cX4_issueNewCard 37 = .ok (.iload_n 1, 1) := by decide +kernel
theorem dX4_issueNewCard_38 : decode cX4_issueNewCard 38 = .ok (.iaload, 1) := by decide +kernel
theorem dX4_issueNewCard_39 : decode cX4_issueNewCard 39 = .ok (.ireturn, 1) := by decide +kernel
theorem dX4_refundNow_0 : decode cX4_refundNow 0 = .ok (.aload_n 0, 1) := by decide +kernel
theorem dX4_refundNow_1 : decode cX4_refundNow 1 = .ok (.getfield 35, 3) := by decide +kernel
theorem dX4_refundNow_4 : decode cX4_refundNow 4 = .ok (.getfield 133, 3) := by decide +kernel
theorem dX4_refundNow_7 : decode cX4_refundNow 7 = .ok (.iload_n 1, 1) := by decide +kernel
theorem dX4_refundNow_8 : decode cX4_refundNow 8 = .ok (.iaload, 1) := by decide +kernel
theorem dX4_refundNow_9 : decode cX4_refundNow 9 = .ok (.istore_n 2, 1) := by decide +kernel
theorem dX4_refundNow_10 : decode cX4_refundNow 10 = .ok (.aload_n 0, 1) := by decide +kernel
theorem dX4_refundNow_11 : decode cX4_refundNow 11 = .ok (.getfield 35, 3) := by decide +kernel
theorem dX4_refundNow_14 : decode cX4_refundNow 14 = .ok (.getfield 123, 3) := by decide +kernel
theorem dX4_refundNow_17 : decode cX4_refundNow 17 = .ok (.iload_n 1, 1) := by decide +kernel
theorem dX4_refundNow_18 : decode cX4_refundNow 18 = .ok (.baload, 1) := by decide +kernel
theorem dX4_refundNow_19 : decode cX4_refundNow 19 = .ok (.ifCond .ne 7, 3) := by decide +kernel
theorem dX4_refundNow_22 : decode cX4_refundNow 22 = .ok (.iload_n 2, 1) := by decide +kernel
theorem dX4_refundNow_23 : decode cX4_refundNow 23 = .ok (.ifCond .ne 5, 3) := by decide +kernel
theorem dX4_refundNow_26 : decode cX4_refundNow 26 = .ok (.iconst 0, 1) := by decide +kernel
theorem dX4_refundNow_27 : decode cX4_refundNow 27 = .ok (.ireturn, 1) := by decide +kernel
theorem dX4_refundNow_28 : decode cX4_refundNow 28 = .ok (.aload_n 0, 1) := by decide +kernel
theorem dX4_refundNow_29 : decode cX4_refundNow 29 = .ok (.getfield 35, 3) := by decide +kernel
theorem dX4_refundNow_32 : decode cX4_refundNow 32 = .ok (.getfield 139, 3) := by decide +kernel
theorem dX4_refundNow_35 : decode cX4_refundNow 35 = .ok (.iload_n 1, 1) := by decide +kernel
theorem dX4_refundNow_36 : decode cX4_refundNow 36 = .ok (.iaload, 1) := by decide +kernel
theorem dX4_refundNow_37 : decode cX4_refundNow 37 = .ok (.aload_n 0, 1) := by decide +kernel
theorem dX4_refundNow_38 : decode cX4_refundNow 38 = .ok (.getfield 35, 3) := by decide +kernel
theorem dX4_refundNow_41 : decode cX4_refundNow 41 = .ok (.iload_n 1, 1) := by decide +kernel
theorem dX4_refundNow_42 : decode cX4_refundNow 42 = .ok (.aload_n 0, 1) := by decide +kernel
theorem dX4_refundNow_43 : decode cX4_refundNow 43 = .ok (.getfield 12, 3) := by decide +kernel
theorem dX4_refundNow_46 : decode cX4_refundNow 46 = .ok (.invokevirtual 86, 3) := by decide +kernel
theorem dX4_refundNow_49 : decode cX4_refundNow 49 = .ok (.invokevirtual 158, 3) := by decide +kernel
theorem dX4_refundNow_52 : decode cX4_refundNow 52 = .ok (.imul, 1) := by decide +kernel
theorem dX4_refundNow_53 : decode cX4_refundNow 53 = .ok (.iload_n 2, 1) := by decide +kernel
theorem dX4_refundNow_54 : decode cX4_refundNow 54 = .ok (.idiv, 1) := by decide +kernel
theorem dX4_refundNow_55 : decode cX4_refundNow 55 = .ok (.iconst 2, 1) := by decide +kernel
theorem dX4_refundNow_56 : decode cX4_refundNow 56 = .ok (.idiv, 1) := by decide +kernel
theorem dX4_refundNow_57 : decode cX4_refundNow 57 = .ok (.ireturn, 1) := by decide +kernel
theorem dX4_takeBackPass_0 : decode cX4_takeBackPass 0 = .ok (.aload_n 0, 1) := by decide +kernel
theorem dX4_takeBackPass_1 : decode cX4_takeBackPass 1 = .ok (.iload_n 1, 1) := by decide +kernel
theorem dX4_takeBackPass_2 : decode cX4_takeBackPass 2 = .ok (.invokevirtual 161, 3) := by decide +kernel
theorem dX4_takeBackPass_5 : decode cX4_takeBackPass 5 = .ok (.istore_n 2, 1) := by decide +kernel
theorem dX4_takeBackPass_6 : decode cX4_takeBackPass 6 = .ok (.iload_n 2, 1) := by decide +kernel
theorem dX4_takeBackPass_7 : decode cX4_takeBackPass 7 = .ok (.aload_n 0, 1) := by decide +kernel
theorem dX4_takeBackPass_8 : decode cX4_takeBackPass 8 = .ok (.getfield 35, 3) := by decide +kernel
theorem dX4_takeBackPass_11 : decode cX4_takeBackPass 11 = .ok (.getfield 164, 3) := by decide +kernel
theorem dX4_takeBackPass_14 : decode cX4_takeBackPass 14 = .ok (.iload_n 1, 1) := by decide +kernel
theorem dX4_takeBackPass_15 : decode cX4_takeBackPass 15 = .ok (.iaload, 1) := by decide +kernel
theorem dX4_takeBackPass_16 : decode cX4_takeBackPass 16 = .ok (.invokestatic 167, 3) := by decide +kernel
theorem dX4_takeBackPass_19 : decode cX4_takeBackPass 19 = .ok (.istore_n 3, 1) := by decide +kernel
theorem dX4_takeBackPass_20 : decode cX4_takeBackPass 20 = .ok (.aload_n 0, 1) := by decide +kernel
theorem dX4_takeBackPass_21 : decode cX4_takeBackPass 21 = .ok (.getfield 49, 3) := by decide +kernel
theorem dX4_takeBackPass_24 : decode cX4_takeBackPass 24 = .ok (.dup, 1) := by decide +kernel
theorem dX4_takeBackPass_25 : decode cX4_takeBackPass 25 = .ok (.getfield 170, 3) := by decide +kernel
theorem dX4_takeBackPass_28 : decode cX4_takeBackPass 28 = .ok (.iload_n 2, 1) := by decide +kernel
theorem dX4_takeBackPass_29 : decode cX4_takeBackPass 29 = .ok (.iadd, 1) := by decide +kernel
theorem dX4_takeBackPass_30 : decode cX4_takeBackPass 30 = .ok (.putfield 170, 3) := by decide +kernel
theorem dX4_takeBackPass_33 : decode cX4_takeBackPass 33 = .ok (.aload_n 0, 1) := by decide +kernel
theorem dX4_takeBackPass_34 : decode cX4_takeBackPass 34 = .ok (.iload_n 1, 1) := by decide +kernel
theorem dX4_takeBackPass_35 : decode cX4_takeBackPass 35 = .ok (.iload_n 3, 1) := by decide +kernel
theorem dX4_takeBackPass_36 : decode cX4_takeBackPass 36 = .ok (.invokevirtual 173, 3) := by decide +kernel
theorem dX4_takeBackPass_39 : decode cX4_takeBackPass 39 = .ok (.aload_n 0, 1) := by decide +kernel
theorem dX4_takeBackPass_40 : decode cX4_takeBackPass 40 = .ok (.iload_n 1, 1) := by decide +kernel
theorem dX4_takeBackPass_41 : decode cX4_takeBackPass 41 = .ok (.invokevirtual 177, 3) := by decide +kernel
theorem dX4_takeBackPass_44 : decode cX4_takeBackPass 44 = .ok (.pop, 1) := by decide +kernel
theorem dX4_takeBackPass_45 : decode cX4_takeBackPass 45 = .ok (.aload_n 0, 1) := by decide +kernel
theorem dX4_takeBackPass_46 : decode cX4_takeBackPass 46 = .ok (.getfield 35, 3) := by decide +kernel
theorem dX4_takeBackPass_49 : decode cX4_takeBackPass 49 = .ok (.getfield 123, 3) := by decide +kernel
theorem dX4_takeBackPass_52 : decode cX4_takeBackPass 52 = .ok (.iload_n 1, 1) := by decide +kernel
theorem dX4_takeBackPass_53 : decode cX4_takeBackPass 53 = .ok (.iconst 1, 1) := by decide +kernel
theorem dX4_takeBackPass_54 : decode cX4_takeBackPass 54 = .ok (.bastore, 1) := by decide +kernel
theorem dX4_takeBackPass_55 : decode cX4_takeBackPass 55 = .ok (.iload_n 2, 1) := by decide +kernel
theorem dX4_takeBackPass_56 : decode cX4_takeBackPass 56 = .ok (.iload_n 3, 1) := by decide +kernel
theorem dX4_takeBackPass_57 : decode cX4_takeBackPass 57 = .ok (.isub, 1) := by decide +kernel
theorem dX4_takeBackPass_58 : decode cX4_takeBackPass 58 = .ok (.ireturn, 1) := by decide +kernel
theorem dX4_payFinesOf_0 : decode cX4_payFinesOf 0 = .ok (.aload_n 0, 1) := by decide +kernel
theorem dX4_payFinesOf_1 : decode cX4_payFinesOf 1 = .ok (.getfield 35, 3) := by decide +kernel
theorem dX4_payFinesOf_4 : decode cX4_payFinesOf 4 = .ok (.getfield 164, 3) := by decide +kernel
theorem dX4_payFinesOf_7 : decode cX4_payFinesOf 7 = .ok (.iload_n 1, 1) := by decide +kernel
theorem dX4_payFinesOf_8 : decode cX4_payFinesOf 8 = .ok (.dup2, 1) := by decide +kernel
theorem dX4_payFinesOf_9 : decode cX4_payFinesOf 9 = .ok (.iaload, 1) := by decide +kernel
theorem dX4_payFinesOf_10 : decode cX4_payFinesOf 10 = .ok (.iload_n 2, 1) := by decide +kernel
theorem dX4_payFinesOf_11 : decode cX4_payFinesOf 11 = .ok (.isub, 1) := by decide +kernel
theorem dX4_payFinesOf_12 : decode cX4_payFinesOf 12 = .ok (.iastore, 1) := by decide +kernel
theorem dX4_payFinesOf_13 : decode cX4_payFinesOf 13 = .ok (.aload_n 0, 1) := by decide +kernel
theorem dX4_payFinesOf_14 : decode cX4_payFinesOf 14 = .ok (.getfield 49, 3) := by decide +kernel
theorem dX4_payFinesOf_17 : decode cX4_payFinesOf 17 = .ok (.dup, 1) := by decide +kernel
theorem dX4_payFinesOf_18 : decode cX4_payFinesOf 18 = .ok (.getfield 180, 3) := by decide +kernel
theorem dX4_payFinesOf_21 : decode cX4_payFinesOf 21 = .ok (.iload_n 2, 1) := by decide +kernel
theorem dX4_payFinesOf_22 : decode cX4_payFinesOf 22 = .ok (.iadd, 1) := by decide +kernel
theorem dX4_payFinesOf_23 : decode cX4_payFinesOf 23 = .ok (.putfield 180, 3) := by decide +kernel
theorem dX4_payFinesOf_26 : decode cX4_payFinesOf 26 = .ok (.aload_n 0, 1) := by decide +kernel
theorem dX4_payFinesOf_27 : decode cX4_payFinesOf 27 = .ok (.getfield 49, 3) := by decide +kernel
theorem dX4_payFinesOf_30 : decode cX4_payFinesOf 30 = .ok (.dup, 1) := by decide +kernel
theorem dX4_payFinesOf_31 : decode cX4_payFinesOf 31 = .ok (.getfield 120, 3) := by decide +kernel
theorem dX4_payFinesOf_34 : decode cX4_payFinesOf 34 = .ok (.iload_n 2, 1) := by decide +kernel
theorem dX4_payFinesOf_35 : decode cX4_payFinesOf 35 = .ok (.iadd, 1) := by decide +kernel
theorem dX4_payFinesOf_36 : decode cX4_payFinesOf 36 = .ok (.putfield 120, 3) := by decide +kernel
theorem dX4_payFinesOf_39 : decode cX4_payFinesOf 39 = .ok (.return_, 1) := by decide +kernel
theorem dX4_waitForNextVisit_0 : decode cX4_waitForNextVisit 0 = .ok (.aload_n 0, 1) := by decide +kernel
theorem dX4_waitForNextVisit_1 : decode cX4_waitForNextVisit 1 = .ok (.getfield 35, 3) := by decide +kernel
theorem dX4_waitForNextVisit_4 : decode cX4_waitForNextVisit 4 = .ok (.getfield 183, 3) := by decide +kernel
theorem dX4_waitForNextVisit_7 : decode cX4_waitForNextVisit 7 = .ok (.iload_n 1, 1) := by decide +kernel
theorem dX4_waitForNextVisit_8 : decode cX4_waitForNextVisit 8 = .ok (.iaload, 1) := by decide +kernel
theorem dX4_waitForNextVisit_9 : decode cX4_waitForNextVisit 9 = .ok (.aload_n 0, 1) := by decide +kernel
theorem dX4_waitForNextVisit_10 : decode cX4_waitForNextVisit 10 = .ok (.getfield 64, 3) := by decide +kernel
theorem dX4_waitForNextVisit_13 : decode cX4_waitForNextVisit 13 = .ok (.iadd, 1) := by decide +kernel
theorem dX4_waitForNextVisit_14 : decode cX4_waitForNextVisit 14 = .ok (.istore_n 2, 1) := by decide +kernel
theorem dX4_waitForNextVisit_15 : decode cX4_waitForNextVisit 15 = .ok (.aload_n 0, 1) := by decide +kernel
theorem dX4_waitForNextVisit_16 : decode cX4_waitForNextVisit 16 = .ok (.getfield 35, 3) := by decide +kernel
theorem dX4_waitForNextVisit_19 : decode cX4_waitForNextVisit 19 = .ok (.getfield 183, 3) := by decide +kernel
theorem dX4_waitForNextVisit_22 : decode cX4_waitForNextVisit 22 = .ok (.iload_n 1, 1) := by decide +kernel
theorem dX4_waitForNextVisit_23 : decode cX4_waitForNextVisit 23 = .ok (.iaload, 1) := by decide +kernel
theorem dX4_waitForNextVisit_24 : decode cX4_waitForNextVisit 24 = .ok (.iconst (-1), 1) := by decide +kernel
theorem dX4_waitForNextVisit_25 : decode cX4_waitForNextVisit 25 = .ok (.if_icmp .eq 14, 3) := by decide +kernel
theorem dX4_waitForNextVisit_28 : decode cX4_waitForNextVisit 28 = .ok (.iload_n 2, 1) := by decide +kernel
theorem dX4_waitForNextVisit_29 : decode cX4_waitForNextVisit 29 = .ok (.aload_n 0, 1) := by decide +kernel
theorem dX4_waitForNextVisit_30 : decode cX4_waitForNextVisit 30 = .ok (.getfield 12, 3) := by decide +kernel
theorem dX4_waitForNextVisit_33 : decode cX4_waitForNextVisit 33 = .ok (.getfield 90, 3) := by decide +kernel
theorem dX4_waitForNextVisit_36 : decode cX4_waitForNextVisit 36 = .ok (.if_icmp .ge 5, 3) := by decide +kernel
theorem dX4_waitForNextVisit_39 : decode cX4_waitForNextVisit 39 = .ok (.iconst 0, 1) := by decide +kernel
theorem dX4_waitForNextVisit_40 : decode cX4_waitForNextVisit 40 = .ok (.ireturn, 1) := by decide +kernel
theorem dX4_waitForNextVisit_41 : decode cX4_waitForNextVisit 41 = .ok (.iload_n 2, 1) := by decide +kernel
theorem dX4_waitForNextVisit_42 : decode cX4_waitForNextVisit 42 = .ok (.aload_n 0, 1) := by decide +kernel
theorem dX4_waitForNextVisit_43 : decode cX4_waitForNextVisit 43 = .ok (.getfield 12, 3) := by decide +kernel
theorem dX4_waitForNextVisit_46 : decode cX4_waitForNextVisit 46 = .ok (.getfield 90, 3) := by decide +kernel
theorem dX4_waitForNextVisit_49 : decode cX4_waitForNextVisit 49 = .ok (.isub, 1) := by decide +kernel
theorem dX4_waitForNextVisit_50 : decode cX4_waitForNextVisit 50 = .ok (.ireturn, 1) := by decide +kernel
theorem dX4_reasonOfRefusal_0 : decode cX4_reasonOfRefusal 0 = .ok (.aload_n 0, 1) := by decide +kernel
theorem dX4_reasonOfRefusal_1 : decode cX4_reasonOfRefusal 1 = .ok (.getfield 42, 3) := by decide +kernel
theorem dX4_reasonOfRefusal_4 : decode cX4_reasonOfRefusal 4 = .ok (.getfield 186, 3) := by decide +kernel
theorem dX4_reasonOfRefusal_7 : decode cX4_reasonOfRefusal 7 = .ok (.iload_n 1, 1) := by decide +kernel
theorem dX4_reasonOfRefusal_8 : decode cX4_reasonOfRefusal 8 = .ok (.iaload, 1) := by decide +kernel
theorem dX4_reasonOfRefusal_9 : decode cX4_reasonOfRefusal 9 = .ok (.istore_n 3, 1) := by decide +kernel
theorem dX4_reasonOfRefusal_10 : decode cX4_reasonOfRefusal 10 = .ok (.aload_n 0, 1) := by decide +kernel
theorem dX4_reasonOfRefusal_11 : decode cX4_reasonOfRefusal 11 = .ok (.getfield 12, 3) := by decide +kernel
theorem dX4_reasonOfRefusal_14 : decode cX4_reasonOfRefusal 14 = .ok (.aload_n 0, 1) := by decide +kernel
theorem dX4_reasonOfRefusal_15 : decode cX4_reasonOfRefusal 15 = .ok (.getfield 12, 3) := by decide +kernel
theorem dX4_reasonOfRefusal_18 : decode cX4_reasonOfRefusal 18 = .ok (.invokevirtual 189, 3) := by decide +kernel
theorem dX4_reasonOfRefusal_21 : decode cX4_reasonOfRefusal 21 = .ok (.invokevirtual 192, 3) := by decide +kernel
theorem dX4_reasonOfRefusal_24 : decode cX4_reasonOfRefusal 24 = .ok (.ifCond .ne 5, 3) := by decide +kernel
theorem dX4_reasonOfRefusal_27 : decode cX4_reasonOfRefusal 27 = .ok (.iconst 1, 1) := by decide +kernel
theorem dX4_reasonOfRefusal_28 : decode cX4_reasonOfRefusal 28 = .ok (.ireturn, 1) := by decide +kernel
theorem dX4_reasonOfRefusal_29 : decode cX4_reasonOfRefusal 29 = .ok (.aload_n 0, 1) := by decide +kernel
theorem dX4_reasonOfRefusal_30 : decode cX4_reasonOfRefusal 30 = .ok (.getfield 42, 3) := by decide +kernel
theorem dX4_reasonOfRefusal_33 : decode cX4_reasonOfRefusal 33 = .ok (.getfield 152, 3) := by decide +kernel
theorem dX4_reasonOfRefusal_36 : decode cX4_reasonOfRefusal 36 = .ok (.iload_n 1, 1) := by decide +kernel
theorem dX4_reasonOfRefusal_37 : decode cX4_reasonOfRefusal 37 = .ok (.baload, 1) := by decide +kernel
theorem dX4_reasonOfRefusal_38 : decode cX4_reasonOfRefusal 38 = .ok (.ifCond .eq 5, 3) := by decide +kernel
theorem dX4_reasonOfRefusal_41 : decode cX4_reasonOfRefusal 41 = .ok (.iconst 2, 1) := by decide +kernel
theorem dX4_reasonOfRefusal_42 : decode cX4_reasonOfRefusal 42 = .ok (.ireturn, 1) := by decide +kernel
theorem dX4_reasonOfRefusal_43 : decode cX4_reasonOfRefusal 43 = .ok (.aload_n 0, 1) := by decide +kernel
theorem dX4_reasonOfRefusal_44 : decode cX4_reasonOfRefusal 44 = .ok (.getfield 35, 3) := by decide +kernel
theorem dX4_reasonOfRefusal_47 : decode cX4_reasonOfRefusal 47 = .ok (.iload_n 3, 1) := by decide +kernel
theorem dX4_reasonOfRefusal_48 : decode cX4_reasonOfRefusal 48 = .ok (.aload_n 0, 1) := by decide +kernel
theorem dX4_reasonOfRefusal_49 : decode cX4_reasonOfRefusal 49 = .ok (.getfield 12, 3) := by decide +kernel
theorem dX4_reasonOfRefusal_52 : decode cX4_reasonOfRefusal 52 = .ok (.invokevirtual 86, 3) := by decide +kernel
theorem dX4_reasonOfRefusal_55 : decode cX4_reasonOfRefusal 55 = .ok (.invokevirtual 195, 3) := by decide +kernel
theorem dX4_reasonOfRefusal_58 : decode cX4_reasonOfRefusal 58 = .ok (.ifCond .ne 5, 3) := by decide +kernel
theorem dX4_reasonOfRefusal_61 : decode cX4_reasonOfRefusal 61 = .ok (.iconst 3, 1) := by decide +kernel
theorem dX4_reasonOfRefusal_62 : decode cX4_reasonOfRefusal 62 = .ok (.ireturn, 1) := by decide +kernel
theorem dX4_reasonOfRefusal_63 : decode cX4_reasonOfRefusal 63 = .ok (.aload_n 0, 1) := by decide +kernel
theorem dX4_reasonOfRefusal_64 : decode cX4_reasonOfRefusal 64 = .ok (.getfield 35, 3) := by decide +kernel
theorem dX4_reasonOfRefusal_67 : decode cX4_reasonOfRefusal 67 = .ok (.iload_n 3, 1) := by decide +kernel
theorem dX4_reasonOfRefusal_68 : decode cX4_reasonOfRefusal 68 = .ok (.aload_n 0, 1) := by decide +kernel
theorem dX4_reasonOfRefusal_69 : decode cX4_reasonOfRefusal 69 = .ok (.getfield 28, 3) := by decide +kernel
theorem dX4_reasonOfRefusal_72 : decode cX4_reasonOfRefusal 72 = .ok (.getfield 199, 3) := by decide +kernel
theorem dX4_reasonOfRefusal_75 : decode cX4_reasonOfRefusal 75 = .ok (.iload_n 2, 1) := by decide +kernel
theorem dX4_reasonOfRefusal_76 : decode cX4_reasonOfRefusal 76 = .ok (.iaload, 1) := by decide +kernel
theorem dX4_reasonOfRefusal_77 : decode cX4_reasonOfRefusal 77 = .ok (.invokevirtual 202, 3) := by decide +kernel
theorem dX4_reasonOfRefusal_80 : decode cX4_reasonOfRefusal 80 = .ok (.ifCond .ne 5, 3) := by decide +kernel
theorem dX4_reasonOfRefusal_83 : decode cX4_reasonOfRefusal 83 = .ok (.iconst 4, 1) := by decide +kernel
theorem dX4_reasonOfRefusal_84 : decode cX4_reasonOfRefusal 84 = .ok (.ireturn, 1) := by decide +kernel
theorem dX4_reasonOfRefusal_85 : decode cX4_reasonOfRefusal 85 = .ok (.aload_n 0, 1) := by decide +kernel
theorem dX4_reasonOfRefusal_86 : decode cX4_reasonOfRefusal 86 = .ok (.getfield 35, 3) := by decide +kernel
theorem dX4_reasonOfRefusal_89 : decode cX4_reasonOfRefusal 89 = .ok (.getfield 164, 3) := by decide +kernel
theorem dX4_reasonOfRefusal_92 : decode cX4_reasonOfRefusal 92 = .ok (.iload_n 3, 1) := by decide +kernel
theorem dX4_reasonOfRefusal_93 : decode cX4_reasonOfRefusal 93 = .ok (.iaload, 1) := by decide +kernel
theorem dX4_reasonOfRefusal_94 : decode cX4_reasonOfRefusal 94 = .ok (.bipush 30, 2) := by decide +kernel
theorem dX4_reasonOfRefusal_96 : decode cX4_reasonOfRefusal 96 = .ok (.if_icmp .le 5, 3) := by decide +kernel
theorem dX4_reasonOfRefusal_99 : decode cX4_reasonOfRefusal 99 = .ok (.iconst 5, 1) := by decide +kernel
theorem dX4_reasonOfRefusal_100 : decode cX4_reasonOfRefusal 100 = .ok (.ireturn, 1) := by decide +kernel
theorem dX4_reasonOfRefusal_101 : decode cX4_reasonOfRefusal 101 = .ok (.aload_n 0, 1) := by decide +kernel
theorem dX4_reasonOfRefusal_102 : decode cX4_reasonOfRefusal 102 = .ok (.iload_n 3, 1) := by decide +kernel
theorem dX4_reasonOfRefusal_103 : decode cX4_reasonOfRefusal 103 = .ok (.invokevirtual 205, 3) := by decide +kernel
theorem dX4_reasonOfRefusal_106 : decode cX4_reasonOfRefusal 106 = .ok (.ifCond .le 6, 3) := by decide +kernel
theorem dX4_reasonOfRefusal_109 : decode cX4_reasonOfRefusal 109 = .ok (.bipush 6, 2) := by decide +kernel
theorem dX4_reasonOfRefusal_111 : decode cX4_reasonOfRefusal 111 = .ok (.ireturn, 1) := by decide +kernel
theorem dX4_reasonOfRefusal_112 : decode cX4_reasonOfRefusal 112 = .ok (.aload_n 0, 1) := by decide +kernel
theorem dX4_reasonOfRefusal_113 : decode cX4_reasonOfRefusal 113 = .ok (.getfield 28, 3) := by decide +kernel
theorem dX4_reasonOfRefusal_116 : decode cX4_reasonOfRefusal 116 = .ok (.iload_n 2, 1) := by decide +kernel
theorem dX4_reasonOfRefusal_117 : decode cX4_reasonOfRefusal 117 = .ok (.invokevirtual 208, 3) := by decide +kernel
theorem dX4_reasonOfRefusal_120 : decode cX4_reasonOfRefusal 120 = .ok (.ifCond .le 7, 3) := by decide +kernel
theorem dX4_reasonOfRefusal_123 : decode cX4_reasonOfRefusal 123 = .ok (.iconst 0, 1) := by decide +kernel
theorem dX4_reasonOfRefusal_124 : decode cX4_reasonOfRefusal 124 = .ok (.goto 5, 3) := by decide +kernel
theorem dX4_reasonOfRefusal_127 : decode cX4_reasonOfRefusal 127 = .ok (.bipush 7, 2) := by decide +kernel
theorem dX4_reasonOfRefusal_129 : decode cX4_reasonOfRefusal 129 = .ok (.ireturn, 1) := by decide +kernel
theorem dX4_allowedBeds_0 : decode cX4_allowedBeds 0 = .ok (.iconst 0, 1) := by decide +kernel
theorem dX4_allowedBeds_1 : decode cX4_allowedBeds 1 = .ok (.istore_n 2, 1) := by decide +kernel
theorem dX4_allowedBeds_2 : decode cX4_allowedBeds 2 = .ok (.iconst 0, 1) := by decide +kernel
theorem dX4_allowedBeds_3 : decode cX4_allowedBeds 3 = .ok (.istore_n 3, 1) := by decide +kernel
theorem dX4_allowedBeds_4 : decode cX4_allowedBeds 4 = .ok (.iload_n 3, 1) := by decide +kernel
theorem dX4_allowedBeds_5 : decode cX4_allowedBeds 5 = .ok (.aload_n 0, 1) := by decide +kernel
theorem dX4_allowedBeds_6 : decode cX4_allowedBeds 6 = .ok (.getfield 28, 3) := by decide +kernel
theorem dX4_allowedBeds_9 : decode cX4_allowedBeds 9 = .ok (.getfield 57, 3) := by decide +kernel
theorem dX4_allowedBeds_12 : decode cX4_allowedBeds 12 = .ok (.if_icmp .ge 24, 3) := by decide +kernel
theorem dX4_allowedBeds_15 : decode cX4_allowedBeds 15 = .ok (.aload_n 0, 1) := by decide +kernel
theorem dX4_allowedBeds_16 : decode cX4_allowedBeds 16 = .ok (.iload_n 1, 1) := by decide +kernel
theorem dX4_allowedBeds_17 : decode cX4_allowedBeds 17 = .ok (.iload_n 3, 1) := by decide +kernel
theorem dX4_allowedBeds_18 : decode cX4_allowedBeds 18 = .ok (.invokevirtual 211, 3) := by decide +kernel
theorem dX4_allowedBeds_21 : decode cX4_allowedBeds 21 = .ok (.ifCond .ne 9, 3) := by decide +kernel
theorem dX4_allowedBeds_24 : decode cX4_allowedBeds 24 = .ok (.iload_n 2, 1) := by decide +kernel
theorem dX4_allowedBeds_25 : decode cX4_allowedBeds 25 = .ok (.iconst 1, 1) := by decide +kernel
theorem dX4_allowedBeds_26 : decode cX4_allowedBeds 26 = .ok (.iload_n 3, 1) := by decide +kernel
theorem dX4_allowedBeds_27 : decode cX4_allowedBeds 27 = .ok (.ishl, 1) := by decide +kernel
theorem dX4_allowedBeds_28 : decode cX4_allowedBeds 28 = .ok (.ior, 1) := by decide +kernel
theorem dX4_allowedBeds_29 : decode cX4_allowedBeds 29 = .ok (.istore_n 2, 1) := by decide +kernel
theorem dX4_allowedBeds_30 : decode cX4_allowedBeds 30 = .ok (.iinc 3 1, 3) := by decide +kernel
theorem dX4_allowedBeds_33 : decode cX4_allowedBeds 33 = .ok (.goto (-29), 3) := by decide +kernel
theorem dX4_allowedBeds_36 : decode cX4_allowedBeds 36 = .ok (.iload_n 2, 1) := by decide +kernel
theorem dX4_allowedBeds_37 : decode cX4_allowedBeds 37 = .ok (.ireturn, 1) := by decide +kernel
theorem dX4_showCard_0 : decode cX4_showCard 0 = .ok (.aload_n 0, 1) := by decide +kernel
theorem dX4_showCard_1 : decode cX4_showCard 1 = .ok (.iload_n 1, 1) := by decide +kernel
theorem dX4_showCard_2 : decode cX4_showCard 2 = .ok (.iload_n 2, 1) := by decide +kernel
theorem dX4_showCard_3 : decode cX4_showCard 3 = .ok (.invokevirtual 211, 3) := by decide +kernel
theorem dX4_showCard_6 : decode cX4_showCard 6 = .ok (.istore_n 3, 1) := by decide +kernel
theorem dX4_showCard_7 : decode cX4_showCard 7 = .ok (.iload_n 3, 1) := by decide +kernel
theorem dX4_showCard_8 : decode cX4_showCard 8 = .ok (.iconst 2, 1) := by decide +kernel
theorem dX4_showCard_9 : decode cX4_showCard 9 = .ok (.if_icmp .ne 16, 3) := by decide +kernel
theorem dX4_showCard_12 : decode cX4_showCard 12 = .ok (.aload_n 0, 1) := by decide +kernel
theorem dX4_showCard_13 : decode cX4_showCard 13 = .ok (.getfield 49, 3) := by decide +kernel
theorem dX4_showCard_16 : decode cX4_showCard 16 = .ok (.dup, 1) := by decide +kernel
theorem dX4_showCard_17 : decode cX4_showCard 17 = .ok (.getfield 214, 3) := by decide +kernel
theorem dX4_showCard_20 : decode cX4_showCard 20 = .ok (.iconst 1, 1) := by decide +kernel
theorem dX4_showCard_21 : decode cX4_showCard 21 = .ok (.iadd, 1) := by decide +kernel
theorem dX4_showCard_22 : decode cX4_showCard 22 = .ok (.putfield 214, 3) := by decide +kernel
theorem dX4_showCard_25 : decode cX4_showCard 25 = .ok (.iload_n 3, 1) := by decide +kernel
theorem dX4_showCard_26 : decode cX4_showCard 26 = .ok (.ifCond .ne 42, 3) := by decide +kernel
theorem dX4_showCard_29 : decode cX4_showCard 29 = .ok (.aload_n 0, 1) := by decide +kernel
theorem dX4_showCard_30 : decode cX4_showCard 30 = .ok (.getfield 28, 3) := by decide +kernel
theorem dX4_showCard_33 : decode cX4_showCard 33 = .ok (.iload_n 2, 1) := by decide +kernel
theorem dX4_showCard_34 : decode cX4_showCard 34 = .ok (.invokevirtual 217, 3) := by decide +kernel
theorem dX4_showCard_37 : decode cX4_showCard 37 = .ok (.aload_n 0, 1) := by decide +kernel
theorem dX4_showCard_38 : decode cX4_showCard 38 = .ok (.getfield 35, 3) := by decide +kernel
theorem dX4_showCard_41 : decode cX4_showCard 41 = .ok (.aload_n 0, 1) := by decide +kernel
theorem dX4_showCard_42 : decode cX4_showCard 42 = .ok (.getfield 42, 3) := by decide +kernel
theorem dX4_showCard_45 : decode cX4_showCard 45 = .ok (.getfield 186, 3) := by decide +kernel
theorem dX4_showCard_48 : decode cX4_showCard 48 = .ok (.iload_n 1, 1) := by decide +kernel
theorem dX4_showCard_49 : decode cX4_showCard 49 = .ok (.iaload, 1) := by decide +kernel
theorem dX4_showCard_50 : decode cX4_showCard 50 = .ok (.iload_n 2, 1) := by decide +kernel
theorem dX4_showCard_51 : decode cX4_showCard 51 = .ok (.aload_n 0, 1) := by decide +kernel
theorem dX4_showCard_52 : decode cX4_showCard 52 = .ok (.getfield 12, 3) := by decide +kernel
theorem dX4_showCard_55 : decode cX4_showCard 55 = .ok (.getfield 90, 3) := by decide +kernel
theorem dX4_showCard_58 : decode cX4_showCard 58 = .ok (.aload_n 0, 1) := by decide +kernel
theorem dX4_showCard_59 : decode cX4_showCard 59 = .ok (.getfield 12, 3) := by decide +kernel
theorem dX4_showCard_62 : decode cX4_showCard 62 = .ok (.invokevirtual 86, 3) := by decide +kernel
theorem dX4_showCard_65 : decode cX4_showCard 65 = .ok (.invokevirtual 220, 3) := by decide +kernel
theorem dX4_showCard_68 : decode cX4_showCard 68 = .ok (.iload_n 3, 1) := by decide +kernel
theorem dX4_showCard_69 : decode cX4_showCard 69 = .ok (.ireturn, 1) := by decide +kernel
theorem dX4_canPluck_0 : decode cX4_canPluck 0 = .ok (.aload_n 0, 1) := by decide +kernel
theorem dX4_canPluck_1 : decode cX4_canPluck 1 = .ok (.getfield 42, 3) := by decide +kernel
theorem dX4_canPluck_4 : decode cX4_canPluck 4 = .ok (.getfield 186, 3) := by decide +kernel
theorem dX4_canPluck_7 : decode cX4_canPluck 7 = .ok (.iload_n 1, 1) := by decide +kernel
theorem dX4_canPluck_8 : decode cX4_canPluck 8 = .ok (.iaload, 1) := by decide +kernel
theorem dX4_canPluck_9 : decode cX4_canPluck 9 = .ok (.istore_n 3, 1) := by decide +kernel
theorem dX4_canPluck_10 : decode cX4_canPluck 10 = .ok (.aload_n 0, 1) := by decide +kernel
theorem dX4_canPluck_11 : decode cX4_canPluck 11 = .ok (.getfield 35, 3) := by decide +kernel
theorem dX4_canPluck_14 : decode cX4_canPluck 14 = .ok (.getfield 223, 3) := by decide +kernel
theorem dX4_canPluck_17 : decode cX4_canPluck 17 = .ok (.iload_n 3, 1) := by decide +kernel
theorem dX4_canPluck_18 : decode cX4_canPluck 18 = .ok (.iaload, 1) := by decide +kernel
theorem dX4_canPluck_19 : decode cX4_canPluck 19 = .ok (.istore 4, 2) := by decide +kernel
theorem dX4_canPluck_21 : decode cX4_canPluck 21 = .ok (.aload_n 0, 1) := by decide +kernel
theorem dX4_canPluck_22 : decode cX4_canPluck 22 = .ok (.getfield 42, 3) := by decide +kernel
theorem dX4_canPluck_25 : decode cX4_canPluck 25 = .ok (.getfield 152, 3) := by decide +kernel
theorem dX4_canPluck_28 : decode cX4_canPluck 28 = .ok (.iload_n 1, 1) := by decide +kernel
theorem dX4_canPluck_29 : decode cX4_canPluck 29 = .ok (.baload, 1) := by decide +kernel
theorem dX4_canPluck_30 : decode cX4_canPluck 30 = .ok (.ifCond .ne 34, 3) := by decide +kernel
theorem dX4_canPluck_33 : decode cX4_canPluck 33 = .ok (.aload_n 0, 1) := by decide +kernel
theorem dX4_canPluck_34 : decode cX4_canPluck 34 = .ok (.getfield 35, 3) := by decide +kernel
theorem dX4_canPluck_37 : decode cX4_canPluck 37 = .ok (.getfield 183, 3) := by decide +kernel
theorem dX4_canPluck_40 : decode cX4_canPluck 40 = .ok (.iload_n 3, 1) := by decide +kernel
theorem dX4_canPluck_41 : decode cX4_canPluck 41 = .ok (.iaload, 1) := by decide +kernel
theorem dX4_canPluck_42 : decode cX4_canPluck 42 = .ok (.aload_n 0, 1) := by decide +kernel
theorem dX4_canPluck_43 : decode cX4_canPluck 43 = .ok (.getfield 12, 3) := by decide +kernel
theorem dX4_canPluck_46 : decode cX4_canPluck 46 = .ok (.getfield 90, 3) := by decide +kernel
theorem dX4_canPluck_49 : decode cX4_canPluck 49 = .ok (.if_icmp .ne 15, 3) := by decide +kernel
theorem dX4_canPluck_52 : decode cX4_canPluck 52 = .ok (.aload_n 0, 1) := by decide +kernel
theorem dX4_canPluck_53 : decode cX4_canPluck 53 = .ok (.getfield 28, 3) := by decide +kernel
theorem dX4_canPluck_56 : decode cX4_canPluck 56 = .ok (.iload 4, 2) := by decide +kernel
theorem dX4_canPluck_58 : decode cX4_canPluck 58 = .ok (.invokevirtual 226, 3) := by decide +kernel
theorem dX4_canPluck_61 : decode cX4_canPluck 61 = .ok (.ifCond .ne 5, 3) := by decide +kernel
theorem dX4_canPluck_64 : decode cX4_canPluck 64 = .ok (.iconst 0, 1) := by decide +kernel
theorem dX4_canPluck_65 : decode cX4_canPluck 65 = .ok (.ireturn, 1) := by decide +kernel
theorem dX4_canPluck_66 : decode cX4_canPluck 66 = .ok (.aload_n 0, 1) := by decide +kernel
theorem dX4_canPluck_67 : decode cX4_canPluck 67 = .ok (.getfield 28, 3) := by decide +kernel
theorem dX4_canPluck_70 : decode cX4_canPluck 70 = .ok (.getfield 227, 3) := by decide +kernel
theorem dX4_canPluck_73 : decode cX4_canPluck 73 = .ok (.iload 4, 2) := by decide +kernel
theorem dX4_canPluck_75 : decode cX4_canPluck 75 = .ok (.iaload, 1) := by decide +kernel
theorem dX4_canPluck_76 : decode cX4_canPluck 76 = .ok (.iload_n 2, 1) := by decide +kernel
theorem dX4_canPluck_77 : decode cX4_canPluck 77 = .ok (.if_icmp .lt 7, 3) := by decide +kernel
theorem dX4_canPluck_80 : decode cX4_canPluck 80 = .ok (.iconst 1, 1) := by decide +kernel
theorem dX4_canPluck_81 : decode cX4_canPluck 81 = .ok (.goto 4, 3) := by decide +kernel
theorem dX4_canPluck_84 : decode cX4_canPluck 84 = .ok (.iconst 0, 1) := by decide +kernel
theorem dX4_canPluck_85 : decode cX4_canPluck 85 = .ok (.ireturn, 1) := by decide +kernel
theorem dX4_pluckBlooms_0 : decode cX4_pluckBlooms 0 = .ok (.aload_n 0, 1) := by decide +kernel
theorem dX4_pluckBlooms_1 : decode cX4_pluckBlooms 1 = .ok (.getfield 42, 3) := by decide +kernel
theorem dX4_pluckBlooms_4 : decode cX4_pluckBlooms 4 = .ok (.getfield 186, 3) := by decide +kernel
theorem dX4_pluckBlooms_7 : decode cX4_pluckBlooms 7 = .ok (.iload_n 1, 1) := by decide +kernel
theorem dX4_pluckBlooms_8 : decode cX4_pluckBlooms 8 = .ok (.iaload, 1) := by decide +kernel
theorem dX4_pluckBlooms_9 : decode cX4_pluckBlooms 9 = .ok (.istore_n 3, 1) := by decide +kernel
theorem dX4_pluckBlooms_10 : decode cX4_pluckBlooms 10 = .ok (.aload_n 0, 1) := by decide +kernel
theorem dX4_pluckBlooms_11 : decode cX4_pluckBlooms 11 = .ok (.getfield 35, 3) := by decide +kernel
theorem dX4_pluckBlooms_14 : decode cX4_pluckBlooms 14 = .ok (.getfield 223, 3) := by decide +kernel
theorem dX4_pluckBlooms_17 : decode cX4_pluckBlooms 17 = .ok (.iload_n 3, 1) := by decide +kernel
theorem dX4_pluckBlooms_18 : decode cX4_pluckBlooms 18 = .ok (.iaload, 1) := by decide +kernel
theorem dX4_pluckBlooms_19 : decode cX4_pluckBlooms 19 = .ok (.istore 4, 2) := by decide +kernel
theorem dX4_pluckBlooms_21 : decode cX4_pluckBlooms 21 = .ok (.aload_n 0, 1) := by decide +kernel
theorem dX4_pluckBlooms_22 : decode cX4_pluckBlooms 22 = .ok (.iload 4, 2) := by decide +kernel
theorem dX4_pluckBlooms_24 : decode cX4_pluckBlooms 24 = .ok (.iload_n 2, 1) := by decide +kernel
theorem dX4_pluckBlooms_25 : decode cX4_pluckBlooms 25 = .ok (.invokevirtual 230, 3) := by decide +kernel
theorem dX4_pluckBlooms_28 : decode cX4_pluckBlooms 28 = .ok (.istore 5, 2) := by decide +kernel
theorem dX4_pluckBlooms_30 : decode cX4_pluckBlooms 30 = .ok (.aload_n 0, 1) := by decide +kernel
theorem dX4_pluckBlooms_31 : decode cX4_pluckBlooms 31 = .ok (.getfield 28, 3) := by decide +kernel
theorem dX4_pluckBlooms_34 : decode cX4_pluckBlooms 34 = .ok (.getfield 227, 3) := by decide +kernel
theorem dX4_pluckBlooms_37 : decode cX4_pluckBlooms 37 = .ok (.iload 4, 2) := by decide +kernel
theorem dX4_pluckBlooms_39 : decode cX4_pluckBlooms 39 = .ok (.dup2, 1) := by decide +kernel
theorem dX4_pluckBlooms_40 : decode cX4_pluckBlooms 40 = .ok (.iaload, 1) := by decide +kernel
theorem dX4_pluckBlooms_41 : decode cX4_pluckBlooms 41 = .ok (.iload_n 2, 1) := by decide +kernel
theorem dX4_pluckBlooms_42 : decode cX4_pluckBlooms 42 = .ok (.isub, 1) := by decide +kernel
theorem dX4_pluckBlooms_43 : decode cX4_pluckBlooms 43 = .ok (.iastore, 1) := by decide +kernel
theorem dX4_pluckBlooms_44 : decode cX4_pluckBlooms 44 = .ok (.aload_n 0, 1) := by decide +kernel
theorem dX4_pluckBlooms_45 : decode cX4_pluckBlooms 45 = .ok (.getfield 35, 3) := by decide +kernel
theorem dX4_pluckBlooms_48 : decode cX4_pluckBlooms 48 = .ok (.getfield 164, 3) := by decide +kernel
theorem dX4_pluckBlooms_51 : decode cX4_pluckBlooms 51 = .ok (.iload_n 3, 1) := by decide +kernel
theorem dX4_pluckBlooms_52 : decode cX4_pluckBlooms 52 = .ok (.dup2, 1) := by decide +kernel
theorem dX4_pluckBlooms_53 : decode cX4_pluckBlooms 53 = .ok (.iaload, 1) := by decide +kernel
theorem dX4_pluckBlooms_54 : decode cX4_pluckBlooms 54 = .ok (.iload 5, 2) := by decide +kernel
theorem dX4_pluckBlooms_56 : decode cX4_pluckBlooms 56 = .ok (.iadd, 1) := by decide +kernel
theorem dX4_pluckBlooms_57 : decode cX4_pluckBlooms 57 = .ok (.iastore, 1) := by decide +kernel
theorem dX4_pluckBlooms_58 : decode cX4_pluckBlooms 58 = .ok (.aload_n 0, 1) := by decide +kernel
theorem dX4_pluckBlooms_59 : decode cX4_pluckBlooms 59 = .ok (.getfield 49, 3) := by decide +kernel
theorem dX4_pluckBlooms_62 : decode cX4_pluckBlooms 62 = .ok (.dup, 1) := by decide +kernel
theorem dX4_pluckBlooms_63 : decode cX4_pluckBlooms 63 = .ok (.getfield 233, 3) := by decide +kernel
theorem dX4_pluckBlooms_66 : decode cX4_pluckBlooms 66 = .ok (.iload 5, 2) := by decide +kernel
theorem dX4_pluckBlooms_68 : decode cX4_pluckBlooms 68 = .ok (.iadd, 1) := by decide +kernel
theorem dX4_pluckBlooms_69 : decode cX4_pluckBlooms 69 = .ok (.putfield 233, 3) := by decide +kernel
theorem dX4_pluckBlooms_72 : decode cX4_pluckBlooms 72 = .ok (.aload_n 0, 1) := by decide +kernel
theorem dX4_pluckBlooms_73 : decode cX4_pluckBlooms 73 = .ok (.getfield 49, 3) := by decide +kernel
theorem dX4_pluckBlooms_76 : decode cX4_pluckBlooms 76 = .ok (.dup, 1) := by decide +kernel
theorem dX4_pluckBlooms_77 : decode cX4_pluckBlooms 77 = .ok (.getfield 236, 3) := by decide +kernel
theorem dX4_pluckBlooms_80 : decode cX4_pluckBlooms 80 = .ok (.iload_n 2, 1) := by decide +kernel
theorem dX4_pluckBlooms_81 : decode cX4_pluckBlooms 81 = .ok (.iadd, 1) := by decide +kernel
theorem dX4_pluckBlooms_82 : decode cX4_pluckBlooms 82 = .ok (.putfield 236, 3) := by decide +kernel
theorem dX4_pluckBlooms_85 : decode cX4_pluckBlooms 85 = .ok (.iload 5, 2) := by decide +kernel
theorem dX4_pluckBlooms_87 : decode cX4_pluckBlooms 87 = .ok (.ireturn, 1) := by decide +kernel
theorem dX4_fineToday_0 : decode cX4_fineToday 0 = .ok (.aload_n 0, 1) := by decide +kernel
theorem dX4_fineToday_1 : decode cX4_fineToday 1 = .ok (.getfield 28, 3) := by decide +kernel
theorem dX4_fineToday_4 : decode cX4_fineToday 4 = .ok (.iload_n 1, 1) := by decide +kernel
theorem dX4_fineToday_5 : decode cX4_fineToday 5 = .ok (.aload_n 0, 1) := by decide +kernel
theorem dX4_fineToday_6 : decode cX4_fineToday 6 = .ok (.getfield 12, 3) := by decide +kernel
theorem dX4_fineToday_9 : decode cX4_fineToday 9 = .ok (.invokevirtual 86, 3) := by decide +kernel
theorem dX4_fineToday_12 : decode cX4_fineToday 12 = .ok (.invokevirtual 239, 3) := by decide +kernel
theorem dX4_fineToday_15 : decode cX4_fineToday 15 = .ok (.ifCond .eq 15, 3) := by decide +kernel
theorem dX4_fineToday_18 : decode cX4_fineToday 18 = .ok (.iconst 2, 1) := by decide +kernel
theorem dX4_fineToday_19 : decode cX4_fineToday 19 = .ok (.aload_n 0, 1) := by decide +kernel
theorem dX4_fineToday_20 : decode cX4_fineToday 20 = .ok (.getfield 21, 3) := by decide +kernel
theorem dX4_fineToday_23 : decode cX4_fineToday 23 = .ok (.getfield 242, 3) := by decide +kernel
theorem dX4_fineToday_26 : decode cX4_fineToday 26 = .ok (.imul, 1) := by decide +kernel
theorem dX4_fineToday_27 : decode cX4_fineToday 27 = .ok (.goto 10, 3) := by decide +kernel
theorem dX4_fineToday_30 : decode cX4_fineToday 30 = .ok (.aload_n 0, 1) := by decide +kernel
theorem dX4_fineToday_31 : decode cX4_fineToday 31 = .ok (.getfield 21, 3) := by decide +kernel
theorem dX4_fineToday_34 : decode cX4_fineToday 34 = .ok (.getfield 242, 3) := by decide +kernel
theorem dX4_fineToday_37 : decode cX4_fineToday 37 = .ok (.istore_n 3, 1) := by decide +kernel
theorem dX4_fineToday_38 : decode cX4_fineToday 38 = .ok (.iload_n 3, 1) := by decide +kernel
theorem dX4_fineToday_39 : decode cX4_fineToday 39 = .ok (.iload_n 2, 1) := by decide +kernel
theorem dX4_fineToday_40 : decode cX4_fineToday 40 = .ok (.imul, 1) := by decide +kernel
theorem dX4_fineToday_41 : decode cX4_fineToday 41 = .ok (.ireturn, 1) := by decide +kernel
theorem dX4_countWrongPasses_0 : decode cX4_countWrongPasses 0 = .ok (.iconst 0, 1) := by decide +kernel
theorem dX4_countWrongPasses_1 : decode cX4_countWrongPasses 1 = .ok (.istore_n 1, 1) := by decide +kernel
theorem dX4_countWrongPasses_2 : decode cX4_countWrongPasses 2 = .ok (.iconst 0, 1) := by decide +kernel
theorem dX4_countWrongPasses_3 : decode cX4_countWrongPasses 3 = .ok (.istore_n 2, 1) := by decide +kernel
theorem dX4_countWrongPasses_4 : decode cX4_countWrongPasses 4 = .ok (.iload_n 2, 1) := by decide +kernel
theorem dX4_countWrongPasses_5 : decode cX4_countWrongPasses 5 = .ok (.aload_n 0, 1) := by decide +kernel
theorem dX4_countWrongPasses_6 : decode cX4_countWrongPasses 6 = .ok (.getfield 35, 3) := by decide +kernel
theorem dX4_countWrongPasses_9 : decode cX4_countWrongPasses 9 = .ok (.getfield 61, 3) := by decide +kernel
theorem dX4_countWrongPasses_12 : decode cX4_countWrongPasses 12 = .ok (.if_icmp .ge 92, 3) := by decide +kernel
theorem dX4_countWrongPasses_15 : decode cX4_countWrongPasses 15 = .ok (.aload_n 0, 1) := by decide +kernel
theorem dX4_countWrongPasses_16 : decode cX4_countWrongPasses 16 = .ok (.getfield 35, 3) := by decide +kernel
theorem dX4_countWrongPasses_19 : decode cX4_countWrongPasses 19 = .ok (.iload_n 2, 1) := by decide +kernel
theorem dX4_countWrongPasses_20 : decode cX4_countWrongPasses 20 = .ok (.invokevirtual 245, 3) := by decide +kernel
theorem dX4_countWrongPasses_23 : decode cX4_countWrongPasses 23 = .ok (.aload_n 0, 1) := by decide +kernel
theorem dX4_countWrongPasses_24 : decode cX4_countWrongPasses 24 = .ok (.getfield 35, 3) := by decide +kernel
theorem dX4_countWrongPasses_27 : decode cX4_countWrongPasses 27 = .ok (.getfield 133, 3) := by decide +kernel
theorem dX4_countWrongPasses_30 : decode cX4_countWrongPasses 30 = .ok (.iload_n 2, 1) := by decide +kernel
theorem dX4_countWrongPasses_31 : decode cX4_countWrongPasses 31 = .ok (.iaload, 1) := by decide +kernel
theorem dX4_countWrongPasses_32 : decode cX4_countWrongPasses 32 = .ok (.if_icmp .le 6, 3) := by decide +kernel
theorem dX4_countWrongPasses_35 : decode cX4_countWrongPasses 35 = .ok (.iinc 1 1, 3) := by decide +kernel
theorem dX4_countWrongPasses_38 : decode cX4_countWrongPasses 38 = .ok (.aload_n 0, 1) := by decide +kernel
theorem dX4_countWrongPasses_39 : decode cX4_countWrongPasses 39 = .ok (.getfield 35, 3) := by decide +kernel
theorem dX4_countWrongPasses_42 : decode cX4_countWrongPasses 42 = .ok (.iload_n 2, 1) := by decide +kernel
theorem dX4_countWrongPasses_43 : decode cX4_countWrongPasses 43 = .ok (.invokevirtual 155, 3) := by decide +kernel
theorem dX4_countWrongPasses_46 : decode cX4_countWrongPasses 46 = .ok (.ifCond .eq 26, 3) := by decide +kernel
theorem dX4_countWrongPasses_49 : decode cX4_countWrongPasses 49 = .ok (.aload_n 0, 1) := by decide +kernel
theorem dX4_countWrongPasses_50 : decode cX4_countWrongPasses 50 = .ok (.getfield 42, 3) := by decide +kernel
theorem dX4_countWrongPasses_53 : decode cX4_countWrongPasses 53 = .ok (.aload_n 0, 1) := by decide +kernel
theorem dX4_countWrongPasses_54 : decode cX4_countWrongPasses 54 = .ok (.getfield 35, 3) := by decide +kernel
theorem dX4_countWrongPasses_57 : decode cX4_countWrongPasses 57 = .ok (.getfield 113, 3) := by decide +kernel
theorem dX4_countWrongPasses_60 : decode cX4_countWrongPasses 60 = .ok (.iload_n 2, 1) := by decide +kernel
theorem dX4_countWrongPasses_61 : decode cX4_countWrongPasses 61 = .ok (.iaload, 1) := by decide +kernel
theorem dX4_countWrongPasses_62 : decode cX4_countWrongPasses 62 = .ok (.iload_n 2, 1) := by decide +kernel
theorem dX4_countWrongPasses_63 : decode cX4_countWrongPasses 63 = .ok (.invokevirtual 248, 3) := by decide +kernel
theorem dX4_countWrongPasses_66 : decode cX4_countWrongPasses 66 = .ok (.ifCond .ne 6, 3) := by decide +kernel
theorem dX4_countWrongPasses_69 : decode cX4_countWrongPasses 69 = .ok (.iinc 1 1, 3) := by decide +kernel
theorem dX4_countWrongPasses_72 : decode cX4_countWrongPasses 72 = .ok (.aload_n 0, 1) := by decide +kernel
theorem dX4_countWrongPasses_73 : decode cX4_countWrongPasses 73 = .ok (.getfield 35, 3) := by decide +kernel
theorem dX4_countWrongPasses_76 : decode cX4_countWrongPasses 76 = .ok (.iload_n 2, 1) := by decide +kernel
theorem dX4_countWrongPasses_77 : decode cX4_countWrongPasses 77 = .ok (.invokevirtual 155, 3) := by decide +kernel
theorem dX4_countWrongPasses_80 : decode cX4_countWrongPasses 80 = .ok (.ifCond .eq 18, 3) := by decide +kernel
theorem dX4_countWrongPasses_83 : decode cX4_countWrongPasses 83 = .ok (.aload_n 0, 1) := by decide +kernel
theorem dX4_countWrongPasses_84 : decode cX4_countWrongPasses 84 = .ok (.getfield 35, 3) := by decide +kernel
theorem dX4_countWrongPasses_87 : decode cX4_countWrongPasses 87 = .ok (.getfield 123, 3) := by decide +kernel
theorem dX4_countWrongPasses_90 : decode cX4_countWrongPasses 90 = .ok (.iload_n 2, 1) := by decide +kernel
theorem dX4_countWrongPasses_91 : decode cX4_countWrongPasses 91 = .ok (.baload, 1) := by decide +kernel
theorem dX4_countWrongPasses_92 : decode cX4_countWrongPasses 92 = .ok (.ifCond .eq 6, 3) := by decide +kernel
theorem dX4_countWrongPasses_95 : decode cX4_countWrongPasses 95 = .ok (.iinc 1 1, 3) := by decide +kernel
theorem dX4_countWrongPasses_98 : decode cX4_countWrongPasses 98 = .ok (.iinc 2 1, 3) := by decide +kernel
theorem dX4_countWrongPasses_101 : decode cX4_countWrongPasses 101 = .ok (.goto (-97), 3) := by decide +kernel
theorem dX4_countWrongPasses_104 : decode cX4_countWrongPasses 104 = .ok (.iload_n 1, 1) := by decide +kernel
theorem dX4_countWrongPasses_105 : decode cX4_countWrongPasses 105 = .ok (.ireturn, 1) := by decide +kernel
theorem dX4_countWrongSums_0 : decode cX4_countWrongSums 0 = .ok (.aload_n 0, 1) := by decide +kernel
theorem dX4_countWrongSums_1 : decode cX4_countWrongSums 1 = .ok (.getfield 28, 3) := by decide +kernel
theorem dX4_countWrongSums_4 : decode cX4_countWrongSums 4 = .ok (.invokevirtual 251, 3) := by decide +kernel
theorem dX4_countWrongSums_7 : decode cX4_countWrongSums 7 = .ok (.aload_n 0, 1) := by decide +kernel
theorem dX4_countWrongSums_8 : decode cX4_countWrongSums 8 = .ok (.getfield 35, 3) := by decide +kernel
theorem dX4_countWrongSums_11 : decode cX4_countWrongSums 11 = .ok (.invokevirtual 254, 3) := by decide +kernel
theorem dX4_countWrongSums_14 : decode cX4_countWrongSums 14 = .ok (.if_icmp .ne 7, 3) := by decide +kernel
theorem dX4_countWrongSums_17 : decode cX4_countWrongSums 17 = .ok (.iconst 0, 1) := by decide +kernel
theorem dX4_countWrongSums_18 : decode cX4_countWrongSums 18 = .ok (.goto 4, 3) := by decide +kernel
theorem dX4_countWrongSums_21 : decode cX4_countWrongSums 21 = .ok (.iconst 1, 1) := by decide +kernel
theorem dX4_countWrongSums_22 : decode cX4_countWrongSums 22 = .ok (.istore_n 1, 1) := by decide +kernel
theorem dX4_countWrongSums_23 : decode cX4_countWrongSums 23 = .ok (.aload_n 0, 1) := by decide +kernel
theorem dX4_countWrongSums_24 : decode cX4_countWrongSums 24 = .ok (.getfield 49, 3) := by decide +kernel
theorem dX4_countWrongSums_27 : decode cX4_countWrongSums 27 = .ok (.getfield 233, 3) := by decide +kernel
theorem dX4_countWrongSums_30 : decode cX4_countWrongSums 30 = .ok (.aload_n 0, 1) := by decide +kernel
theorem dX4_countWrongSums_31 : decode cX4_countWrongSums 31 = .ok (.getfield 49, 3) := by decide +kernel
theorem dX4_countWrongSums_34 : decode cX4_countWrongSums 34 = .ok (.getfield 180, 3) := by decide +kernel
theorem dX4_countWrongSums_37 : decode cX4_countWrongSums 37 = .ok (.aload_n 0, 1) := by decide +kernel
theorem dX4_countWrongSums_38 : decode cX4_countWrongSums 38 = .ok (.getfield 35, 3) := by decide +kernel
theorem dX4_countWrongSums_41 : decode cX4_countWrongSums 41 = .ok (.invokevirtual 255, 3) := by decide +kernel
theorem dX4_countWrongSums_44 : decode cX4_countWrongSums 44 = .ok (.iadd, 1) := by decide +kernel
theorem dX4_countWrongSums_45 : decode cX4_countWrongSums 45 = .ok (.if_icmp .ne 7, 3) := by decide +kernel
theorem dX4_countWrongSums_48 : decode cX4_countWrongSums 48 = .ok (.iload_n 1, 1) := by decide +kernel
theorem dX4_countWrongSums_49 : decode cX4_countWrongSums 49 = .ok (.goto 6, 3) := by decide +kernel
theorem dX4_countWrongSums_52 : decode cX4_countWrongSums 52 = .ok (.iload_n 1, 1) := by decide +kernel
theorem dX4_countWrongSums_53 : decode cX4_countWrongSums 53 = .ok (.iconst 1, 1) := by decide +kernel
theorem dX4_countWrongSums_54 : decode cX4_countWrongSums 54 = .ok (.iadd, 1) := by decide +kernel
theorem dX4_countWrongSums_55 : decode cX4_countWrongSums 55 = .ok (.ireturn, 1) := by decide +kernel
theorem dX5_init_0 : decode cX5_init 0 = .ok (.aload_n 0, 1) := by decide +kernel
theorem dX5_init_1 : decode cX5_init 1 = .ok (.invokespecial 3, 3) := by decide +kernel
theorem dX5_init_4 : decode cX5_init 4 = .ok (.aload_n 0, 1) := by decide +kernel
theorem dX5_init_5 : decode cX5_init 5 = .ok (.bipush 8, 2) := by decide +kernel
theorem dX5_init_7 : decode cX5_init 7 = .ok (.anewarray 9, 3) := by decide +kernel
theorem dX5_init_10 : decode cX5_init 10 = .ok (.putfield 11, 3) := by decide +kernel
theorem dX5_init_13 : decode cX5_init 13 = .ok (.iconst 0, 1) := by decide +kernel
theorem dX5_init_14 : decode cX5_init 14 = .ok (.istore_n 1, 1) := by decide +kernel
theorem dX5_init_15 : decode cX5_init 15 = .ok (.iload_n 1, 1) := by decide +kernel
theorem dX5_init_16 : decode cX5_init 16 = .ok (.bipush 8, 2) := by decide +kernel
theorem dX5_init_18 : decode cX5_init 18 = .ok (.if_icmp .ge 22, 3) := by decide +kernel
theorem dX5_init_21 : decode cX5_init 21 = .ok (.aload_n 0, 1) := by decide +kernel
theorem dX5_init_22 : decode cX5_init 22 = .ok (.getfield 11, 3) := by decide +kernel
theorem dX5_init_25 : decode cX5_init 25 = .ok (.iload_n 1, 1) := by decide +kernel
theorem dX5_init_26 : decode cX5_init 26 = .ok (.new 9, 3) := by decide +kernel
theorem dX5_init_29 : decode cX5_init 29 = .ok (.dup, 1) := by decide +kernel
theorem dX5_init_30 : decode cX5_init 30 = .ok (.invokespecial 17, 3) := by decide +kernel
theorem dX5_init_33 : decode cX5_init 33 = .ok (.aastore, 1) := by decide +kernel
theorem dX5_init_34 : decode cX5_init 34 = .ok (.iinc 1 1, 3) := by decide +kernel
theorem dX5_init_37 : decode cX5_init 37 = .ok (.goto (-22), 3) := by decide +kernel
theorem dX5_init_40 : decode cX5_init 40 = .ok (.return_, 1) := by decide +kernel
theorem dX5_remember_0 : decode cX5_remember 0 = .ok (.aload_n 0, 1) := by decide +kernel
theorem dX5_remember_1 : decode cX5_remember 1 = .ok (.getfield 11, 3) := by decide +kernel
theorem dX5_remember_4 : decode cX5_remember 4 = .ok (.aload_n 0, 1) := by decide +kernel
theorem dX5_remember_5 : decode cX5_remember 5 = .ok (.getfield 18, 3) := by decide +kernel
theorem dX5_remember_8 : decode cX5_remember 8 = .ok (.aaload, 1) := by decide +kernel
theorem dX5_remember_9 : decode cX5_remember 9 = .ok (.aload_n 1, 1) := by decide +kernel
theorem dX5_remember_10 : decode cX5_remember 10 = .ok (.invokevirtual 22, 3) := by decide +kernel
theorem dX5_remember_13 : decode cX5_remember 13 = .ok (.aload_n 0, 1) := by decide +kernel
theorem dX5_remember_14 : decode cX5_remember 14 = .ok (.aload_n 0, 1) := by decide +kernel
theorem dX5_remember_15 : decode cX5_remember 15 = .ok (.getfield 18, 3) := by decide +kernel
theorem dX5_remember_18 : decode cX5_remember 18 = .ok (.iconst 1, 1) := by decide +kernel
theorem dX5_remember_19 : decode cX5_remember 19 = .ok (.iadd, 1) := by decide +kernel
theorem dX5_remember_20 : decode cX5_remember 20 = .ok (.bipush 8, 2) := by decide +kernel
theorem dX5_remember_22 : decode cX5_remember 22 = .ok (.irem, 1) := by decide +kernel
theorem dX5_remember_23 : decode cX5_remember 23 = .ok (.putfield 18, 3) := by decide +kernel
theorem dX5_remember_26 : decode cX5_remember 26 = .ok (.aload_n 0, 1) := by decide +kernel
theorem dX5_remember_27 : decode cX5_remember 27 = .ok (.bipush 8, 2) := by decide +kernel
theorem dX5_remember_29 : decode cX5_remember 29 = .ok (.aload_n 0, 1) := by decide +kernel
theorem dX5_remember_30 : decode cX5_remember 30 = .ok (.getfield 26, 3) := by decide +kernel
theorem dX5_remember_33 : decode cX5_remember 33 = .ok (.iconst 1, 1) := by decide +kernel
theorem dX5_remember_34 : decode cX5_remember 34 = .ok (.iadd, 1) := by decide +kernel
theorem dX5_remember_35 : decode cX5_remember 35 = .ok (.invokestatic 29, 3) := by decide +kernel
theorem dX5_remember_38 : decode cX5_remember 38 = .ok (.putfield 26, 3) := by decide +kernel
theorem dX5_remember_41 : decode cX5_remember 41 = .ok (.return_, 1) := by decide +kernel
theorem dX5_takeBack_0 : decode cX5_takeBack 0 = .ok (.aload_n 0, 1) := by decide +kernel
theorem dX5_takeBack_1 : decode cX5_takeBack 1 = .ok (.aload_n 0, 1) := by decide +kernel
theorem dX5_takeBack_2 : decode cX5_takeBack 2 = .ok (.getfield 18, 3) := by decide +kernel
theorem dX5_takeBack_5 : decode cX5_takeBack 5 = .ok (.bipush 8, 2) := by decide +kernel
theorem dX5_takeBack_7 : decode cX5_takeBack 7 = .ok (.iadd, 1) := by decide +kernel
theorem dX5_takeBack_8 : decode cX5_takeBack 8 = .ok (.iconst 1, 1) := by decide +kernel
theorem dX5_takeBack_9 : decode cX5_takeBack 9 = .ok (.isub, 1) := by decide +kernel
theorem dX5_takeBack_10 : decode cX5_takeBack 10 = .ok (.bipush 8, 2) := by decide +kernel
theorem dX5_takeBack_12 : decode cX5_takeBack 12 = .ok (.irem, 1) := by decide +kernel
theorem dX5_takeBack_13 : decode cX5_takeBack 13 = .ok (.putfield 18, 3) := by decide +kernel
theorem dX5_takeBack_16 : decode cX5_takeBack 16 = .ok (.aload_n 1, 1) := by decide +kernel
theorem dX5_takeBack_17 : decode cX5_takeBack 17 = .ok (.aload_n 0, 1) := by decide +kernel
theorem dX5_takeBack_18 : decode cX5_takeBack 18 = .ok (.getfield 11, 3) := by decide +kernel
theorem dX5_takeBack_21 : decode cX5_takeBack 21 = .ok (.aload_n 0, 1) := by decide +kernel
theorem dX5_takeBack_22 : decode cX5_takeBack 22 = .ok (.getfield 18, 3) := by decide +kernel
theorem dX5_takeBack_25 : decode cX5_takeBack 25 = .ok (.aaload, 1) := by decide +kernel
theorem dX5_takeBack_26 : decode cX5_takeBack 26 = .ok (.invokevirtual 22, 3) := by decide +kernel
theorem dX5_takeBack_29 : decode cX5_takeBack 29 = .ok (.aload_n 0, 1) := by decide +kernel
theorem dX5_takeBack_30 : decode cX5_takeBack 30 = .ok (.dup, 1) := by decide +kernel
theorem dX5_takeBack_31 : decode cX5_takeBack 31 = .ok (.getfield 26, 3) := by decide +kernel
theorem dX5_takeBack_34 : decode cX5_takeBack 34 = .ok (.iconst 1, 1) := by decide +kernel
theorem dX5_takeBack_35 : decode cX5_takeBack 35 = .ok (.isub, 1) := by decide +kernel
theorem dX5_takeBack_36 : decode cX5_takeBack 36 = .ok (.putfield 26, 3) := by decide +kernel
theorem dX5_takeBack_39 : decode cX5_takeBack 39 = .ok (.return_, 1) := by decide +kernel
theorem dX5_forget_0 : decode cX5_forget 0 = .ok (.aload_n 0, 1) := by decide +kernel
theorem dX5_forget_1 : decode cX5_forget 1 = .ok (.iconst 0, 1) := by decide +kernel
theorem dX5_forget_2 : decode cX5_forget 2 = .ok (.putfield 26, 3) := by decide +kernel
theorem dX5_forget_5 : decode cX5_forget 5 = .ok (.return_, 1) := by decide +kernel
theorem dX6_init_0 : decode cX6_init 0 = .ok (.aload_n 0, 1) := by decide +kernel
theorem dX6_init_1 : decode cX6_init 1 = .ok (.invokespecial 3, 3) := by decide +kernel
theorem dX6_init_4 : decode cX6_init 4 = .ok (.aload_n 0, 1) := by decide +kernel
theorem dX6_init_5 : decode cX6_init 5 = .ok (.sipush 500, 3) := by decide +kernel
theorem dX6_init_8 : decode cX6_init 8 = .ok (.newarray .byte, 2) := by decide +kernel
theorem dX6_init_10 : decode cX6_init 10 = .ok (.putfield 9, 3) := by decide +kernel
theorem dX6_init_13 : decode cX6_init 13 = .ok (.return_, 1) := by decide +kernel
theorem dX6_fill_0 : decode cX6_fill 0 = .ok (.aload_n 0, 1) := by decide +kernel
theorem dX6_fill_1 : decode cX6_fill 1 = .ok (.sipush 500, 3) := by decide +kernel
theorem dX6_fill_4 : decode cX6_fill 4 = .ok (.aload_n 1, 1) := by decide +kernel
theorem dX6_fill_5 : decode cX6_fill 5 = .ok (.invokevirtual 15, 3) := by decide +kernel
theorem dX6_fill_8 : decode cX6_fill 8 = .ok (.invokestatic 21, 3) := by decide +kernel
theorem dX6_fill_11 : decode cX6_fill 11 = .ok (.putfield 27, 3) := by decide +kernel
theorem dX6_fill_14 : decode cX6_fill 14 = .ok (.iconst 0, 1) := by decide +kernel
theorem dX6_fill_15 : decode cX6_fill 15 = .ok (.istore_n 2, 1) := by decide +kernel
theorem dX6_fill_16 : decode cX6_fill 16 = .ok (.iload_n 2, 1) := by decide +kernel
theorem dX6_fill_17 : decode cX6_fill 17 = .ok (.aload_n 0, 1) := by decide +kernel
theorem dX6_fill_18 : decode cX6_fill 18 = .ok (.getfield 27, 3) := by decide +kernel
theorem dX6_fill_21 : decode cX6_fill 21 = .ok (.if_icmp .ge 21, 3) := by decide +kernel
theorem dX6_fill_24 : decode cX6_fill 24 = .ok (.aload_n 0, 1) := by decide +kernel
theorem dX6_fill_25 : decode cX6_fill 25 = .ok (.getfield 9, 3) := by decide +kernel
theorem dX6_fill_28 : decode cX6_fill 28 = .ok (.iload_n 2, 1) := by decide +kernel
theorem dX6_fill_29 : decode cX6_fill 29 = .ok (.aload_n 1, 1) := by decide +kernel
theorem dX6_fill_30 : decode cX6_fill 30 = .ok (.iload_n 2, 1) := by decide +kernel
theorem dX6_fill_31 : decode cX6_fill 31 = .ok (.invokevirtual 30, 3) := by decide +kernel
theorem dX6_fill_34 : decode cX6_fill 34 = .ok (.i2b, 1) := by decide +kernel
theorem dX6_fill_35 : decode cX6_fill 35 = .ok (.bastore, 1) := by decide +kernel
theorem dX6_fill_36 : decode cX6_fill 36 = .ok (.iinc 2 1, 3) := by decide +kernel
theorem dX6_fill_39 : decode cX6_fill 39 = .ok (.goto (-23), 3) := by decide +kernel
theorem dX6_fill_42 : decode cX6_fill 42 = .ok (.return_, 1) := by decide +kernel
theorem dX6_addWord_0 : decode cX6_addWord 0 = .ok (.bipush 24, 2) := by decide +kernel
theorem dX6_addWord_2 : decode cX6_addWord 2 = .ok (.istore_n 2, 1) := by decide +kernel
theorem dX6_addWord_3 : decode cX6_addWord 3 = .ok (.iload_n 2, 1) := by decide +kernel
theorem dX6_addWord_4 : decode cX6_addWord 4 = .ok (.ifCond .lt 42, 3) := by decide +kernel
theorem dX6_addWord_7 : decode cX6_addWord 7 = .ok (.aload_n 0, 1) := by decide +kernel
theorem dX6_addWord_8 : decode cX6_addWord 8 = .ok (.getfield 27, 3) := by decide +kernel
theorem dX6_addWord_11 : decode cX6_addWord 11 = .ok (.sipush 500, 3) := by decide +kernel
theorem dX6_addWord_14 : decode cX6_addWord 14 = .ok (.if_icmp .ge 32, 3) := by decide +kernel
theorem dX6_addWord_17 : decode cX6_addWord 17 = .ok (.aload_n 0, 1) := by decide +kernel
theorem dX6_addWord_18 : decode cX6_addWord 18 = .ok (.getfield 9, 3) := by decide +kernel
theorem dX6_addWord_21 : decode cX6_addWord 21 = .ok (.aload_n 0, 1) := by decide +kernel
theorem dX6_addWord_22 : decode cX6_addWord 22 = .ok (.getfield 27, 3) := by decide +kernel
theorem dX6_addWord_25 : decode cX6_addWord 25 = .ok (.iload_n 1, 1) := by decide +kernel
theorem dX6_addWord_26 : decode cX6_addWord 26 = .ok (.iload_n 2, 1) := by decide +kernel
theorem dX6_addWord_27 : decode cX6_addWord 27 = .ok (.iushr, 1) := by decide +kernel
theorem dX6_addWord_28 : decode cX6_addWord 28 = .ok (.i2b, 1) := by decide +kernel
theorem dX6_addWord_29 : decode cX6_addWord 29 = .ok (.bastore, 1) := by decide +kernel
theorem dX6_addWord_30 : decode cX6_addWord 30 = .ok (.aload_n 0, 1) := by decide +kernel
theorem dX6_addWord_31 : decode cX6_addWord 31 = .ok (.dup, 1) := by decide +kernel
theorem dX6_addWord_32 : decode cX6_addWord 32 = .ok (.getfield 27, 3) := by decide +kernel
theorem dX6_addWord_35 : decode cX6_addWord 35 = .ok (.iconst 1, 1) := by decide +kernel
theorem dX6_addWord_36 : decode cX6_addWord 36 = .ok (.iadd, 1) := by decide +kernel
theorem dX6_addWord_37 : decode cX6_addWord 37 = .ok (.putfield 27, 3) := by decide +kernel
theorem dX6_addWord_40 : decode cX6_addWord 40 = .ok (.iinc 2 (-8), 3) := by decide +kernel
theorem dX6_addWord_43 : decode cX6_addWord 43 = .ok (.goto (-40), 3) := by decide +kernel
theorem dX6_addWord_46 : decode cX6_addWord 46 = .ok (.return_, 1) := by decide +kernel
theorem dX6_readFirst_0 : decode cX6_readFirst 0 = .ok (.aload_n 0, 1) := by decide +kernel
theorem dX6_readFirst_1 : decode cX6_readFirst 1 = .ok (.iconst 0, 1) := by decide +kernel
theorem dX6_readFirst_2 : decode cX6_readFirst 2 = .ok (.putfield 34, 3) := by decide +kernel
theorem dX6_readFirst_5 : decode cX6_readFirst 5 = .ok (.aload_n 0, 1) := by decide +kernel
theorem dX6_readFirst_6 : decode cX6_readFirst 6 = .ok (.invokevirtual 37, 3) := by decide +kernel
theorem dX6_readFirst_9 : decode cX6_readFirst 9 = .ok (.return_, 1) := by decide +kernel
theorem dX6_readNext_0 : decode cX6_readNext 0 = .ok (.aload_n 0, 1) := by decide +kernel
theorem dX6_readNext_1 : decode cX6_readNext 1 = .ok (.aload_n 0, 1) := by decide +kernel
theorem dX6_readNext_2 : decode cX6_readNext 2 = .ok (.getfield 34, 3) := by decide +kernel
theorem dX6_readNext_5 : decode cX6_readNext 5 = .ok (.putfield 40, 3) := by decide +kernel
theorem dX6_readNext_8 : decode cX6_readNext 8 = .ok (.aload_n 0, 1) := by decide +kernel
theorem dX6_readNext_9 : decode cX6_readNext 9 = .ok (.getfield 40, 3) := by decide +kernel
theorem dX6_readNext_12 : decode cX6_readNext 12 = .ok (.aload_n 0, 1) := by decide +kernel
theorem dX6_readNext_13 : decode cX6_readNext 13 = .ok (.getfield 27, 3) := by decide +kernel
theorem dX6_readNext_16 : decode cX6_readNext 16 = .ok (.if_icmp .ge 44, 3) := by decide +kernel
theorem dX6_readNext_19 : decode cX6_readNext 19 = .ok (.aload_n 0, 1) := by decide +kernel
theorem dX6_readNext_20 : decode cX6_readNext 20 = .ok (.getfield 9, 3) := by decide +kernel
theorem dX6_readNext_23 : decode cX6_readNext 23 = .ok (.aload_n 0, 1) := by decide +kernel
theorem dX6_readNext_24 : decode cX6_readNext 24 = .ok (.getfield 40, 3) := by decide +kernel
theorem dX6_readNext_27 : decode cX6_readNext 27 = .ok (.baload, 1) := by decide +kernel
theorem dX6_readNext_28 : decode cX6_readNext 28 = .ok (.bipush 32, 2) := by decide +kernel
theorem dX6_readNext_30 : decode cX6_readNext 30 = .ok (.if_icmp .eq 17, 3) := by decide +kernel
theorem dX6_readNext_33 : decode cX6_readNext 33 = .ok (.aload_n 0, 1) := by decide +kernel
theorem dX6_readNext_34 : decode cX6_readNext 34 = .ok (.getfield 9, 3) := by decide +kernel
theorem dX6_readNext_37 : decode cX6_readNext 37 = .ok (.aload_n 0, 1) := by decide +kernel
theorem dX6_readNext_38 : decode cX6_readNext 38 = .ok (.getfield 40, 3) := by decide +kernel
theorem dX6_readNext_41 : decode cX6_readNext 41 = .ok (.baload, 1) := by decide +kernel
theorem dX6_readNext_42 : decode cX6_readNext 42 = .ok (.bipush 10, 2) := by decide +kernel
theorem dX6_readNext_44 : decode cX6_readNext 44 = .ok (.if_icmp .ne 16, 3) := by decide +kernel
theorem dX6_readNext_47 : decode cX6_readNext 47 = .ok (.aload_n 0, 1) := by decide +kernel
theorem dX6_readNext_48 : decode cX6_readNext 48 = .ok (.dup, 1) := by decide +kernel
theorem dX6_readNext_49 : decode cX6_readNext 49 = .ok (.getfield 40, 3) := by decide +kernel
theorem dX6_readNext_52 : decode cX6_readNext 52 = .ok (.iconst 1, 1) := by decide +kernel
theorem dX6_readNext_53 : decode cX6_readNext 53 = .ok (.iadd, 1) := by decide +kernel
theorem dX6_readNext_54 : decode cX6_readNext 54 = .ok (.putfield 40, 3) := by decide +kernel
theorem dX6_readNext_57 : decode cX6_readNext 57 = .ok (.goto (-49), 3) := by decide +kernel
theorem dX6_readNext_60 : decode cX6_readNext 60 = .ok (.aload_n 0, 1) := by decide +kernel
theorem dX6_readNext_61 : decode cX6_readNext 61 = .ok (.aload_n 0, 1) := by decide +kernel
theorem dX6_readNext_62 : decode cX6_readNext 62 = .ok (.getfield 40, 3) := by decide +kernel
theorem dX6_readNext_65 : decode cX6_readNext 65 = .ok (.putfield 34, 3) := by decide +kernel
theorem dX6_readNext_68 : decode cX6_readNext 68 = .ok (.aload_n 0, 1) := by decide +kernel
theorem dX6_readNext_69 : decode cX6_readNext 69 = .ok (.getfield 40, 3) := by decide +kernel
theorem dX6_readNext_72 : decode cX6_readNext 72 = .ok (.aload_n 0, 1) := by decide +kernel
theorem dX6_readNext_73 : decode cX6_readNext 73 = .ok (.getfield 27, 3) := by decide +kernel
theorem dX6_readNext_76 : decode cX6_readNext 76 = .ok (.if_icmp .ne 9, 3) := by decide +kernel
theorem dX6_readNext_79 : decode cX6_readNext 79 = .ok (.aload_n 0, 1) := by decide +kernel
theorem dX6_readNext_80 : decode cX6_readNext 80 = .ok (.iconst 3, 1) := by decide +kernel
theorem dX6_readNext_81 : decode cX6_readNext 81 = .ok (.putfield 43, 3) := by decide +kernel
theorem dX6_readNext_84 : decode cX6_readNext 84 = .ok (.return_, 1) := by decide +kernel
theorem dX6_readNext_85 : decode cX6_readNext 85 = .ok (.aload_n 0, 1) := by decide +kernel
theorem dX6_readNext_86 : decode cX6_readNext 86 = .ok (.aload_n 0, 1) := by decide +kernel
theorem dX6_readNext_87 : decode cX6_readNext 87 = .ok (.getfield 9, 3) := by decide +kernel
theorem dX6_readNext_90 : decode cX6_readNext 90 = .ok (.aload_n 0, 1) := by decide +kernel
theorem dX6_readNext_91 : decode cX6_readNext 91 = .ok (.getfield 40, 3) := by decide +kernel
theorem dX6_readNext_94 : decode cX6_readNext 94 = .ok (.baload, 1) := by decide +kernel
theorem dX6_readNext_95 : decode cX6_readNext 95 = .ok (.invokestatic 46, 3) := by decide +kernel
theorem dX6_readNext_98 : decode cX6_readNext 98 = .ok (.putfield 43, 3) := by decide +kernel
theorem dX6_readNext_101 : decode cX6_readNext 101 = .ok (.aload_n 0, 1) := by decide +kernel
theorem dX6_readNext_102 : decode cX6_readNext 102 = .ok (.dup, 1) := by decide +kernel
theorem dX6_readNext_103 : decode cX6_readNext 103 = .ok (.getfield 34, 3) := by decide +kernel
theorem dX6_readNext_106 : decode cX6_readNext 106 = .ok (.iconst 1, 1) := by decide +kernel
theorem dX6_readNext_107 : decode cX6_readNext 107 = .ok (.iadd, 1) := by decide +kernel
theorem dX6_readNext_108 : decode cX6_readNext 108 = .ok (.putfield 34, 3) := by decide +kernel
theorem dX6_readNext_111 : decode cX6_readNext 111 = .ok (.aload_n 0, 1) := by decide +kernel
theorem dX6_readNext_112 : decode cX6_readNext 112 = .ok (.getfield 43, 3) := by decide +kernel
theorem dX6_readNext_115 : decode cX6_readNext 115 = .ok (.ifCond .eq 11, 3) := by decide +kernel
theorem dX6_readNext_118 : decode cX6_readNext 118 = .ok (.aload_n 0, 1) := by decide +kernel
theorem dX6_readNext_119 : decode cX6_readNext 119 = .ok (.getfield 43, 3) := by decide +kernel
theorem dX6_readNext_122 : decode cX6_readNext 122 = .ok (.iconst 1, 1) := by decide +kernel
theorem dX6_readNext_123 : decode cX6_readNext 123 = .ok (.if_icmp .ne 46, 3) := by decide +kernel
theorem dX6_readNext_126 : decode cX6_readNext 126 = .ok (.aload_n 0, 1) := by decide +kernel
theorem dX6_readNext_127 : decode cX6_readNext 127 = .ok (.getfield 34, 3) := by decide +kernel
theorem dX6_readNext_130 : decode cX6_readNext 130 = .ok (.aload_n 0, 1) := by decide +kernel
theorem dX6_readNext_131 : decode cX6_readNext 131 = .ok (.getfield 27, 3) := by decide +kernel
theorem dX6_readNext_134 : decode cX6_readNext 134 = .ok (.if_icmp .ge 35, 3) := by decide +kernel
theorem dX6_readNext_137 : decode cX6_readNext 137 = .ok (.aload_n 0, 1) := by decide +kernel
theorem dX6_readNext_138 : decode cX6_readNext 138 = .ok (.getfield 9, 3) := by decide +kernel
theorem dX6_readNext_141 : decode cX6_readNext 141 = .ok (.aload_n 0, 1) := by decide +kernel
theorem dX6_readNext_142 : decode cX6_readNext 142 = .ok (.getfield 34, 3) := by decide +kernel
theorem dX6_readNext_145 : decode cX6_readNext 145 = .ok (.baload, 1) := by decide +kernel
theorem dX6_readNext_146 : decode cX6_readNext 146 = .ok (.invokestatic 46, 3) := by decide +kernel
theorem dX6_readNext_149 : decode cX6_readNext 149 = .ok (.aload_n 0, 1) := by decide +kernel
theorem dX6_readNext_150 : decode cX6_readNext 150 = .ok (.getfield 43, 3) := by decide +kernel
theorem dX6_readNext_153 : decode cX6_readNext 153 = .ok (.if_icmp .ne 16, 3) := by decide +kernel
theorem dX6_readNext_156 : decode cX6_readNext 156 = .ok (.aload_n 0, 1) := by decide +kernel
theorem dX6_readNext_157 : decode cX6_readNext 157 = .ok (.dup, 1) := by decide +kernel
theorem dX6_readNext_158 : decode cX6_readNext 158 = .ok (.getfield 34, 3) := by decide +kernel
theorem dX6_readNext_161 : decode cX6_readNext 161 = .ok (.iconst 1, 1) := by decide +kernel
theorem dX6_readNext_162 : decode cX6_readNext 162 = .ok (.iadd, 1) := by decide +kernel
theorem dX6_readNext_163 : decode cX6_readNext 163 = .ok (.putfield 34, 3) := by decide +kernel
theorem dX6_readNext_166 : decode cX6_readNext 166 = .ok (.goto (-55), 3) := by decide +kernel
theorem dX6_readNext_169 : decode cX6_readNext 169 = .ok (.aload_n 0, 1) := by decide +kernel
theorem dX6_readNext_170 : decode cX6_readNext 170 = .ok (.getfield 43, 3) := by decide +kernel
theorem dX6_readNext_173 : decode cX6_readNext 173 = .ok (.iconst 1, 1) := by decide +kernel
theorem dX6_readNext_174 : decode cX6_readNext 174 = .ok (.if_icmp .ne 21, 3) := by decide +kernel
theorem dX6_readNext_177 : decode cX6_readNext 177 = .ok (.aload_n 0, 1) := by decide +kernel
theorem dX6_readNext_178 : decode cX6_readNext 178 = .ok (.getfield 34, 3) := by decide +kernel
theorem dX6_readNext_181 : decode cX6_readNext 181 = .ok (.aload_n 0, 1) := by decide +kernel
theorem dX6_readNext_182 : decode cX6_readNext 182 = .ok (.getfield 40, 3) := by decide +kernel
theorem dX6_readNext_185 : decode cX6_readNext 185 = .ok (.isub, 1) := by decide +kernel
theorem dX6_readNext_186 : decode cX6_readNext 186 = .ok (.iconst 4, 1) := by decide +kernel
theorem dX6_readNext_187 : decode cX6_readNext 187 = .ok (.if_icmp .le 8, 3) := by decide +kernel
theorem dX6_readNext_190 : decode cX6_readNext 190 = .ok (.aload_n 0, 1) := by decide +kernel
theorem dX6_readNext_191 : decode cX6_readNext 191 = .ok (.iconst 4, 1) := by decide +kernel
theorem dX6_readNext_192 : decode cX6_readNext 192 = .ok (.putfield 43, 3) := by decide +kernel
theorem dX6_readNext_195 : decode cX6_readNext 195 = .ok (.return_, 1) := by decide +kernel
theorem dX6_kindOf_0 : decode cX6_kindOf 0 = .ok (.iload_n 0, 1) := by decide +kernel
theorem dX6_kindOf_1 : decode cX6_kindOf 1 = .ok (.bipush 97, 2) := by decide +kernel
theorem dX6_kindOf_3 : decode cX6_kindOf 3 = .ok (.if_icmp .lt 11, 3) := by decide +kernel
theorem dX6_kindOf_6 : decode cX6_kindOf 6 = .ok (.iload_n 0, 1) := by decide +kernel
theorem dX6_kindOf_7 : decode cX6_kindOf 7 = .ok (.bipush 122, 2) := by decide +kernel
theorem dX6_kindOf_9 : decode cX6_kindOf 9 = .ok (.if_icmp .gt 5, 3) := by decide +kernel
theorem dX6_kindOf_12 : decode cX6_kindOf 12 = .ok (.iconst 0, 1) := by decide +kernel
theorem dX6_kindOf_13 : decode cX6_kindOf 13 = .ok (.ireturn, 1) := by decide +kernel
theorem dX6_kindOf_14 : decode cX6_kindOf 14 = .ok (.iload_n 0, 1) := by decide +kernel
theorem dX6_kindOf_15 : decode cX6_kindOf 15 = .ok (.bipush 48, 2) := by decide +kernel
theorem dX6_kindOf_17 : decode cX6_kindOf 17 = .ok (.if_icmp .lt 11, 3) := by decide +kernel
theorem dX6_kindOf_20 : decode cX6_kindOf 20 = .ok (.iload_n 0, 1) := by decide +kernel
theorem dX6_kindOf_21 : decode cX6_kindOf 21 = .ok (.bipush 57, 2) := by decide +kernel
theorem dX6_kindOf_23 : decode cX6_kindOf 23 = .ok (.if_icmp .gt 5, 3) := by decide +kernel
theorem dX6_kindOf_26 : decode cX6_kindOf 26 = .ok (.iconst 1, 1) := by decide +kernel
theorem dX6_kindOf_27 : decode cX6_kindOf 27 = .ok (.ireturn, 1) := by decide +kernel
theorem dX6_kindOf_28 : decode cX6_kindOf 28 = .ok (.iload_n 0, 1) := by decide +kernel
theorem dX6_kindOf_29 : decode cX6_kindOf 29 = .ok (.bipush 59, 2) := by decide +kernel
theorem dX6_kindOf_31 : decode cX6_kindOf 31 = .ok (.if_icmp .ne 7, 3) := by decide +kernel
theorem dX6_kindOf_34 : decode cX6_kindOf 34 = .ok (.iconst 2, 1) := by decide +kernel
theorem dX6_kindOf_35 : decode cX6_kindOf 35 = .ok (.goto 4, 3) := by decide +kernel
theorem dX6_kindOf_38 : decode cX6_kindOf 38 = .ok (.iconst 4, 1) := by decide +kernel
theorem dX6_kindOf_39 : decode cX6_kindOf 39 = .ok (.ireturn, 1) := by decide +kernel
theorem dX6_isWord_0 : decode cX6_isWord 0 = .ok (.aload_n 0, 1) := by decide +kernel
theorem dX6_isWord_1 : decode cX6_isWord 1 = .ok (.getfield 43, 3) := by decide +kernel
theorem dX6_isWord_4 : decode cX6_isWord 4 = .ok (.ifCond .ne 19, 3) := by decide +kernel
theorem dX6_isWord_7 : decode cX6_isWord 7 = .ok (.aload_n 0, 1) := by decide +kernel
theorem dX6_isWord_8 : decode cX6_isWord 8 = .ok (.getfield 34, 3) := by decide +kernel
theorem dX6_isWord_11 : decode cX6_isWord 11 = .ok (.aload_n 0, 1) := by decide +kernel
theorem dX6_isWord_12 : decode cX6_isWord 12 = .ok (.getfield 40, 3) := by decide +kernel
theorem dX6_isWord_15 : decode cX6_isWord 15 = .ok (.isub, 1) := by decide +kernel
theorem dX6_isWord_16 : decode cX6_isWord 16 = .ok (.aload_n 1, 1) := by decide +kernel
theorem dX6_isWord_17 : decode cX6_isWord 17 = .ok (.invokevirtual 15, 3) := by decide +kernel
theorem dX6_isWord_20 : decode cX6_isWord 20 = .ok (.if_icmp .eq 5, 3) := by decide +kernel
theorem dX6_isWord_23 : decode cX6_isWord 23 = .ok (.iconst 0, 1) := by decide +kernel
theorem dX6_isWord_24 : decode cX6_isWord 24 = .ok (.ireturn, 1) := by decide +kernel
theorem dX6_isWord_25 : decode cX6_isWord 25 = .ok (.iconst 0, 1) := by decide +kernel
theorem dX6_isWord_26 : decode cX6_isWord 26 = .ok (.istore_n 2, 1) := by decide +kernel
theorem dX6_isWord_27 : decode cX6_isWord 27 = .ok (.iload_n 2, 1) := by decide +kernel
theorem dX6_isWord_28 : decode cX6_isWord 28 = .ok (.aload_n 1, 1) := by decide +kernel
theorem dX6_isWord_29 : decode cX6_isWord 29 = .ok (.invokevirtual 15, 3) := by decide +kernel
theorem dX6_isWord_32 : decode cX6_isWord 32 = .ok (.if_icmp .ge 30, 3) := by decide +kernel
theorem dX6_isWord_35 : decode cX6_isWord 35 = .ok (.aload_n 0, 1) := by decide +kernel
theorem dX6_isWord_36 : decode cX6_isWord 36 = .ok (.getfield 9, 3) := by decide +kernel
theorem dX6_isWord_39 : decode cX6_isWord 39 = .ok (.aload_n 0, 1) := by decide +kernel
theorem dX6_isWord_40 : decode cX6_isWord 40 = .ok (.getfield 40, 3) := by decide +kernel
theorem dX6_isWord_43 : decode cX6_isWord 43 = .ok (.iload_n 2, 1) := by decide +kernel
theorem dX6_isWord_44 : decode cX6_isWord 44 = .ok (.iadd, 1) := by decide +kernel
theorem dX6_isWord_45 : decode cX6_isWord 45 = .ok (.baload, 1) := by decide +kernel
theorem dX6_isWord_46 : decode cX6_isWord 46 = .ok (.aload_n 1, 1) := by decide +kernel
theorem dX6_isWord_47 : decode cX6_isWord 47 = .ok (.iload_n 2, 1) := by decide +kernel
theorem dX6_isWord_48 : decode cX6_isWord 48 = .ok (.invokevirtual 30, 3) := by decide +kernel
theorem dX6_isWord_51 : decode cX6_isWord 51 = .ok (.if_icmp .eq 5, 3) := by decide +kernel
theorem dX6_isWord_54 : decode cX6_isWord 54 = .ok (.iconst 0, 1) := by decide +kernel
theorem dX6_isWord_55 : decode cX6_isWord 55 = .ok (.ireturn, 1) := by decide +kernel
theorem dX6_isWord_56 : decode cX6_isWord 56 = .ok (.iinc 2 1, 3) := by decide +kernel
theorem dX6_isWord_59 : decode cX6_isWord 59 = .ok (.goto (-32), 3) := by decide +kernel
theorem dX6_isWord_62 : decode cX6_isWord 62 = .ok (.iconst 1, 1) := by decide +kernel
theorem dX6_isWord_63 : decode cX6_isWord 63 = .ok (.ireturn, 1) := by decide +kernel
theorem dX6_valueOfNumber_0 : decode cX6_valueOfNumber 0 = .ok (.iconst 0, 1) := by decide +kernel
theorem dX6_valueOfNumber_1 : decode cX6_valueOfNumber 1 = .ok (.istore_n 1, 1) := by decide +kernel
theorem dX6_valueOfNumber_2 : decode cX6_valueOfNumber 2 = .ok (.aload_n 0, 1) := by decide +kernel
theorem dX6_valueOfNumber_3 : decode cX6_valueOfNumber 3 = .ok (.getfield 40, 3) := by decide +kernel
theorem dX6_valueOfNumber_6 : decode cX6_valueOfNumber 6 = .ok (.istore_n 2, 1) := by decide +kernel
theorem dX6_valueOfNumber_7 : decode cX6_valueOfNumber 7 = .ok (.iload_n 2, 1) := by decide +kernel
theorem dX6_valueOfNumber_8 : decode cX6_valueOfNumber 8 = .ok (.aload_n 0, 1) := by decide +kernel
theorem dX6_valueOfNumber_9 : decode cX6_valueOfNumber 9 = .ok (.getfield 34, 3) := by decide +kernel
theorem dX6_valueOfNumber_12 : decode cX6_valueOfNumber 12 = .ok (.if_icmp .ge 24, 3) := by decide +kernel
theorem dX6_valueOfNumber_15 : decode cX6_valueOfNumber 15 = .ok (.iload_n 1, 1) := by decide +kernel
theorem dX6_valueOfNumber_16 : decode cX6_valueOfNumber 16 = .ok (.bipush 10, 2) := by decide +kernel
theorem dX6_valueOfNumber_18 : decode cX6_valueOfNumber 18 = .ok (.imul, 1) := by decide +kernel
theorem dX6_valueOfNumber_19 : decode cX6_valueOfNumber 19 = .ok (.aload_n 0, 1) := by decide +kernel
theorem dX6_valueOfNumber_20 : decode cX6_valueOfNumber 20 = .ok (.getfield 9, 3) := by decide +kernel
theorem dX6_valueOfNumber_23 : decode cX6_valueOfNumber 23 = .ok (.iload_n 2, 1) := by decide +kernel
theorem dX6_valueOfNumber_24 : decode cX6_valueOfNumber 24 = .ok (.baload, 1) := by decide +kernel
theorem dX6_valueOfNumber_25 : decode cX6_valueOfNumber 25 = .ok (.iadd, 1) := by decide +kernel
theorem dX6_valueOfNumber_26 : decode cX6_valueOfNumber 26 = .ok (.bipush 48, 2) := by decide +kernel
theorem dX6_valueOfNumber_28 : decode cX6_valueOfNumber 28 = .ok (.isub, 1) := by decide +kernel
theorem dX6_valueOfNumber_29 : decode cX6_valueOfNumber 29 = .ok (.istore_n 1, 1) := by decide +kernel
theorem dX6_valueOfNumber_30 : decode cX6_valueOfNumber 30 = .ok (.iinc 2 1, 3) := by decide +kernel
theorem dX6_valueOfNumber_33 : decode cX6_valueOfNumber 33 = .ok (.goto (-26), 3) := by decide +kernel
theorem dX6_valueOfNumber_36 : decode cX6_valueOfNumber 36 = .ok (.iload_n 1, 1) := by decide +kernel
theorem dX6_valueOfNumber_37 : decode cX6_valueOfNumber 37 = .ok (.ireturn, 1) := by decide +kernel
theorem dX7_init_0 : decode cX7_init 0 = .ok (.aload_n 0, 1) := by decide +kernel
theorem dX7_init_1 : decode cX7_init 1 = .ok (.invokespecial 3, 3) := by decide +kernel
theorem dX7_init_4 : decode cX7_init 4 = .ok (.aload_n 0, 1) := by decide +kernel
theorem dX7_init_5 : decode cX7_init 5 = .ok (.bipush 30, 2) := by decide +kernel
theorem dX7_init_7 : decode cX7_init 7 = .ok (.newarray .int, 2) := by decide +kernel
theorem dX7_init_9 : decode cX7_init 9 = .ok (.putfield 9, 3) := by decide +kernel
theorem dX7_init_12 : decode cX7_init 12 = .ok (.aload_n 0, 1) := by decide +kernel
theorem dX7_init_13 : decode cX7_init 13 = .ok (.bipush 30, 2) := by decide +kernel
theorem dX7_init_15 : decode cX7_init 15 = .ok (.newarray .int, 2) := by decide +kernel
theorem dX7_init_17 : decode cX7_init 17 = .ok (.putfield 15, 3) := by decide +kernel
theorem dX7_init_20 : decode cX7_init 20 = .ok (.aload_n 0, 1) := by decide +kernel
theorem dX7_init_21 : decode cX7_init 21 = .ok (.bipush 30, 2) := by decide +kernel
theorem dX7_init_23 : decode cX7_init 23 = .ok (.newarray .int, 2) := by decide +kernel
theorem dX7_init_25 : decode cX7_init 25 = .ok (.putfield 18, 3) := by decide +kernel
theorem dX7_init_28 : decode cX7_init 28 = .ok (.aload_n 0, 1) := by decide +kernel
theorem dX7_init_29 : decode cX7_init 29 = .ok (.bipush 30, 2) := by decide +kernel
theorem dX7_init_31 : decode cX7_init 31 = .ok (.newarray .int, 2) := by decide +kernel
theorem dX7_init_33 : decode cX7_init 33 = .ok (.putfield 21, 3) := by decide +kernel
theorem dX7_init_36 : decode cX7_init 36 = .ok (.aload_n 0, 1) := by decide +kernel
theorem dX7_init_37 : decode cX7_init 37 = .ok (.bipush 30, 2) := by decide +kernel
theorem dX7_init_39 : decode cX7_init 39 = .ok (.newarray .int, 2) := by decide +kernel
theorem dX7_init_41 : decode cX7_init 41 = .ok (.putfield 24, 3) := by decide +kernel
theorem dX7_init_44 : decode cX7_init 44 = .ok (.aload_n 0, 1) := by decide +kernel
theorem dX7_init_45 : decode cX7_init 45 = .ok (.bipush 30, 2) := by decide +kernel
theorem dX7_init_47 : decode cX7_init 47 = .ok (.newarray .int, 2) := by decide +kernel
theorem dX7_init_49 : decode cX7_init 49 = .ok (.putfield 27, 3) := by decide +kernel
theorem dX7_init_52 : decode cX7_init 52 = .ok (.aload_n 0, 1) := by decide +kernel
theorem dX7_init_53 : decode cX7_init 53 = .ok (.bipush 30, 2) := by decide +kernel
theorem dX7_init_55 : decode cX7_init 55 = .ok (.newarray .boolean, 2) := by decide +kernel
theorem dX7_init_57 : decode cX7_init 57 = .ok (.putfield 30, 3) := by decide +kernel
theorem dX7_init_60 : decode cX7_init 60 = .ok (.aload_n 0, 1) := by decide +kernel
theorem dX7_init_61 : decode cX7_init 61 = .ok (.bipush 30, 2) := by decide +kernel
theorem dX7_init_63 : decode cX7_init 63 = .ok (.newarray .int, 2) := by decide +kernel
theorem dX7_init_65 : decode cX7_init 65 = .ok (.putfield 34, 3) := by decide +kernel
theorem dX7_init_68 : decode cX7_init 68 = .ok (.aload_n 0, 1) := by decide +kernel
theorem dX7_init_69 : decode cX7_init 69 = .ok (.bipush 30, 2) := by decide +kernel
theorem dX7_init_71 : decode cX7_init 71 = .ok (.newarray .int, 2) := by decide +kernel
theorem dX7_init_73 : decode cX7_init 73 = .ok (.putfield 37, 3) := by decide +kernel
theorem dX7_init_76 : decode cX7_init 76 = .ok (.aload_n 0, 1) := by decide +kernel
theorem dX7_init_77 : decode cX7_init 77 = .ok (.bipush 30, 2) := by decide +kernel
theorem dX7_init_79 : decode cX7_init 79 = .ok (.newarray .int, 2) := by decide +kernel
theorem dX7_init_81 : decode cX7_init 81 = .ok (.putfield 40, 3) := by decide +kernel
theorem dX7_init_84 : decode cX7_init 84 = .ok (.aload_n 0, 1) := by decide +kernel
theorem dX7_init_85 : decode cX7_init 85 = .ok (.bipush 30, 2) := by decide +kernel
theorem dX7_init_87 : decode cX7_init 87 = .ok (.newarray .int, 2) := by decide +kernel
theorem dX7_init_89 : decode cX7_init 89 = .ok (.putfield 43, 3) := by decide +kernel
theorem dX7_init_92 : decode cX7_init 92 = .ok (.aload_n 0, 1) := by decide +kernel
theorem dX7_init_93 : decode cX7_init 93 = .ok (.bipush 30, 2) := by decide +kernel
theorem dX7_init_95 : decode cX7_init 95 = .ok (.newarray .int, 2) := by decide +kernel
theorem dX7_init_97 : decode cX7_init 97 = .ok (.putfield 46, 3) := by decide +kernel
theorem dX7_init_100 : decode cX7_init 100 = .ok (.return_, 1) := by decide +kernel
theorem dX7_copyFrom_0 : decode cX7_copyFrom 0 = .ok (.aload_n 0, 1) := by decide +kernel
theorem dX7_copyFrom_1 : decode cX7_copyFrom 1 = .ok (.aload_n 1, 1) := by decide +kernel
theorem dX7_copyFrom_2 : decode cX7_copyFrom 2 = .ok (.getfield 49, 3) := by decide +kernel
theorem dX7_copyFrom_5 : decode cX7_copyFrom 5 = .ok (.putfield 49, 3) := by decide +kernel
theorem dX7_copyFrom_8 : decode cX7_copyFrom 8 = .ok (.aload_n 1, 1) := by decide +kernel
theorem dX7_copyFrom_9 : decode cX7_copyFrom 9 = .ok (.getfield 9, 3) := by decide +kernel
theorem dX7_copyFrom_12 : decode cX7_copyFrom 12 = .ok (.iconst 0, 1) := by decide +kernel
theorem dX7_copyFrom_13 : decode cX7_copyFrom 13 = .ok (.aload_n 0, 1) := by decide +kernel
theorem dX7_copyFrom_14 : decode cX7_copyFrom 14 = .ok (.getfield 9, 3) := by decide +kernel
theorem dX7_copyFrom_17 : decode cX7_copyFrom 17 = .ok (.iconst 0, 1) := by decide +kernel
theorem dX7_copyFrom_18 : decode cX7_copyFrom 18 = .ok (.aload_n 0, 1) := by decide +kernel
theorem dX7_copyFrom_19 : decode cX7_copyFrom 19 = .ok (.getfield 49, 3) := by decide +kernel
theorem dX7_copyFrom_22 : decode cX7_copyFrom 22 = .ok (.invokestatic 53, 3) := by decide +kernel
theorem dX7_copyFrom_25 : decode cX7_copyFrom 25 = .ok (.aload_n 1, 1) := by decide +kernel
theorem dX7_copyFrom_26 : decode cX7_copyFrom 26 = .ok (.getfield 15, 3) := by decide +kernel
theorem dX7_copyFrom_29 : decode cX7_copyFrom 29 = .ok (.iconst 0, 1) := by decide +kernel
theorem dX7_copyFrom_30 : decode cX7_copyFrom 30 = .ok (.aload_n 0, 1) := by decide +kernel
theorem dX7_copyFrom_31 : decode cX7_copyFrom 31 = .ok (.getfield 15, 3) := by decide +kernel
theorem dX7_copyFrom_34 : decode cX7_copyFrom 34 = .ok (.iconst 0, 1) := by decide +kernel
theorem dX7_copyFrom_35 : decode cX7_copyFrom 35 = .ok (.aload_n 0, 1) := by decide +kernel
theorem dX7_copyFrom_36 : decode cX7_copyFrom 36 = .ok (.getfield 49, 3) := by decide +kernel
theorem dX7_copyFrom_39 : decode cX7_copyFrom 39 = .ok (.invokestatic 53, 3) := by decide +kernel
theorem dX7_copyFrom_42 : decode cX7_copyFrom 42 = .ok (.aload_n 1, 1) := by decide +kernel
theorem dX7_copyFrom_43 : decode cX7_copyFrom 43 = .ok (.getfield 18, 3) := by decide +kernel
theorem dX7_copyFrom_46 : decode cX7_copyFrom 46 = .ok (.iconst 0, 1) := by decide +kernel
theorem dX7_copyFrom_47 : decode cX7_copyFrom 47 = .ok (.aload_n 0, 1) := by decide +kernel
theorem dX7_copyFrom_48 : decode cX7_copyFrom 48 = .ok (.getfield 18, 3) := by decide +kernel
theorem dX7_copyFrom_51 : decode cX7_copyFrom 51 = .ok (.iconst 0, 1) := by decide +kernel
theorem dX7_copyFrom_52 : decode cX7_copyFrom 52 = .ok (.aload_n 0, 1) := by decide +kernel
theorem dX7_copyFrom_53 : decode cX7_copyFrom 53 = .ok (.getfield 49, 3) := by decide +kernel
theorem dX7_copyFrom_56 : decode cX7_copyFrom 56 = .ok (.invokestatic 53, 3) := by decide +kernel
theorem dX7_copyFrom_59 : decode cX7_copyFrom 59 = .ok (.aload_n 1, 1) := by decide +kernel
theorem dX7_copyFrom_60 : decode cX7_copyFrom 60 = .ok (.getfield 21, 3) := by decide +kernel
theorem dX7_copyFrom_63 : decode cX7_copyFrom 63 = .ok (.iconst 0, 1) := by decide +kernel
theorem dX7_copyFrom_64 : decode cX7_copyFrom 64 = .ok (.aload_n 0, 1) := by decide +kernel
theorem dX7_copyFrom_65 : decode cX7_copyFrom 65 = .ok (.getfield 21, 3) := by decide +kernel
theorem dX7_copyFrom_68 : decode cX7_copyFrom 68 = .ok (.iconst 0, 1) := by decide +kernel
theorem dX7_copyFrom_69 : decode cX7_copyFrom 69 = .ok (.aload_n 0, 1) := by decide +kernel
theorem dX7_copyFrom_70 : decode cX7_copyFrom 70 = .ok (.getfield 49, 3) := by decide +kernel
theorem dX7_copyFrom_73 : decode cX7_copyFrom 73 = .ok (.invokestatic 53, 3) := by decide +kernel
theorem dX7_copyFrom_76 : decode cX7_copyFrom 76 = .ok (.aload_n 1, 1) := by decide +kernel
theorem dX7_copyFrom_77 : decode cX7_copyFrom 77 = .ok (.getfield 24, 3) := by decide +kernel
theorem dX7_copyFrom_80 : decode cX7_copyFrom 80 = .ok (.iconst 0, 1) := by decide +kernel
theorem dX7_copyFrom_81 : decode cX7_copyFrom 81 = .ok (.aload_n 0, 1) := by decide +kernel
theorem dX7_copyFrom_82 : decode cX7_copyFrom 82 = .ok (.getfield 24, 3) := by decide +kernel
theorem dX7_copyFrom_85 : decode cX7_copyFrom 85 = .ok (.iconst 0, 1) := by decide +kernel
theorem dX7_copyFrom_86 : decode cX7_copyFrom 86 = .ok (.aload_n 0, 1) := by decide +kernel
theorem dX7_copyFrom_87 : decode cX7_copyFrom 87 = .ok (.getfield 49, 3) := by decide +kernel
theorem dX7_copyFrom_90 : decode cX7_copyFrom 90 = .ok (.invokestatic 53, 3) := by decide +kernel
theorem dX7_copyFrom_93 : decode cX7_copyFrom 93 = .ok (.aload_n 1, 1) := by decide +kernel
theorem dX7_copyFrom_94 : decode cX7_copyFrom 94 = .ok (.getfield 27, 3) := by decide +kernel
theorem dX7_copyFrom_97 : decode cX7_copyFrom 97 = .ok (.iconst 0, 1) := by decide +kernel
theorem dX7_copyFrom_98 : decode cX7_copyFrom 98 = .ok (.aload_n 0, 1) := by decide +kernel
theorem dX7_copyFrom_99 : decode cX7_copyFrom 99 = .ok (.getfield 27, 3) := by decide +kernel
theorem dX7_copyFrom_102 : decode cX7_copyFrom 102 = .ok (.iconst 0, 1) := by decide +kernel
theorem dX7_copyFrom_103 : decode cX7_copyFrom 103 = .ok (.aload_n 0, 1) := by decide +kernel
theorem dX7_copyFrom_104 : decode cX7_copyFrom 104 = .ok (.getfield 49, 3) := by decide +kernel
theorem dX7_copyFrom_107 : decode cX7_copyFrom 107 = .ok (.invokestatic 53, 3) := by decide +kernel
theorem dX7_copyFrom_110 : decode cX7_copyFrom 110 = .ok (.aload_n 1, 1) := by decide +kernel
theorem dX7_copyFrom_111 : decode cX7_copyFrom 111 = .ok (.getfield 34, 3) := by decide +kernel
theorem dX7_copyFrom_114 : decode cX7_copyFrom 114 = .ok (.iconst 0, 1) := by decide +kernel
theorem dX7_copyFrom_115 : decode cX7_copyFrom 115 = .ok (.aload_n 0, 1) := by decide +kernel
theorem dX7_copyFrom_116 : decode cX7_copyFrom 116 = .ok (.getfield 34, 3) := by decide +kernel
theorem dX7_copyFrom_119 : decode cX7_copyFrom 119 = .ok (.iconst 0, 1) := by decide +kernel
theorem dX7_copyFrom_120 : decode cX7_copyFrom 120 = .ok (.aload_n 0, 1) := by decide +kernel
theorem dX7_copyFrom_121 : decode cX7_copyFrom 121 = .ok (.getfield 49, 3) := by decide +kernel
theorem dX7_copyFrom_124 : decode cX7_copyFrom 124 = .ok (.invokestatic 53, 3) := by decide +kernel
theorem dX7_copyFrom_127 : decode cX7_copyFrom 127 = .ok (.aload_n 1, 1) := by decide +kernel
theorem dX7_copyFrom_128 : decode cX7_copyFrom 128 = .ok (.getfield 37, 3) := by decide +kernel
theorem dX7_copyFrom_131 : decode cX7_copyFrom 131 = .ok (.iconst 0, 1) := by decide +kernel
theorem dX7_copyFrom_132 : decode cX7_copyFrom 132 = .ok (.aload_n 0, 1) := by decide +kernel
theorem dX7_copyFrom_133 : decode cX7_copyFrom 133 = .ok (.getfield 37, 3) := by decide +kernel
theorem dX7_copyFrom_136 : decode cX7_copyFrom 136 = .ok (.iconst 0, 1) := by decide +kernel
theorem dX7_copyFrom_137 : decode cX7_copyFrom 137 = .ok (.aload_n 0, 1) := by decide +kernel
theorem dX7_copyFrom_138 : decode cX7_copyFrom 138 = .ok (.getfield 49, 3) := by decide +kernel
theorem dX7_copyFrom_141 : decode cX7_copyFrom 141 = .ok (.invokestatic 53, 3) := by decide +kernel
theorem dX7_copyFrom_144 : decode cX7_copyFrom 144 = .ok (.aload_n 1, 1) := by decide +kernel
theorem dX7_copyFrom_145 : decode cX7_copyFrom 145 = .ok (.getfield 40, 3) := by decide +kernel
theorem dX7_copyFrom_148 : decode cX7_copyFrom 148 = .ok (.iconst 0, 1) := by decide +kernel
theorem dX7_copyFrom_149 : decode cX7_copyFrom 149 = .ok (.aload_n 0, 1) := by decide +kernel
theorem dX7_copyFrom_150 : decode cX7_copyFrom 150 = .ok (.getfield 40, 3) := by decide +kernel
theorem dX7_copyFrom_153 : decode cX7_copyFrom 153 = .ok (.iconst 0, 1) := by decide +kernel
theorem dX7_copyFrom_154 : decode cX7_copyFrom 154 = .ok (.aload_n 0, 1) := by decide +kernel
theorem dX7_copyFrom_155 : decode cX7_copyFrom 155 = .ok (.getfield 49, 3) := by decide +kernel
theorem dX7_copyFrom_158 : decode cX7_copyFrom 158 = .ok (.invokestatic 53, 3) := by decide +kernel
theorem dX7_copyFrom_161 : decode cX7_copyFrom 161 = .ok (.aload_n 1, 1) := by decide +kernel
theorem dX7_copyFrom_162 : decode cX7_copyFrom 162 = .ok (.getfield 43, 3) := by decide +kernel
theorem dX7_copyFrom_165 : decode cX7_copyFrom 165 = .ok (.iconst 0, 1) := by decide +kernel
theorem dX7_copyFrom_166 : decode cX7_copyFrom 166 = .ok (.aload_n 0, 1) := by decide +kernel
theorem dX7_copyFrom_167 : decode cX7_copyFrom 167 = .ok (.getfield 43, 3) := by decide +kernel
theorem dX7_copyFrom_170 : decode cX7_copyFrom 170 = .ok (.iconst 0, 1) := by decide +kernel
theorem dX7_copyFrom_171 : decode cX7_copyFrom 171 = .ok (.aload_n 0, 1) := by decide +kernel
theorem dX7_copyFrom_172 : decode cX7_copyFrom 172 = .ok (.getfield 49, 3) := by decide +kernel
theorem dX7_copyFrom_175 : decode cX7_copyFrom 175 = .ok (.invokestatic 53, 3) := by decide +kernel
theorem dX7_copyFrom_178 : decode cX7_copyFrom 178 = .ok (.aload_n 1, 1) := by decide +kernel
theorem dX7_copyFrom_179 : decode cX7_copyFrom 179 = .ok (.getfield 46, 3) := by decide +kernel
theorem dX7_copyFrom_182 : decode cX7_copyFrom 182 = .ok (.iconst 0, 1) := by decide +kernel
theorem dX7_copyFrom_183 : decode cX7_copyFrom 183 = .ok (.aload_n 0, 1) := by decide +kernel
theorem dX7_copyFrom_184 : decode cX7_copyFrom 184 = .ok (.getfield 46, 3) := by decide +kernel
theorem dX7_copyFrom_187 : decode cX7_copyFrom 187 = .ok (.iconst 0, 1) := by decide +kernel
theorem dX7_copyFrom_188 : decode cX7_copyFrom 188 = .ok (.aload_n 0, 1) := by decide +kernel
theorem dX7_copyFrom_189 : decode cX7_copyFrom 189 = .ok (.getfield 49, 3) := by decide +kernel
theorem dX7_copyFrom_192 : decode cX7_copyFrom 192 = .ok (.invokestatic 53, 3) := by decide +kernel
theorem dX7_copyFrom_195 : decode cX7_copyFrom 195 = .ok (.iconst 0, 1) := by decide +kernel
theorem dX7_copyFrom_196 : decode cX7_copyFrom 196 = .ok (.istore_n 2, 1) := by decide +kernel
theorem dX7_copyFrom_197 : decode cX7_copyFrom 197 = .ok (.iload_n 2, 1) := by decide +kernel
theorem dX7_copyFrom_198 : decode cX7_copyFrom 198 = .ok (.aload_n 0, 1) := by decide +kernel
theorem dX7_copyFrom_199 : decode cX7_copyFrom 199 = .ok (.getfield 49, 3) := by decide +kernel
theorem dX7_copyFrom_202 : decode cX7_copyFrom 202 = .ok (.if_icmp .ge 21, 3) := by decide +kernel
theorem dX7_copyFrom_205 : decode cX7_copyFrom 205 = .ok (.aload_n 0, 1) := by decide +kernel
theorem dX7_copyFrom_206 : decode cX7_copyFrom 206 = .ok (.getfield 30, 3) := by decide +kernel
theorem dX7_copyFrom_209 : decode cX7_copyFrom 209 = .ok (.iload_n 2, 1) := by decide +kernel
theorem dX7_copyFrom_210 : decode cX7_copyFrom 210 = .ok (.aload_n 1, 1) := by decide +kernel
theorem dX7_copyFrom_211 : decode cX7_copyFrom 211 = .ok (.getfield 30, 3) := by decide +kernel
theorem dX7_copyFrom_214 : decode cX7_copyFrom 214 = .ok (.iload_n 2, 1) := by decide +kernel
theorem dX7_copyFrom_215 : decode cX7_copyFrom 215 = .ok (.baload, 1) := by decide +kernel
theorem dX7_copyFrom_216 : decode cX7_copyFrom 216 = .ok (.bastore, 1) := by decide +kernel
theorem dX7_copyFrom_217 : decode cX7_copyFrom 217 = .ok (.iinc 2 1, 3) := by decide +kernel
theorem dX7_copyFrom_220 : decode cX7_copyFrom 220 = .ok (.goto (-23), 3) := by decide +kernel
theorem dX7_copyFrom_223 : decode cX7_copyFrom 223 = .ok (.return_, 1) := by decide +kernel
theorem dX7_has_0 : decode cX7_has 0 = .ok (.iload_n 1, 1) := by decide +kernel
theorem dX7_has_1 : decode cX7_has 1 = .ok (.ifCond .lt 15, 3) := by decide +kernel
theorem dX7_has_4 : decode cX7_has 4 = .ok (.iload_n 1, 1) := by decide +kernel
theorem dX7_has_5 : decode cX7_has 5 = .ok (.aload_n 0, 1) := by decide +kernel
theorem dX7_has_6 : decode cX7_has 6 = .ok (.getfield 49, 3) := by decide +kernel
theorem dX7_has_9 : decode cX7_has 9 = .ok (.if_icmp .ge 7, 3) := by decide +kernel
theorem dX7_has_12 : decode cX7_has 12 = .ok (.iconst 1, 1) := by decide +kernel
theorem dX7_has_13 : decode cX7_has 13 = .ok (.goto 4, 3) := by decide +kernel
theorem dX7_has_16 : decode cX7_has 16 = .ok (.iconst 0, 1) := by decide +kernel
theorem dX7_has_17 : decode cX7_has 17 = .ok (.ireturn, 1) := by decide +kernel
theorem dX7_hasRoom_0 : decode cX7_hasRoom 0 = .ok (.aload_n 0, 1) := by decide +kernel
theorem dX7_hasRoom_1 : decode cX7_hasRoom 1 = .ok (.getfield 49, 3) := by decide +kernel
theorem dX7_hasRoom_4 : decode cX7_hasRoom 4 = .ok (.bipush 30, 2) := by decide +kernel
theorem dX7_hasRoom_6 : decode cX7_hasRoom 6 = .ok (.if_icmp .ge 7, 3) := by decide +kernel
theorem dX7_hasRoom_9 : decode cX7_hasRoom 9 = .ok (.iconst 1, 1) := by decide +kernel
theorem dX7_hasRoom_10 : decode cX7_hasRoom 10 = .ok (.goto 4, 3) := by decide +kernel
theorem dX7_hasRoom_13 : decode cX7_hasRoom 13 = .ok (.iconst 0, 1) := by decide +kernel
theorem dX7_hasRoom_14 : decode cX7_hasRoom 14 = .ok (.ireturn, 1) := by decide +kernel
theorem dX7_add_0 : decode cX7_add 0 = .ok (.aload_n 0, 1) := by decide +kernel
theorem dX7_add_1 : decode cX7_add 1 = .ok (.getfield 49, 3) := by decide +kernel
theorem dX7_add_4 : decode cX7_add 4 = .ok (.istore 6, 2) := by decide +kernel
theorem dX7_add_6 : decode cX7_add 6 = .ok (.aload_n 0, 1) := by decide +kernel
theorem dX7_add_7 : decode cX7_add 7 = .ok (.getfield 9, 3) := by decide +kernel
theorem dX7_add_10 : decode cX7_add 10 = .ok (.iload 6, 2) := by decide +kernel
theorem dX7_add_12 : decode cX7_add 12 = .ok (.iload_n 1, 1) := by decide +kernel
theorem dX7_add_13 : decode cX7_add 13 = .ok (.iastore, 1) := by decide +kernel
theorem dX7_add_14 : decode cX7_add 14 = .ok (.aload_n 0, 1) := by decide +kernel
theorem dX7_add_15 : decode cX7_add 15 = .ok (.getfield 15, 3) := by decide +kernel
theorem dX7_add_18 : decode cX7_add 18 = .ok (.iload 6, 2) := by decide +kernel
theorem dX7_add_20 : decode cX7_add 20 = .ok (.iload_n 2, 1) := by decide +kernel
theorem dX7_add_21 : decode cX7_add 21 = .ok (.iastore, 1) := by decide +kernel
theorem dX7_add_22 : decode cX7_add 22 = .ok (.aload_n 0, 1) := by decide +kernel
theorem dX7_add_23 : decode cX7_add 23 = .ok (.getfield 18, 3) := by decide +kernel
theorem dX7_add_26 : decode cX7_add 26 = .ok (.iload 6, 2) := by decide +kernel
theorem dX7_add_28 : decode cX7_add 28 = .ok (.iload_n 3, 1) := by decide +kernel
theorem dX7_add_29 : decode cX7_add 29 = .ok (.iastore, 1) := by decide +kernel
theorem dX7_add_30 : decode cX7_add 30 = .ok (.aload_n 0, 1) := by decide +kernel
theorem dX7_add_31 : decode cX7_add 31 = .ok (.getfield 21, 3) := by decide +kernel
theorem dX7_add_34 : decode cX7_add 34 = .ok (.iload 6, 2) := by decide +kernel
theorem dX7_add_36 : decode cX7_add 36 = .ok (.iload 4, 2) := by decide +kernel
theorem dX7_add_38 : decode cX7_add 38 = .ok (.iastore, 1) := by decide +kernel
theorem dX7_add_39 : decode cX7_add 39 = .ok (.aload_n 0, 1) := by decide +kernel
theorem dX7_add_40 : decode cX7_add 40 = .ok (.getfield 24, 3) := by decide +kernel
theorem dX7_add_43 : decode cX7_add 43 = .ok (.iload 6, 2) := by decide +kernel
theorem dX7_add_45 : decode cX7_add 45 = .ok (.iload 5, 2) := by decide +kernel
theorem dX7_add_47 : decode cX7_add 47 = .ok (.iastore, 1) := by decide +kernel
theorem dX7_add_48 : decode cX7_add 48 = .ok (.aload_n 0, 1) := by decide +kernel
theorem dX7_add_49 : decode cX7_add 49 = .ok (.getfield 27, 3) := by decide +kernel
theorem dX7_add_52 : decode cX7_add 52 = .ok (.iload 6, 2) := by decide +kernel
theorem dX7_add_54 : decode cX7_add 54 = .ok (.iconst (-1), 1) := by decide +kernel
theorem dX7_add_55 : decode cX7_add 55 = .ok (.iastore, 1) := by decide +kernel
theorem dX7_add_56 : decode cX7_add 56 = .ok (.aload_n 0, 1) := by decide +kernel
theorem dX7_add_57 : decode cX7_add 57 = .ok (.getfield 30, 3) := by decide +kernel
theorem dX7_add_60 : decode cX7_add 60 = .ok (.iload 6, 2) := by decide +kernel
theorem dX7_add_62 : decode cX7_add 62 = .ok (.iconst 0, 1) := by decide +kernel
theorem dX7_add_63 : decode cX7_add 63 = .ok (.bastore, 1) := by decide +kernel
theorem dX7_add_64 : decode cX7_add 64 = .ok (.aload_n 0, 1) := by decide +kernel
theorem dX7_add_65 : decode cX7_add 65 = .ok (.getfield 34, 3) := by decide +kernel
theorem dX7_add_68 : decode cX7_add 68 = .ok (.iload 6, 2) := by decide +kernel
theorem dX7_add_70 : decode cX7_add 70 = .ok (.iconst 0, 1) := by decide +kernel
theorem dX7_add_71 : decode cX7_add 71 = .ok (.iastore, 1) := by decide +kernel
theorem dX7_add_72 : decode cX7_add 72 = .ok (.aload_n 0, 1) := by decide +kernel
theorem dX7_add_73 : decode cX7_add 73 = .ok (.getfield 37, 3) := by decide +kernel
theorem dX7_add_76 : decode cX7_add 76 = .ok (.iload 6, 2) := by decide +kernel
theorem dX7_add_78 : decode cX7_add 78 = .ok (.iconst 0, 1) := by decide +kernel
theorem dX7_add_79 : decode cX7_add 79 = .ok (.iastore, 1) := by decide +kernel
theorem dX7_add_80 : decode cX7_add 80 = .ok (.aload_n 0, 1) := by decide +kernel
theorem dX7_add_81 : decode cX7_add 81 = .ok (.getfield 40, 3) := by decide +kernel
theorem dX7_add_84 : decode cX7_add 84 = .ok (.iload 6, 2) := by decide +kernel
theorem dX7_add_86 : decode cX7_add 86 = .ok (.iconst (-1), 1) := by decide +kernel
theorem dX7_add_87 : decode cX7_add 87 = .ok (.iastore, 1) := by decide +kernel
theorem dX7_add_88 : decode cX7_add 88 = .ok (.aload_n 0, 1) := by decide +kernel
theorem dX7_add_89 : decode cX7_add 89 = .ok (.getfield 43, 3) := by decide +kernel
theorem dX7_add_92 : decode cX7_add 92 = .ok (.iload 6, 2) := by decide +kernel
theorem dX7_add_94 : decode cX7_add 94 = .ok (.iconst (-1), 1) := by decide +kernel
theorem dX7_add_95 : decode cX7_add 95 = .ok (.iastore, 1) := by decide +kernel
theorem dX7_add_96 : decode cX7_add 96 = .ok (.aload_n 0, 1) := by decide +kernel
theorem dX7_add_97 : decode cX7_add 97 = .ok (.getfield 46, 3) := by decide +kernel
theorem dX7_add_100 : decode cX7_add 100 = .ok (.iload 6, 2) := by decide +kernel
theorem dX7_add_102 : decode cX7_add 102 = .ok (.iconst 0, 1) := by decide +kernel
theorem dX7_add_103 : decode cX7_add 103 = .ok (.iastore, 1) := by decide +kernel
theorem dX7_add_104 : decode cX7_add 104 = .ok (.aload_n 0, 1) := by decide +kernel
theorem dX7_add_105 : decode cX7_add 105 = .ok (.dup, 1) := by decide +kernel
theorem dX7_add_106 : decode cX7_add 106 = .ok (.getfield 49, 3) := by decide +kernel
theorem dX7_add_109 : decode cX7_add 109 = .ok (.iconst 1, 1) := by decide +kernel
theorem dX7_add_110 : decode cX7_add 110 = .ok (.iadd, 1) := by decide +kernel
theorem dX7_add_111 : decode cX7_add 111 = .ok (.putfield 49, 3) := by decide +kernel
theorem dX7_add_114 : decode cX7_add 114 = .ok (.iload 6, 2) := by decide +kernel
theorem dX7_add_116 : decode cX7_add 116 = .ok (.ireturn, 1) := by decide +kernel
theorem dX7_hasCard_0 : decode cX7_hasCard 0 = .ok (.aload_n 0, 1) := by decide +kernel
theorem dX7_hasCard_1 : decode cX7_hasCard 1 = .ok (.getfield 27, 3) := by decide +kernel
theorem dX7_hasCard_4 : decode cX7_hasCard 4 = .ok (.iload_n 1, 1) := by decide +kernel
theorem dX7_hasCard_5 : decode cX7_hasCard 5 = .ok (.iaload, 1) := by decide +kernel
theorem dX7_hasCard_6 : decode cX7_hasCard 6 = .ok (.iconst (-1), 1) := by decide +kernel
theorem dX7_hasCard_7 : decode cX7_hasCard 7 = .ok (.if_icmp .eq 7, 3) := by decide +kernel
theorem dX7_hasCard_10 : decode cX7_hasCard 10 = .ok (.iconst 1, 1) := by decide +kernel
theorem dX7_hasCard_11 : decode cX7_hasCard 11 = .ok (.goto 4, 3) := by decide +kernel
theorem dX7_hasCard_14 : decode cX7_hasCard 14 = .ok (.iconst 0, 1) := by decide +kernel
theorem dX7_hasCard_15 : decode cX7_hasCard 15 = .ok (.ireturn, 1) := by decide +kernel
theorem dX7_hasScent_0 : decode cX7_hasScent 0 = .ok (.aload_n 0, 1) := by decide +kernel
theorem dX7_hasScent_1 : decode cX7_hasScent 1 = .ok (.getfield 9, 3) := by decide +kernel
theorem dX7_hasScent_4 : decode cX7_hasScent 4 = .ok (.iload_n 1, 1) := by decide +kernel
theorem dX7_hasScent_5 : decode cX7_hasScent 5 = .ok (.iaload, 1) := by decide +kernel
theorem dX7_hasScent_6 : decode cX7_hasScent 6 = .ok (.iload_n 2, 1) := by decide +kernel
theorem dX7_hasScent_7 : decode cX7_hasScent 7 = .ok (.ishr, 1) := by decide +kernel
theorem dX7_hasScent_8 : decode cX7_hasScent 8 = .ok (.iconst 1, 1) := by decide +kernel
theorem dX7_hasScent_9 : decode cX7_hasScent 9 = .ok (.iand, 1) := by decide +kernel
theorem dX7_hasScent_10 : decode cX7_hasScent 10 = .ok (.iconst 1, 1) := by decide +kernel
theorem dX7_hasScent_11 : decode cX7_hasScent 11 = .ok (.if_icmp .ne 7, 3) := by decide +kernel
theorem dX7_hasScent_14 : decode cX7_hasScent 14 = .ok (.iconst 1, 1) := by decide +kernel
theorem dX7_hasScent_15 : decode cX7_hasScent 15 = .ok (.goto 4, 3) := by decide +kernel
theorem dX7_hasScent_18 : decode cX7_hasScent 18 = .ok (.iconst 0, 1) := by decide +kernel
theorem dX7_hasScent_19 : decode cX7_hasScent 19 = .ok (.ireturn, 1) := by decide +kernel
theorem dX7_finalDay_0 : decode cX7_finalDay 0 = .ok (.aload_n 0, 1) := by decide +kernel
theorem dX7_finalDay_1 : decode cX7_finalDay 1 = .ok (.getfield 15, 3) := by decide +kernel
theorem dX7_finalDay_4 : decode cX7_finalDay 4 = .ok (.iload_n 1, 1) := by decide +kernel
theorem dX7_finalDay_5 : decode cX7_finalDay 5 = .ok (.iaload, 1) := by decide +kernel
theorem dX7_finalDay_6 : decode cX7_finalDay 6 = .ok (.aload_n 0, 1) := by decide +kernel
theorem dX7_finalDay_7 : decode cX7_finalDay 7 = .ok (.getfield 18, 3) := by decide +kernel
theorem dX7_finalDay_10 : decode cX7_finalDay 10 = .ok (.iload_n 1, 1) := by decide +kernel
theorem dX7_finalDay_11 : decode cX7_finalDay 11 = .ok (.iaload, 1) := by decide +kernel
theorem dX7_finalDay_12 : decode cX7_finalDay 12 = .ok (.iadd, 1) := by decide +kernel
theorem dX7_finalDay_13 : decode cX7_finalDay 13 = .ok (.iconst 1, 1) := by decide +kernel
theorem dX7_finalDay_14 : decode cX7_finalDay 14 = .ok (.isub, 1) := by decide +kernel
theorem dX7_finalDay_15 : decode cX7_finalDay 15 = .ok (.ireturn, 1) := by decide +kernel
theorem dX7_isValidOn_0 : decode cX7_isValidOn 0 = .ok (.iload_n 2, 1) := by decide +kernel
theorem dX7_isValidOn_1 : decode cX7_isValidOn 1 = .ok (.aload_n 0, 1) := by decide +kernel
theorem dX7_isValidOn_2 : decode cX7_isValidOn 2 = .ok (.getfield 15, 3) := by decide +kernel
theorem dX7_isValidOn_5 : decode cX7_isValidOn 5 = .ok (.iload_n 1, 1) := by decide +kernel
theorem dX7_isValidOn_6 : decode cX7_isValidOn 6 = .ok (.iaload, 1) := by decide +kernel
theorem dX7_isValidOn_7 : decode cX7_isValidOn 7 = .ok (.if_icmp .lt 24, 3) := by decide +kernel
theorem dX7_isValidOn_10 : decode cX7_isValidOn 10 = .ok (.iload_n 2, 1) := by decide +kernel
theorem dX7_isValidOn_11 : decode cX7_isValidOn 11 = .ok (.aload_n 0, 1) := by decide +kernel
theorem dX7_isValidOn_12 : decode cX7_isValidOn 12 = .ok (.getfield 15, 3) := by decide +kernel
theorem dX7_isValidOn_15 : decode cX7_isValidOn 15 = .ok (.iload_n 1, 1) := by decide +kernel
theorem dX7_isValidOn_16 : decode cX7_isValidOn 16 = .ok (.iaload, 1) := by decide +kernel
theorem dX7_isValidOn_17 : decode cX7_isValidOn 17 = .ok (.aload_n 0, 1) := by decide +kernel
theorem dX7_isValidOn_18 : decode cX7_isValidOn 18 = .ok (.getfield 18, 3) := by decide +kernel
theorem dX7_isValidOn_21 : decode cX7_isValidOn 21 = .ok (.iload_n 1, 1) := by decide +kernel
theorem dX7_isValidOn_22 : decode cX7_isValidOn 22 = .ok (.iaload, 1) := by decide +kernel
theorem dX7_isValidOn_23 : decode cX7_isValidOn 23 = .ok (.iadd, 1) := by decide +kernel
theorem dX7_isValidOn_24 : decode cX7_isValidOn 24 = .ok (.if_icmp .ge 7, 3) := by decide +kernel
theorem dX7_isValidOn_27 : decode cX7_isValidOn 27 = .ok (.iconst 1, 1) := by decide +kernel
theorem dX7_isValidOn_28 : decode cX7_isValidOn 28 = .ok (.goto 4, 3) := by decide +kernel
theorem dX7_isValidOn_31 : decode cX7_isValidOn 31 = .ok (.iconst 0, 1) := by decide +kernel
theorem dX7_isValidOn_32 : decode cX7_isValidOn 32 = .ok (.ireturn, 1) := by decide +kernel
theorem dX7_isUsed_0 : decode cX7_isUsed 0 = .ok (.aload_n 0, 1) := by decide +kernel
theorem dX7_isUsed_1 : decode cX7_isUsed 1 = .ok (.getfield 34, 3) := by decide +kernel
theorem dX7_isUsed_4 : decode cX7_isUsed 4 = .ok (.iload_n 1, 1) := by decide +kernel
theorem dX7_isUsed_5 : decode cX7_isUsed 5 = .ok (.iaload, 1) := by decide +kernel
theorem dX7_isUsed_6 : decode cX7_isUsed 6 = .ok (.iload_n 2, 1) := by decide +kernel
theorem dX7_isUsed_7 : decode cX7_isUsed 7 = .ok (.ishr, 1) := by decide +kernel
theorem dX7_isUsed_8 : decode cX7_isUsed 8 = .ok (.iconst 1, 1) := by decide +kernel
theorem dX7_isUsed_9 : decode cX7_isUsed 9 = .ok (.iand, 1) := by decide +kernel
theorem dX7_isUsed_10 : decode cX7_isUsed 10 = .ok (.iconst 1, 1) := by decide +kernel
theorem dX7_isUsed_11 : decode cX7_isUsed 11 = .ok (.if_icmp .ne 7, 3) := by decide +kernel
theorem dX7_isUsed_14 : decode cX7_isUsed 14 = .ok (.iconst 1, 1) := by decide +kernel
theorem dX7_isUsed_15 : decode cX7_isUsed 15 = .ok (.goto 4, 3) := by decide +kernel
theorem dX7_isUsed_18 : decode cX7_isUsed 18 = .ok (.iconst 0, 1) := by decide +kernel
theorem dX7_isUsed_19 : decode cX7_isUsed 19 = .ok (.ireturn, 1) := by decide +kernel
theorem dX7_countUsedDays_0 : decode cX7_countUsedDays 0 = .ok (.aload_n 0, 1) := by decide +kernel
theorem dX7_countUsedDays_1 : decode cX7_countUsedDays 1 = .ok (.getfield 34, 3) := by decide +kernel
theorem dX7_countUsedDays_4 : decode cX7_countUsedDays 4 = .ok (.iload_n 1, 1) := by decide +kernel
theorem dX7_countUsedDays_5 : decode cX7_countUsedDays 5 = .ok (.iaload, 1) := by decide +kernel
theorem dX7_countUsedDays_6 : decode cX7_countUsedDays 6 = .ok (.invokestatic 59, 3) := by decide +kernel
theorem dX7_countUsedDays_9 : decode cX7_countUsedDays 9 = .ok (.ireturn, 1) := by decide +kernel
theorem dX7_countDaysLeft_0 : decode cX7_countDaysLeft 0 = .ok (.iconst 0, 1) := by decide +kernel
theorem dX7_countDaysLeft_1 : decode cX7_countDaysLeft 1 = .ok (.istore_n 3, 1) := by decide +kernel
theorem dX7_countDaysLeft_2 : decode cX7_countDaysLeft 2 = .ok (.iconst 0, 1) := by decide +kernel
theorem dX7_countDaysLeft_3 : decode cX7_countDaysLeft 3 = .ok (.iload_n 2, 1) := by decide +kernel
theorem dX7_countDaysLeft_4 : decode cX7_countDaysLeft 4 = .ok (.aload_n 0, 1) := by decide +kernel
theorem dX7_countDaysLeft_5 : decode cX7_countDaysLeft 5 = .ok (.getfield 15, 3) := by decide +kernel
theorem dX7_countDaysLeft_8 : decode cX7_countDaysLeft 8 = .ok (.iload_n 1, 1) := by decide +kernel
theorem dX7_countDaysLeft_9 : decode cX7_countDaysLeft 9 = .ok (.iaload, 1) := by decide +kernel
theorem dX7_countDaysLeft_10 : decode cX7_countDaysLeft 10 = .ok (.isub, 1) := by decide +kernel
theorem dX7_countDaysLeft_11 : decode cX7_countDaysLeft 11 = .ok (.invokestatic 65, 3) := by decide +kernel
theorem dX7_countDaysLeft_14 : decode cX7_countDaysLeft 14 = .ok (.istore 4, 2) := by decide +kernel
theorem dX7_countDaysLeft_16 : decode cX7_countDaysLeft 16 = .ok (.iload 4, 2) := by decide +kernel
theorem dX7_countDaysLeft_18 : decode cX7_countDaysLeft 18 = .ok (.aload_n 0, 1) := by decide +kernel
theorem dX7_countDaysLeft_19 : decode cX7_countDaysLeft 19 = .ok (.getfield 18, 3) := by decide +kernel
theorem dX7_countDaysLeft_22 : decode cX7_countDaysLeft 22 = .ok (.iload_n 1, 1) := by decide +kernel
theorem dX7_countDaysLeft_23 : decode cX7_countDaysLeft 23 = .ok (.iaload, 1) := by decide +kernel
theorem dX7_countDaysLeft_24 : decode cX7_countDaysLeft 24 = .ok (.if_icmp .ge 26, 3) := by decide +kernel
theorem dX7_countDaysLeft_27 : decode cX7_countDaysLeft 27 = .ok (.aload_n 0, 1) := by decide +kernel
theorem dX7_countDaysLeft_28 : decode cX7_countDaysLeft 28 = .ok (.getfield 34, 3) := by decide +kernel
theorem dX7_countDaysLeft_31 : decode cX7_countDaysLeft 31 = .ok (.iload_n 1, 1) := by decide +kernel
theorem dX7_countDaysLeft_32 : decode cX7_countDaysLeft 32 = .ok (.iaload, 1) := by decide +kernel
theorem dX7_countDaysLeft_33 : decode cX7_countDaysLeft 33 = .ok (.iload 4, 2) := by decide +kernel
theorem dX7_countDaysLeft_35 : decode cX7_countDaysLeft 35 = .ok (.ishr, 1) := by decide +kernel
theorem dX7_countDaysLeft_36 : decode cX7_countDaysLeft 36 = .ok (.iconst 1, 1) := by decide +kernel
theorem dX7_countDaysLeft_37 : decode cX7_countDaysLeft 37 = .ok (.iand, 1) := by decide +kernel
theorem dX7_countDaysLeft_38 : decode cX7_countDaysLeft 38 = .ok (.ifCond .ne 6, 3) := by decide +kernel
theorem dX7_countDaysLeft_41 : decode cX7_countDaysLeft 41 = .ok (.iinc 3 1, 3) := by decide +kernel
theorem dX7_countDaysLeft_44 : decode cX7_countDaysLeft 44 = .ok (.iinc 4 1, 3) := by decide +kernel
theorem dX7_countDaysLeft_47 : decode cX7_countDaysLeft 47 = .ok (.goto (-31), 3) := by decide +kernel
theorem dX7_countDaysLeft_50 : decode cX7_countDaysLeft 50 = .ok (.iload_n 3, 1) := by decide +kernel
theorem dX7_countDaysLeft_51 : decode cX7_countDaysLeft 51 = .ok (.ireturn, 1) := by decide +kernel
theorem dX7_countVisit_0 : decode cX7_countVisit 0 = .ok (.aload_n 0, 1) := by decide +kernel
theorem dX7_countVisit_1 : decode cX7_countVisit 1 = .ok (.getfield 34, 3) := by decide +kernel
theorem dX7_countVisit_4 : decode cX7_countVisit 4 = .ok (.iload_n 1, 1) := by decide +kernel
theorem dX7_countVisit_5 : decode cX7_countVisit 5 = .ok (.dup2, 1) := by decide +kernel
theorem dX7_countVisit_6 : decode cX7_countVisit 6 = .ok (.iaload, 1) := by decide +kernel
theorem dX7_countVisit_7 : decode cX7_countVisit 7 = .ok (.iconst 1, 1) := by decide +kernel
theorem dX7_countVisit_8 : decode cX7_countVisit 8 = .ok (.iload 4, 2) := by decide +kernel
theorem dX7_countVisit_10 : decode cX7_countVisit 10 = .ok (.aload_n 0, 1) := by decide +kernel
theorem dX7_countVisit_11 : decode cX7_countVisit 11 = .ok (.getfield 15, 3) := by decide +kernel
theorem dX7_countVisit_14 : decode cX7_countVisit 14 = .ok (.iload_n 1, 1) := by decide +kernel
theorem dX7_countVisit_15 : decode cX7_countVisit 15 = .ok (.iaload, 1) := by decide +kernel
theorem dX7_countVisit_16 : decode cX7_countVisit 16 = .ok (.isub, 1) := by decide +kernel
theorem dX7_countVisit_17 : decode cX7_countVisit 17 = .ok (.ishl, 1) := by decide +kernel
theorem dX7_countVisit_18 : decode cX7_countVisit 18 = .ok (.ior, 1) := by decide +kernel
theorem dX7_countVisit_19 : decode cX7_countVisit 19 = .ok (.iastore, 1) := by decide +kernel
theorem dX7_countVisit_20 : decode cX7_countVisit 20 = .ok (.aload_n 0, 1) := by decide +kernel
theorem dX7_countVisit_21 : decode cX7_countVisit 21 = .ok (.getfield 37, 3) := by decide +kernel
theorem dX7_countVisit_24 : decode cX7_countVisit 24 = .ok (.iload_n 1, 1) := by decide +kernel
theorem dX7_countVisit_25 : decode cX7_countVisit 25 = .ok (.dup2, 1) := by decide +kernel
theorem dX7_countVisit_26 : decode cX7_countVisit 26 = .ok (.iaload, 1) := by decide +kernel
theorem dX7_countVisit_27 : decode cX7_countVisit 27 = .ok (.iconst 1, 1) := by decide +kernel
theorem dX7_countVisit_28 : decode cX7_countVisit 28 = .ok (.iadd, 1) := by decide +kernel
theorem dX7_countVisit_29 : decode cX7_countVisit 29 = .ok (.iastore, 1) := by decide +kernel
theorem dX7_countVisit_30 : decode cX7_countVisit 30 = .ok (.aload_n 0, 1) := by decide +kernel
theorem dX7_countVisit_31 : decode cX7_countVisit 31 = .ok (.getfield 40, 3) := by decide +kernel
theorem dX7_countVisit_34 : decode cX7_countVisit 34 = .ok (.iload_n 1, 1) := by decide +kernel
theorem dX7_countVisit_35 : decode cX7_countVisit 35 = .ok (.iload_n 3, 1) := by decide +kernel
theorem dX7_countVisit_36 : decode cX7_countVisit 36 = .ok (.iastore, 1) := by decide +kernel
theorem dX7_countVisit_37 : decode cX7_countVisit 37 = .ok (.aload_n 0, 1) := by decide +kernel
theorem dX7_countVisit_38 : decode cX7_countVisit 38 = .ok (.getfield 43, 3) := by decide +kernel
theorem dX7_countVisit_41 : decode cX7_countVisit 41 = .ok (.iload_n 1, 1) := by decide +kernel
theorem dX7_countVisit_42 : decode cX7_countVisit 42 = .ok (.iload_n 2, 1) := by decide +kernel
theorem dX7_countVisit_43 : decode cX7_countVisit 43 = .ok (.iastore, 1) := by decide +kernel
theorem dX7_countVisit_44 : decode cX7_countVisit 44 = .ok (.return_, 1) := by decide +kernel
theorem dX7_sumOfUsedDays_0 : decode cX7_sumOfUsedDays 0 = .ok (.iconst 0, 1) := by decide +kernel
theorem dX7_sumOfUsedDays_1 : decode cX7_sumOfUsedDays 1 = .ok (.istore_n 1, 1) := by decide +kernel
theorem dX7_sumOfUsedDays_2 : decode cX7_sumOfUsedDays 2 = .ok (.iconst 0, 1) := by decide +kernel
theorem dX7_sumOfUsedDays_3 : decode cX7_sumOfUsedDays 3 = .ok (.istore_n 2, 1) := by decide +kernel
theorem dX7_sumOfUsedDays_4 : decode cX7_sumOfUsedDays 4 = .ok (.iload_n 2, 1) := by decide +kernel
theorem dX7_sumOfUsedDays_5 : decode cX7_sumOfUsedDays 5 = .ok (.aload_n 0, 1) := by decide +kernel
theorem dX7_sumOfUsedDays_6 : decode cX7_sumOfUsedDays 6 = .ok (.getfield 49, 3) := by decide +kernel
theorem dX7_sumOfUsedDays_9 : decode cX7_sumOfUsedDays 9 = .ok (.if_icmp .ge 17, 3) := by decide +kernel
theorem dX7_sumOfUsedDays_12 : decode cX7_sumOfUsedDays 12 = .ok (.iload_n 1, 1) := by decide +kernel
theorem dX7_sumOfUsedDays_13 : decode cX7_sumOfUsedDays 13 = .ok (.aload_n 0, 1) := by decide +kernel
theorem dX7_sumOfUsedDays_14 : decode cX7_sumOfUsedDays 14 = .ok (.iload_n 2, 1) := by decide +kernel
theorem dX7_sumOfUsedDays_15 : decode cX7_sumOfUsedDays 15 = .ok (.invokevirtual 71, 3) := by decide +kernel
theorem dX7_sumOfUsedDays_18 : decode cX7_sumOfUsedDays 18 = .ok (.iadd, 1) := by decide +kernel
theorem dX7_sumOfUsedDays_19 : decode cX7_sumOfUsedDays 19 = .ok (.istore_n 1, 1) := by decide +kernel
theorem dX7_sumOfUsedDays_20 : decode cX7_sumOfUsedDays 20 = .ok (.iinc 2 1, 3) := by decide +kernel
theorem dX7_sumOfUsedDays_23 : decode cX7_sumOfUsedDays 23 = .ok (.goto (-19), 3) := by decide +kernel
theorem dX7_sumOfUsedDays_26 : decode cX7_sumOfUsedDays 26 = .ok (.iload_n 1, 1) := by decide +kernel
theorem dX7_sumOfUsedDays_27 : decode cX7_sumOfUsedDays 27 = .ok (.ireturn, 1) := by decide +kernel
theorem dX7_sumOfVisits_0 : decode cX7_sumOfVisits 0 = .ok (.iconst 0, 1) := by decide +kernel
theorem dX7_sumOfVisits_1 : decode cX7_sumOfVisits 1 = .ok (.istore_n 1, 1) := by decide +kernel
theorem dX7_sumOfVisits_2 : decode cX7_sumOfVisits 2 = .ok (.iconst 0, 1) := by decide +kernel
theorem dX7_sumOfVisits_3 : decode cX7_sumOfVisits 3 = .ok (.istore_n 2, 1) := by decide +kernel
theorem dX7_sumOfVisits_4 : decode cX7_sumOfVisits 4 = .ok (.iload_n 2, 1) := by decide +kernel
theorem dX7_sumOfVisits_5 : decode cX7_sumOfVisits 5 = .ok (.aload_n 0, 1) := by decide +kernel
theorem dX7_sumOfVisits_6 : decode cX7_sumOfVisits 6 = .ok (.getfield 49, 3) := by decide +kernel
theorem dX7_sumOfVisits_9 : decode cX7_sumOfVisits 9 = .ok (.if_icmp .ge 18, 3) := by decide +kernel
theorem dX7_sumOfVisits_12 : decode cX7_sumOfVisits 12 = .ok (.iload_n 1, 1) := by decide +kernel
theorem dX7_sumOfVisits_13 : decode cX7_sumOfVisits 13 = .ok (.aload_n 0, 1) := by decide +kernel
theorem dX7_sumOfVisits_14 : decode cX7_sumOfVisits 14 = .ok (.getfield 37, 3) := by decide +kernel
theorem dX7_sumOfVisits_17 : decode cX7_sumOfVisits 17 = .ok (.iload_n 2, 1) := by decide +kernel
theorem dX7_sumOfVisits_18 : decode cX7_sumOfVisits 18 = .ok (.iaload, 1) := by decide +kernel
theorem dX7_sumOfVisits_19 : decode cX7_sumOfVisits 19 = .ok (.iadd, 1) := by decide +kernel
theorem dX7_sumOfVisits_20 : decode cX7_sumOfVisits 20 = .ok (.istore_n 1, 1) := by decide +kernel
theorem dX7_sumOfVisits_21 : decode cX7_sumOfVisits 21 = .ok (.iinc 2 1, 3) := by decide +kernel
theorem dX7_sumOfVisits_24 : decode cX7_sumOfVisits 24 = .ok (.goto (-20), 3) := by decide +kernel
theorem dX7_sumOfVisits_27 : decode cX7_sumOfVisits 27 = .ok (.iload_n 1, 1) := by decide +kernel
theorem dX7_sumOfVisits_28 : decode cX7_sumOfVisits 28 = .ok (.ireturn, 1) := by decide +kernel
theorem dX7_sumOfOwed_0 : decode cX7_sumOfOwed 0 = .ok (.iconst 0, 1) := by decide +kernel
theorem dX7_sumOfOwed_1 : decode cX7_sumOfOwed 1 = .ok (.istore_n 1, 1) := by decide +kernel
theorem dX7_sumOfOwed_2 : decode cX7_sumOfOwed 2 = .ok (.iconst 0, 1) := by decide +kernel
theorem dX7_sumOfOwed_3 : decode cX7_sumOfOwed 3 = .ok (.istore_n 2, 1) := by decide +kernel
theorem dX7_sumOfOwed_4 : decode cX7_sumOfOwed 4 = .ok (.iload_n 2, 1) := by decide +kernel
theorem dX7_sumOfOwed_5 : decode cX7_sumOfOwed 5 = .ok (.aload_n 0, 1) := by decide +kernel
theorem dX7_sumOfOwed_6 : decode cX7_sumOfOwed 6 = .ok (.getfield 49, 3) := by decide +kernel
theorem dX7_sumOfOwed_9 : decode cX7_sumOfOwed 9 = .ok (.if_icmp .ge 18, 3) := by decide +kernel
theorem dX7_sumOfOwed_12 : decode cX7_sumOfOwed 12 = .ok (.iload_n 1, 1) := by decide +kernel
theorem dX7_sumOfOwed_13 : decode cX7_sumOfOwed 13 = .ok (.aload_n 0, 1) := by decide +kernel
theorem dX7_sumOfOwed_14 : decode cX7_sumOfOwed 14 = .ok (.getfield 46, 3) := by decide +kernel
theorem dX7_sumOfOwed_17 : decode cX7_sumOfOwed 17 = .ok (.iload_n 2, 1) := by decide +kernel
theorem dX7_sumOfOwed_18 : decode cX7_sumOfOwed 18 = .ok (.iaload, 1) := by decide +kernel
theorem dX7_sumOfOwed_19 : decode cX7_sumOfOwed 19 = .ok (.iadd, 1) := by decide +kernel
theorem dX7_sumOfOwed_20 : decode cX7_sumOfOwed 20 = .ok (.istore_n 1, 1) := by decide +kernel
theorem dX7_sumOfOwed_21 : decode cX7_sumOfOwed 21 = .ok (.iinc 2 1, 3) := by decide +kernel
theorem dX7_sumOfOwed_24 : decode cX7_sumOfOwed 24 = .ok (.goto (-20), 3) := by decide +kernel
theorem dX7_sumOfOwed_27 : decode cX7_sumOfOwed 27 = .ok (.iload_n 1, 1) := by decide +kernel
theorem dX7_sumOfOwed_28 : decode cX7_sumOfOwed 28 = .ok (.ireturn, 1) := by decide +kernel
theorem dX8_init_0 : decode cX8_init 0 = .ok (.aload_n 0, 1) := by decide +kernel
theorem dX8_init_1 : decode cX8_init 1 = .ok (.invokespecial 3, 3) := by decide +kernel
theorem dX8_init_4 : decode cX8_init 4 = .ok (.aload_n 0, 1) := by decide +kernel
theorem dX8_init_5 : decode cX8_init 5 = .ok (.bipush 14, 2) := by decide +kernel
theorem dX8_init_7 : decode cX8_init 7 = .ok (.newarray .byte, 2) := by decide +kernel
theorem dX8_init_9 : decode cX8_init 9 = .ok (.putfield 9, 3) := by decide +kernel
theorem dX8_init_12 : decode cX8_init 12 = .ok (.return_, 1) := by decide +kernel
theorem dX8_writeDays_0 : decode cX8_writeDays 0 = .ok (.aload_n 0, 1) := by decide +kernel
theorem dX8_writeDays_1 : decode cX8_writeDays 1 = .ok (.aload_n 1, 1) := by decide +kernel
theorem dX8_writeDays_2 : decode cX8_writeDays 2 = .ok (.getfield 15, 3) := by decide +kernel
theorem dX8_writeDays_5 : decode cX8_writeDays 5 = .ok (.iload_n 2, 1) := by decide +kernel
theorem dX8_writeDays_6 : decode cX8_writeDays 6 = .ok (.iaload, 1) := by decide +kernel
theorem dX8_writeDays_7 : decode cX8_writeDays 7 = .ok (.putfield 21, 3) := by decide +kernel
theorem dX8_writeDays_10 : decode cX8_writeDays 10 = .ok (.iconst 0, 1) := by decide +kernel
theorem dX8_writeDays_11 : decode cX8_writeDays 11 = .ok (.istore 4, 2) := by decide +kernel
theorem dX8_writeDays_13 : decode cX8_writeDays 13 = .ok (.iload 4, 2) := by decide +kernel
theorem dX8_writeDays_15 : decode cX8_writeDays 15 = .ok (.aload_n 0, 1) := by decide +kernel
theorem dX8_writeDays_16 : decode cX8_writeDays 16 = .ok (.getfield 21, 3) := by decide +kernel
theorem dX8_writeDays_19 : decode cX8_writeDays 19 = .ok (.if_icmp .ge 25, 3) := by decide +kernel
theorem dX8_writeDays_22 : decode cX8_writeDays 22 = .ok (.aload_n 0, 1) := by decide +kernel
theorem dX8_writeDays_23 : decode cX8_writeDays 23 = .ok (.getfield 9, 3) := by decide +kernel
theorem dX8_writeDays_26 : decode cX8_writeDays 26 = .ok (.iload 4, 2) := by decide +kernel
theorem dX8_writeDays_28 : decode cX8_writeDays 28 = .ok (.aload_n 1, 1) := by decide +kernel
theorem dX8_writeDays_29 : decode cX8_writeDays 29 = .ok (.iload_n 2, 1) := by decide +kernel
theorem dX8_writeDays_30 : decode cX8_writeDays 30 = .ok (.iload 4, 2) := by decide +kernel
theorem dX8_writeDays_32 : decode cX8_writeDays 32 = .ok (.iload_n 3, 1) := by decide +kernel
theorem dX8_writeDays_33 : decode cX8_writeDays 33 = .ok (.invokestatic 25, 3) := by decide +kernel
theorem dX8_writeDays_36 : decode cX8_writeDays 36 = .ok (.i2b, 1) := by decide +kernel
theorem dX8_writeDays_37 : decode cX8_writeDays 37 = .ok (.bastore, 1) := by decide +kernel
theorem dX8_writeDays_38 : decode cX8_writeDays 38 = .ok (.iinc 4 1, 3) := by decide +kernel
theorem dX8_writeDays_41 : decode cX8_writeDays 41 = .ok (.goto (-28), 3) := by decide +kernel
theorem dX8_writeDays_44 : decode cX8_writeDays 44 = .ok (.return_, 1) := by decide +kernel
theorem dX8_letterOfDay_0 : decode cX8_letterOfDay 0 = .ok (.aload_n 0, 1) := by decide +kernel
theorem dX8_letterOfDay_1 : decode cX8_letterOfDay 1 = .ok (.iload_n 1, 1) := by decide +kernel
theorem dX8_letterOfDay_2 : decode cX8_letterOfDay 2 = .ok (.iload_n 2, 1) := by decide +kernel
theorem dX8_letterOfDay_3 : decode cX8_letterOfDay 3 = .ok (.invokevirtual 29, 3) := by decide +kernel
theorem dX8_letterOfDay_6 : decode cX8_letterOfDay 6 = .ok (.ifCond .eq 6, 3) := by decide +kernel
theorem dX8_letterOfDay_9 : decode cX8_letterOfDay 9 = .ok (.bipush 120, 2) := by decide +kernel
theorem dX8_letterOfDay_11 : decode cX8_letterOfDay 11 = .ok (.ireturn, 1) := by decide +kernel
theorem dX8_letterOfDay_12 : decode cX8_letterOfDay 12 = .ok (.aload_n 0, 1) := by decide +kernel
theorem dX8_letterOfDay_13 : decode cX8_letterOfDay 13 = .ok (.getfield 33, 3) := by decide +kernel
theorem dX8_letterOfDay_16 : decode cX8_letterOfDay 16 = .ok (.iload_n 1, 1) := by decide +kernel
theorem dX8_letterOfDay_17 : decode cX8_letterOfDay 17 = .ok (.iaload, 1) := by decide +kernel
theorem dX8_letterOfDay_18 : decode cX8_letterOfDay 18 = .ok (.iload_n 2, 1) := by decide +kernel
theorem dX8_letterOfDay_19 : decode cX8_letterOfDay 19 = .ok (.iadd, 1) := by decide +kernel
theorem dX8_letterOfDay_20 : decode cX8_letterOfDay 20 = .ok (.iload_n 3, 1) := by decide +kernel
theorem dX8_letterOfDay_21 : decode cX8_letterOfDay 21 = .ok (.if_icmp .ge 8, 3) := by decide +kernel
theorem dX8_letterOfDay_24 : decode cX8_letterOfDay 24 = .ok (.bipush 45, 2) := by decide +kernel
theorem dX8_letterOfDay_26 : decode cX8_letterOfDay 26 = .ok (.goto 5, 3) := by decide +kernel
theorem dX8_letterOfDay_29 : decode cX8_letterOfDay 29 = .ok (.bipush 46, 2) := by decide +kernel
theorem dX8_letterOfDay_31 : decode cX8_letterOfDay 31 = .ok (.ireturn, 1) := by decide +kernel
theorem dX9_init_0 : decode cX9_init 0 = .ok (.aload_n 0, 1) := by decide +kernel
theorem dX9_init_1 : decode cX9_init 1 = .ok (.invokespecial 3, 3) := by decide +kernel
theorem dX9_init_4 : decode cX9_init 4 = .ok (.aload_n 0, 1) := by decide +kernel
theorem dX9_init_5 : decode cX9_init 5 = .ok (.new 9, 3) := by decide +kernel
theorem dX9_init_8 : decode cX9_init 8 = .ok (.dup, 1) := by decide +kernel
theorem dX9_init_9 : decode cX9_init 9 = .ok (.invokespecial 11, 3) := by decide +kernel
theorem dX9_init_12 : decode cX9_init 12 = .ok (.putfield 12, 3) := by decide +kernel
theorem dX9_init_15 : decode cX9_init 15 = .ok (.aload_n 0, 1) := by decide +kernel
theorem dX9_init_16 : decode cX9_init 16 = .ok (.new 18, 3) := by decide +kernel
theorem dX9_init_19 : decode cX9_init 19 = .ok (.dup, 1) := by decide +kernel
theorem dX9_init_20 : decode cX9_init 20 = .ok (.invokespecial 20, 3) := by decide +kernel
theorem dX9_init_23 : decode cX9_init 23 = .ok (.putfield 21, 3) := by decide +kernel
theorem dX9_init_26 : decode cX9_init 26 = .ok (.aload_n 0, 1) := by decide +kernel
theorem dX9_init_27 : decode cX9_init 27 = .ok (.iconst 0, 1) := by decide +kernel
theorem dX9_init_28 : decode cX9_init 28 = .ok (.putfield 25, 3) := by decide +kernel
theorem dX9_init_31 : decode cX9_init 31 = .ok (.aload_n 0, 1) := by decide +kernel
theorem dX9_init_32 : decode cX9_init 32 = .ok (.iconst (-1), 1) := by decide +kernel
theorem dX9_init_33 : decode cX9_init 33 = .ok (.putfield 29, 3) := by decide +kernel
theorem dX9_init_36 : decode cX9_init 36 = .ok (.return_, 1) := by decide +kernel
theorem dX9_execute_0 : decode cX9_execute 0 = .ok (.aload_n 0, 1) := by decide +kernel
theorem dX9_execute_1 : decode cX9_execute 1 = .ok (.getfield 12, 3) := by decide +kernel
theorem dX9_execute_4 : decode cX9_execute 4 = .ok (.invokevirtual 32, 3) := by decide +kernel
theorem dX9_execute_7 : decode cX9_execute 7 = .ok (.aload_n 0, 1) := by decide +kernel
theorem dX9_execute_8 : decode cX9_execute 8 = .ok (.iconst 0, 1) := by decide +kernel
theorem dX9_execute_9 : decode cX9_execute 9 = .ok (.putfield 25, 3) := by decide +kernel
theorem dX9_execute_12 : decode cX9_execute 12 = .ok (.aload_n 0, 1) := by decide +kernel
theorem dX9_execute_13 : decode cX9_execute 13 = .ok (.iconst (-1), 1) := by decide +kernel
theorem dX9_execute_14 : decode cX9_execute 14 = .ok (.putfield 29, 3) := by decide +kernel
theorem dX9_execute_17 : decode cX9_execute 17 = .ok (.aload_n 0, 1) := by decide +kernel
theorem dX9_execute_18 : decode cX9_execute 18 = .ok (.getfield 21, 3) := by decide +kernel
theorem dX9_execute_21 : decode cX9_execute 21 = .ok (.invokevirtual 35, 3) := by decide +kernel
theorem dX9_execute_24 : decode cX9_execute 24 = .ok (.aload_n 0, 1) := by decide +kernel
theorem dX9_execute_25 : decode cX9_execute 25 = .ok (.invokevirtual 38, 3) := by decide +kernel
theorem dX9_execute_28 : decode cX9_execute 28 = .ok (.iconst 0, 1) := by decide +kernel
theorem dX9_execute_29 : decode cX9_execute 29 = .ok (.istore_n 1, 1) := by decide +kernel
theorem dX9_execute_30 : decode cX9_execute 30 = .ok (.iload_n 1, 1) := by decide +kernel
theorem dX9_execute_31 : decode cX9_execute 31 = .ok (.sipush 500, 3) := by decide +kernel
theorem dX9_execute_34 : decode cX9_execute 34 = .ok (.if_icmp .ge 20, 3) := by decide +kernel
theorem dX9_execute_37 : decode cX9_execute 37 = .ok (.aload_n 0, 1) := by decide +kernel
theorem dX9_execute_38 : decode cX9_execute 38 = .ok (.invokevirtual 41, 3) := by decide +kernel
theorem dX9_execute_41 : decode cX9_execute 41 = .ok (.ifCond .eq 13, 3) := by decide +kernel
theorem dX9_execute_44 : decode cX9_execute 44 = .ok (.aload_n 0, 1) := by decide +kernel
theorem dX9_execute_45 : decode cX9_execute 45 = .ok (.invokevirtual 45, 3) := by decide +kernel
theorem dX9_execute_48 : decode cX9_execute 48 = .ok (.iinc 1 1, 3) := by decide +kernel
theorem dX9_execute_51 : decode cX9_execute 51 = .ok (.goto (-21), 3) := by decide +kernel
theorem dX9_execute_54 : decode cX9_execute 54 = .ok (.return_, 1) := by decide +kernel
theorem dX9_goesOn_0 : decode cX9_goesOn 0 = .ok (.aload_n 0, 1) := by decide +kernel
theorem dX9_goesOn_1 : decode cX9_goesOn 1 = .ok (.getfield 25, 3) := by decide +kernel
theorem dX9_goesOn_4 : decode cX9_goesOn 4 = .ok (.ifCond .ne 18, 3) := by decide +kernel
theorem dX9_goesOn_7 : decode cX9_goesOn 7 = .ok (.aload_n 0, 1) := by decide +kernel
theorem dX9_goesOn_8 : decode cX9_goesOn 8 = .ok (.getfield 21, 3) := by decide +kernel
theorem dX9_goesOn_11 : decode cX9_goesOn 11 = .ok (.getfield 48, 3) := by decide +kernel
theorem dX9_goesOn_14 : decode cX9_goesOn 14 = .ok (.iconst 3, 1) := by decide +kernel
theorem dX9_goesOn_15 : decode cX9_goesOn 15 = .ok (.if_icmp .eq 7, 3) := by decide +kernel
theorem dX9_goesOn_18 : decode cX9_goesOn 18 = .ok (.iconst 1, 1) := by decide +kernel
theorem dX9_goesOn_19 : decode cX9_goesOn 19 = .ok (.goto 4, 3) := by decide +kernel
theorem dX9_goesOn_22 : decode cX9_goesOn 22 = .ok (.iconst 0, 1) := by decide +kernel
theorem dX9_goesOn_23 : decode cX9_goesOn 23 = .ok (.ireturn, 1) := by decide +kernel
theorem dX9_fail_0 : decode cX9_fail 0 = .ok (.aload_n 0, 1) := by decide +kernel
theorem dX9_fail_1 : decode cX9_fail 1 = .ok (.getfield 25, 3) := by decide +kernel
theorem dX9_fail_4 : decode cX9_fail 4 = .ok (.ifCond .ne 19, 3) := by decide +kernel
theorem dX9_fail_7 : decode cX9_fail 7 = .ok (.aload_n 0, 1) := by decide +kernel
theorem dX9_fail_8 : decode cX9_fail 8 = .ok (.iload_n 1, 1) := by decide +kernel
theorem dX9_fail_9 : decode cX9_fail 9 = .ok (.putfield 25, 3) := by decide +kernel
theorem dX9_fail_12 : decode cX9_fail 12 = .ok (.aload_n 0, 1) := by decide +kernel
theorem dX9_fail_13 : decode cX9_fail 13 = .ok (.aload_n 0, 1) := by decide +kernel
theorem dX9_fail_14 : decode cX9_fail 14 = .ok (.getfield 21, 3) := by decide +kernel
theorem dX9_fail_17 : decode cX9_fail 17 = .ok (.getfield 51, 3) := by decide +kernel
theorem dX9_fail_20 : decode cX9_fail 20 = .ok (.putfield 29, 3) := by decide +kernel
theorem dX9_fail_23 : decode cX9_fail 23 = .ok (.return_, 1) := by decide +kernel
theorem dX9_readGarden_0 : decode cX9_readGarden 0 = .ok (.aload_n 0, 1) := by decide +kernel
theorem dX9_readGarden_1 : decode cX9_readGarden 1 = .ok (.getfield 21, 3) := by decide +kernel
theorem dX9_readGarden_4 : decode cX9_readGarden 4 = .ok (.ldc 54, 2) := by decide +kernel
theorem dX9_readGarden_6 : decode cX9_readGarden 6 = .ok (.invokevirtual 55, 3) := by decide +kernel
theorem dX9_readGarden_9 : decode cX9_readGarden 9 = .ok (.ifCond .ne 9, 3) := by decide +kernel
theorem dX9_readGarden_12 : decode cX9_readGarden 12 = .ok (.aload_n 0, 1) := by decide +kernel
theorem dX9_readGarden_13 : decode cX9_readGarden 13 = .ok (.iconst 1, 1) := by decide +kernel
theorem dX9_readGarden_14 : decode cX9_readGarden 14 = .ok (.invokevirtual 59, 3) := by decide +kernel
theorem dX9_readGarden_17 : decode cX9_readGarden 17 = .ok (.return_, 1) := by decide +kernel
theorem dX9_readGarden_18 : decode cX9_readGarden 18 = .ok (.aload_n 0, 1) := by decide +kernel
theorem dX9_readGarden_19 : decode cX9_readGarden 19 = .ok (.getfield 21, 3) := by decide +kernel
theorem dX9_readGarden_22 : decode cX9_readGarden 22 = .ok (.invokevirtual 63, 3) := by decide +kernel
theorem dX9_readGarden_25 : decode cX9_readGarden 25 = .ok (.aload_n 0, 1) := by decide +kernel
theorem dX9_readGarden_26 : decode cX9_readGarden 26 = .ok (.invokevirtual 66, 3) := by decide +kernel
theorem dX9_readGarden_29 : decode cX9_readGarden 29 = .ok (.iconst 1, 1) := by decide +kernel
theorem dX9_readGarden_30 : decode cX9_readGarden 30 = .ok (.istore_n 1, 1) := by decide +kernel
theorem dX9_readGarden_31 : decode cX9_readGarden 31 = .ok (.iload_n 1, 1) := by decide +kernel
theorem dX9_readGarden_32 : decode cX9_readGarden 32 = .ok (.iconst 5, 1) := by decide +kernel
theorem dX9_readGarden_33 : decode cX9_readGarden 33 = .ok (.if_icmp .gt 31, 3) := by decide +kernel
theorem dX9_readGarden_36 : decode cX9_readGarden 36 = .ok (.aload_n 0, 1) := by decide +kernel
theorem dX9_readGarden_37 : decode cX9_readGarden 37 = .ok (.getfield 25, 3) := by decide +kernel
theorem dX9_readGarden_40 : decode cX9_readGarden 40 = .ok (.ifCond .ne 24, 3) := by decide +kernel
theorem dX9_readGarden_43 : decode cX9_readGarden 43 = .ok (.aload_n 0, 1) := by decide +kernel
theorem dX9_readGarden_44 : decode cX9_readGarden 44 = .ok (.getfield 21, 3) := by decide +kernel
theorem dX9_readGarden_47 : decode cX9_readGarden 47 = .ok (.getfield 48, 3) := by decide +kernel
theorem dX9_readGarden_50 : decode cX9_readGarden 50 = .ok (.iconst 1, 1) := by decide +kernel
theorem dX9_readGarden_51 : decode cX9_readGarden 51 = .ok (.if_icmp .ne 13, 3) := by decide +kernel
theorem dX9_readGarden_54 : decode cX9_readGarden 54 = .ok (.aload_n 0, 1) := by decide +kernel
theorem dX9_readGarden_55 : decode cX9_readGarden 55 = .ok (.invokevirtual 66, 3) := by decide +kernel
theorem dX9_readGarden_58 : decode cX9_readGarden 58 = .ok (.iinc 1 1, 3) := by decide +kernel
theorem dX9_readGarden_61 : decode cX9_readGarden 61 = .ok (.goto (-30), 3) := by decide +kernel
theorem dX9_readGarden_64 : decode cX9_readGarden 64 = .ok (.aload_n 0, 1) := by decide +kernel
theorem dX9_readGarden_65 : decode cX9_readGarden 65 = .ok (.invokevirtual 69, 3) := by decide +kernel
theorem dX9_readGarden_68 : decode cX9_readGarden 68 = .ok (.ifCond .eq 10, 3) := by decide +kernel
theorem dX9_readGarden_71 : decode cX9_readGarden 71 = .ok (.aload_n 0, 1) := by decide +kernel
theorem dX9_readGarden_72 : decode cX9_readGarden 72 = .ok (.getfield 21, 3) := by decide +kernel
theorem dX9_readGarden_75 : decode cX9_readGarden 75 = .ok (.invokevirtual 63, 3) := by decide +kernel
theorem dX9_readGarden_78 : decode cX9_readGarden 78 = .ok (.return_, 1) := by decide +kernel
theorem dX9_readPrice_0 : decode cX9_readPrice 0 = .ok (.aload_n 0, 1) := by decide +kernel
theorem dX9_readPrice_1 : decode cX9_readPrice 1 = .ok (.iconst 1, 1) := by decide +kernel
theorem dX9_readPrice_2 : decode cX9_readPrice 2 = .ok (.bipush 99, 2) := by decide +kernel
theorem dX9_readPrice_4 : decode cX9_readPrice 4 = .ok (.invokevirtual 72, 3) := by decide +kernel
theorem dX9_readPrice_7 : decode cX9_readPrice 7 = .ok (.istore_n 1, 1) := by decide +kernel
theorem dX9_readPrice_8 : decode cX9_readPrice 8 = .ok (.aload_n 0, 1) := by decide +kernel
theorem dX9_readPrice_9 : decode cX9_readPrice 9 = .ok (.getfield 12, 3) := by decide +kernel
theorem dX9_readPrice_12 : decode cX9_readPrice 12 = .ok (.getfield 76, 3) := by decide +kernel
theorem dX9_readPrice_15 : decode cX9_readPrice 15 = .ok (.invokevirtual 80, 3) := by decide +kernel
theorem dX9_readPrice_18 : decode cX9_readPrice 18 = .ok (.ifCond .ne 8, 3) := by decide +kernel
theorem dX9_readPrice_21 : decode cX9_readPrice 21 = .ok (.aload_n 0, 1) := by decide +kernel
theorem dX9_readPrice_22 : decode cX9_readPrice 22 = .ok (.iconst 3, 1) := by decide +kernel
theorem dX9_readPrice_23 : decode cX9_readPrice 23 = .ok (.invokevirtual 59, 3) := by decide +kernel
theorem dX9_readPrice_26 : decode cX9_readPrice 26 = .ok (.aload_n 0, 1) := by decide +kernel
theorem dX9_readPrice_27 : decode cX9_readPrice 27 = .ok (.getfield 25, 3) := by decide +kernel
theorem dX9_readPrice_30 : decode cX9_readPrice 30 = .ok (.ifCond .ne 21, 3) := by decide +kernel
theorem dX9_readPrice_33 : decode cX9_readPrice 33 = .ok (.aload_n 0, 1) := by decide +kernel
theorem dX9_readPrice_34 : decode cX9_readPrice 34 = .ok (.getfield 12, 3) := by decide +kernel
theorem dX9_readPrice_37 : decode cX9_readPrice 37 = .ok (.getfield 76, 3) := by decide +kernel
theorem dX9_readPrice_40 : decode cX9_readPrice 40 = .ok (.iload_n 1, 1) := by decide +kernel
theorem dX9_readPrice_41 : decode cX9_readPrice 41 = .ok (.invokevirtual 85, 3) := by decide +kernel
theorem dX9_readPrice_44 : decode cX9_readPrice 44 = .ok (.aload_n 0, 1) := by decide +kernel
theorem dX9_readPrice_45 : decode cX9_readPrice 45 = .ok (.getfield 21, 3) := by decide +kernel
theorem dX9_readPrice_48 : decode cX9_readPrice 48 = .ok (.invokevirtual 63, 3) := by decide +kernel
theorem dX9_readPrice_51 : decode cX9_readPrice 51 = .ok (.return_, 1) := by decide +kernel
theorem dX9_readCommand_0 : decode cX9_readCommand 0 = .ok (.aload_n 0, 1) := by decide +kernel
theorem dX9_readCommand_1 : decode cX9_readCommand 1 = .ok (.getfield 21, 3) := by decide +kernel
theorem dX9_readCommand_4 : decode cX9_readCommand 4 = .ok (.ldc 88, 2) := by decide +kernel
theorem dX9_readCommand_6 : decode cX9_readCommand 6 = .ok (.invokevirtual 55, 3) := by decide +kernel
theorem dX9_readCommand_9 : decode cX9_readCommand 9 = .ok (.ifCond .eq 10, 3) := by decide +kernel
theorem dX9_readCommand_12 : decode cX9_readCommand 12 = .ok (.aload_n 0, 1) := by decide +kernel
theorem dX9_readCommand_13 : decode cX9_readCommand 13 = .ok (.invokevirtual 90, 3) := by decide +kernel
theorem dX9_readCommand_16 : decode cX9_readCommand 16 = .ok (.goto 179, 3) := by decide +kernel
theorem dX9_readCommand_19 : decode cX9_readCommand 19 = .ok (.aload_n 0, 1) := by decide +kernel
theorem dX9_readCommand_20 : decode cX9_readCommand 20 = .ok (.getfield 21, 3) := by decide +kernel
theorem dX9_readCommand_23 : decode cX9_readCommand 23 = .ok (.ldc 93, 2) := by decide +kernel
theorem dX9_readCommand_25 : decode cX9_readCommand 25 = .ok (.invokevirtual 55, 3) := by decide +kernel
theorem dX9_readCommand_28 : decode cX9_readCommand 28 = .ok (.ifCond .eq 10, 3) := by decide +kernel
theorem dX9_readCommand_31 : decode cX9_readCommand 31 = .ok (.aload_n 0, 1) := by decide +kernel
theorem dX9_readCommand_32 : decode cX9_readCommand 32 = .ok (.invokevirtual 95, 3) := by decide +kernel
theorem dX9_readCommand_35 : decode cX9_readCommand 35 = .ok (.goto 160, 3) := by decide +kernel
theorem dX9_readCommand_38 : decode cX9_readCommand 38 = .ok (.aload_n 0, 1) := by decide +kernel
theorem dX9_readCommand_39 : decode cX9_readCommand 39 = .ok (.getfield 21, 3) := by decide +kernel
theorem dX9_readCommand_42 : decode cX9_readCommand 42 = .ok (.ldc 98, 2) := by decide +kernel
theorem dX9_readCommand_44 : decode cX9_readCommand 44 = .ok (.invokevirtual 55, 3) := by decide +kernel
theorem dX9_readCommand_47 : decode cX9_readCommand 47 = .ok (.ifCond .eq 10, 3) := by decide +kernel
theorem dX9_readCommand_50 : decode cX9_readCommand 50 = .ok (.aload_n 0, 1) := by decide +kernel
theorem dX9_readCommand_51 : decode cX9_readCommand 51 = .ok (.invokevirtual 100, 3) := by decide +kernel
theorem dX9_readCommand_54 : decode cX9_readCommand 54 = .ok (.goto 141, 3) := by decide +kernel
theorem dX9_readCommand_57 : decode cX9_readCommand 57 = .ok (.aload_n 0, 1) := by decide +kernel
theorem dX9_readCommand_58 : decode cX9_readCommand 58 = .ok (.getfield 21, 3) := by decide +kernel
theorem dX9_readCommand_61 : decode cX9_readCommand 61 = .ok (.ldc 103, 2) := by decide +kernel
theorem dX9_readCommand_63 : decode cX9_readCommand 63 = .ok (.invokevirtual 55, 3) := by decide +kernel
theorem dX9_readCommand_66 : decode cX9_readCommand 66 = .ok (.ifCond .eq 10, 3) := by decide +kernel
theorem dX9_readCommand_69 : decode cX9_readCommand 69 = .ok (.aload_n 0, 1) := by decide +kernel
theorem dX9_readCommand_70 : decode cX9_readCommand 70 = .ok (.invokevirtual 105, 3) := by decide +kernel
theorem dX9_readCommand_73 : decode cX9_readCommand 73 = .ok (.goto 122, 3) := by decide +kernel
theorem dX9_readCommand_76 : decode cX9_readCommand 76 = .ok (.aload_n 0, 1) := by decide +kernel
theorem dX9_readCommand_77 : decode cX9_readCommand 77 = .ok (.getfield 21, 3) := by decide +kernel
theorem dX9_readCommand_80 : decode cX9_readCommand 80 = .ok (.ldc 108, 2) := by decide +kernel
theorem dX9_readCommand_82 : decode cX9_readCommand 82 = .ok (.invokevirtual 55, 3) := by decide +kernel
theorem dX9_readCommand_85 : decode cX9_readCommand 85 = .ok (.ifCond .eq 10, 3) := by decide +kernel
theorem dX9_readCommand_88 : decode cX9_readCommand 88 = .ok (.aload_n 0, 1) := by decide +kernel
theorem dX9_readCommand_89 : decode cX9_readCommand 89 = .ok (.invokevirtual 110, 3) := by decide +kernel
theorem dX9_readCommand_92 : decode cX9_readCommand 92 = .ok (.goto 103, 3) := by decide +kernel
theorem dX9_readCommand_95 : decode cX9_readCommand 95 = .ok (.aload_n 0, 1) := by decide +kernel
theorem dX9_readCommand_96 : decode cX9_readCommand 96 = .ok (.getfield 21, 3) := by decide +kernel
theorem dX9_readCommand_99 : decode cX9_readCommand 99 = .ok (.ldc 113, 2) := by decide +kernel
theorem dX9_readCommand_101 : decode cX9_readCommand 101 = .ok (.invokevirtual 55, 3) := by decide +kernel
theorem dX9_readCommand_104 : decode cX9_readCommand 104 = .ok (.ifCond .eq 10, 3) := by decide +kernel
theorem dX9_readCommand_107 : decode cX9_readCommand 107 = .ok (.aload_n 0, 1) := by decide +kernel
theorem dX9_readCommand_108 : decode cX9_readCommand 108 = .ok (.invokevirtual 115, 3) := by decide +kernel
theorem dX9_readCommand_111 : decode cX9_readCommand 111 = .ok (.goto 84, 3) := by decide +kernel
theorem dX9_readCommand_114 : decode cX9_readCommand 114 = .ok (.aload_n 0, 1) := by decide +kernel
theorem dX9_readCommand_115 : decode cX9_readCommand 115 = .ok (.getfield 21, 3) := by decide +kernel
theorem dX9_readCommand_118 : decode cX9_readCommand 118 = .ok (.ldc 118, 2) := by decide +kernel
theorem dX9_readCommand_120 : decode cX9_readCommand 120 = .ok (.invokevirtual 55, 3) := by decide +kernel
theorem dX9_readCommand_123 : decode cX9_readCommand 123 = .ok (.ifCond .eq 10, 3) := by decide +kernel
theorem dX9_readCommand_126 : decode cX9_readCommand 126 = .ok (.aload_n 0, 1) := by decide +kernel
theorem dX9_readCommand_127 : decode cX9_readCommand 127 = .ok (.invokevirtual 120, 3) := by decide +kernel
theorem dX9_readCommand_130 : decode cX9_readCommand 130 = .ok (.goto 65, 3) := by decide +kernel
theorem dX9_readCommand_133 : decode cX9_readCommand 133 = .ok (.aload_n 0, 1) := by decide +kernel
theorem dX9_readCommand_134 : decode cX9_readCommand 134 = .ok (.getfield 21, 3) := by decide +kernel
theorem dX9_readCommand_137 : decode cX9_readCommand 137 = .ok (.ldc 123, 2) := by decide +kernel
theorem dX9_readCommand_139 : decode cX9_readCommand 139 = .ok (.invokevirtual 55, 3) := by decide +kernel
theorem dX9_readCommand_142 : decode cX9_readCommand 142 = .ok (.ifCond .eq 10, 3) := by decide +kernel
theorem dX9_readCommand_145 : decode cX9_readCommand 145 = .ok (.aload_n 0, 1) := by decide +kernel
theorem dX9_readCommand_146 : decode cX9_readCommand 146 = .ok (.invokevirtual 125, 3) := by decide +kernel
theorem dX9_readCommand_149 : decode cX9_readCommand 149 = .ok (.goto 46, 3) := by decide +kernel
theorem dX9_readCommand_152 : decode cX9_readCommand 152 = .ok (.aload_n 0, 1) := by decide +kernel
theorem dX9_readCommand_153 : decode cX9_readCommand 153 = .ok (.getfield 21, 3) := by decide +kernel
theorem dX9_readCommand_156 : decode cX9_readCommand 156 = .ok (.ldc 128, 2) := by decide +kernel
theorem dX9_readCommand_158 : decode cX9_readCommand 158 = .ok (.invokevirtual 55, 3) := by decide +kernel
theorem dX9_readCommand_161 : decode cX9_readCommand 161 = .ok (.ifCond .eq 10, 3) := by decide +kernel
theorem dX9_readCommand_164 : decode cX9_readCommand 164 = .ok (.aload_n 0, 1) := by decide +kernel
theorem dX9_readCommand_165 : decode cX9_readCommand 165 = .ok (.invokevirtual 130, 3) := by decide +kernel
theorem dX9_readCommand_168 : decode cX9_readCommand 168 = .ok (.goto 27, 3) := by decide +kernel
theorem dX9_readCommand_171 : decode cX9_readCommand 171 = .ok (.aload_n 0, 1) := by decide +kernel
theorem dX9_readCommand_172 : decode cX9_readCommand 172 = .ok (.getfield 21, 3) := by decide +kernel
theorem dX9_readCommand_175 : decode cX9_readCommand 175 = .ok (.ldc 133, 2) := by decide +kernel
theorem dX9_readCommand_177 : decode cX9_readCommand 177 = .ok (.invokevirtual 55, 3) := by decide +kernel
theorem dX9_readCommand_180 : decode cX9_readCommand 180 = .ok (.ifCond .eq 10, 3) := by decide +kernel
theorem dX9_readCommand_183 : decode cX9_readCommand 183 = .ok (.aload_n 0, 1) := by decide +kernel
theorem dX9_readCommand_184 : decode cX9_readCommand 184 = .ok (.invokevirtual 135, 3) := by decide +kernel
theorem dX9_readCommand_187 : decode cX9_readCommand 187 = .ok (.goto 8, 3) := by decide +kernel
theorem dX9_readCommand_190 : decode cX9_readCommand 190 = .ok (.aload_n 0, 1) := by decide +kernel
theorem dX9_readCommand_191 : decode cX9_readCommand 191 = .ok (.iconst 1, 1) := by decide +kernel
theorem dX9_readCommand_192 : decode cX9_readCommand 192 = .ok (.invokevirtual 59, 3) := by decide +kernel
theorem dX9_readCommand_195 : decode cX9_readCommand 195 = .ok (.aload_n 0, 1) := by decide +kernel
theorem dX9_readCommand_196 : decode cX9_readCommand 196 = .ok (.getfield 25, 3) := by decide +kernel
theorem dX9_readCommand_199 : decode cX9_readCommand 199 = .ok (.ifCond .ne 10, 3) := by decide +kernel
theorem dX9_readCommand_202 : decode cX9_readCommand 202 = .ok (.aload_n 0, 1) := by decide +kernel
theorem dX9_readCommand_203 : decode cX9_readCommand 203 = .ok (.getfield 21, 3) := by decide +kernel
theorem dX9_readCommand_206 : decode cX9_readCommand 206 = .ok (.invokevirtual 63, 3) := by decide +kernel
theorem dX9_readCommand_209 : decode cX9_readCommand 209 = .ok (.return_, 1) := by decide +kernel
theorem dX9_readBed_0 : decode cX9_readBed 0 = .ok (.aload_n 0, 1) := by decide +kernel
theorem dX9_readBed_1 : decode cX9_readBed 1 = .ok (.iconst 0, 1) := by decide +kernel
theorem dX9_readBed_2 : decode cX9_readBed 2 = .ok (.aload_n 0, 1) := by decide +kernel
theorem dX9_readBed_3 : decode cX9_readBed 3 = .ok (.getfield 12, 3) := by decide +kernel
theorem dX9_readBed_6 : decode cX9_readBed 6 = .ok (.getfield 76, 3) := by decide +kernel
theorem dX9_readBed_9 : decode cX9_readBed 9 = .ok (.getfield 138, 3) := by decide +kernel
theorem dX9_readBed_12 : decode cX9_readBed 12 = .ok (.iconst 1, 1) := by decide +kernel
theorem dX9_readBed_13 : decode cX9_readBed 13 = .ok (.isub, 1) := by decide +kernel
theorem dX9_readBed_14 : decode cX9_readBed 14 = .ok (.invokevirtual 141, 3) := by decide +kernel
theorem dX9_readBed_17 : decode cX9_readBed 17 = .ok (.istore_n 1, 1) := by decide +kernel
theorem dX9_readBed_18 : decode cX9_readBed 18 = .ok (.aload_n 0, 1) := by decide +kernel
theorem dX9_readBed_19 : decode cX9_readBed 19 = .ok (.iconst 1, 1) := by decide +kernel
theorem dX9_readBed_20 : decode cX9_readBed 20 = .ok (.bipush 20, 2) := by decide +kernel
theorem dX9_readBed_22 : decode cX9_readBed 22 = .ok (.invokevirtual 141, 3) := by decide +kernel
theorem dX9_readBed_25 : decode cX9_readBed 25 = .ok (.istore_n 2, 1) := by decide +kernel
theorem dX9_readBed_26 : decode cX9_readBed 26 = .ok (.aload_n 0, 1) := by decide +kernel
theorem dX9_readBed_27 : decode cX9_readBed 27 = .ok (.iconst 0, 1) := by decide +kernel
theorem dX9_readBed_28 : decode cX9_readBed 28 = .ok (.bipush 99, 2) := by decide +kernel
theorem dX9_readBed_30 : decode cX9_readBed 30 = .ok (.invokevirtual 141, 3) := by decide +kernel
theorem dX9_readBed_33 : decode cX9_readBed 33 = .ok (.istore_n 3, 1) := by decide +kernel
theorem dX9_readBed_34 : decode cX9_readBed 34 = .ok (.aload_n 0, 1) := by decide +kernel
theorem dX9_readBed_35 : decode cX9_readBed 35 = .ok (.iload_n 3, 1) := by decide +kernel
theorem dX9_readBed_36 : decode cX9_readBed 36 = .ok (.bipush 99, 2) := by decide +kernel
theorem dX9_readBed_38 : decode cX9_readBed 38 = .ok (.invokevirtual 141, 3) := by decide +kernel
theorem dX9_readBed_41 : decode cX9_readBed 41 = .ok (.istore 4, 2) := by decide +kernel
theorem dX9_readBed_43 : decode cX9_readBed 43 = .ok (.aload_n 0, 1) := by decide +kernel
theorem dX9_readBed_44 : decode cX9_readBed 44 = .ok (.invokevirtual 144, 3) := by decide +kernel
theorem dX9_readBed_47 : decode cX9_readBed 47 = .ok (.ifCond .eq 36, 3) := by decide +kernel
theorem dX9_readBed_50 : decode cX9_readBed 50 = .ok (.aload_n 0, 1) := by decide +kernel
theorem dX9_readBed_51 : decode cX9_readBed 51 = .ok (.aload_n 0, 1) := by decide +kernel
theorem dX9_readBed_52 : decode cX9_readBed 52 = .ok (.getfield 12, 3) := by decide +kernel
theorem dX9_readBed_55 : decode cX9_readBed 55 = .ok (.getfield 147, 3) := by decide +kernel
theorem dX9_readBed_58 : decode cX9_readBed 58 = .ok (.invokevirtual 151, 3) := by decide +kernel
theorem dX9_readBed_61 : decode cX9_readBed 61 = .ok (.invokevirtual 154, 3) := by decide +kernel
theorem dX9_readBed_64 : decode cX9_readBed 64 = .ok (.ifCond .eq 19, 3) := by decide +kernel
theorem dX9_readBed_67 : decode cX9_readBed 67 = .ok (.aload_n 0, 1) := by decide +kernel
theorem dX9_readBed_68 : decode cX9_readBed 68 = .ok (.getfield 12, 3) := by decide +kernel
theorem dX9_readBed_71 : decode cX9_readBed 71 = .ok (.getfield 147, 3) := by decide +kernel
theorem dX9_readBed_74 : decode cX9_readBed 74 = .ok (.iload_n 1, 1) := by decide +kernel
theorem dX9_readBed_75 : decode cX9_readBed 75 = .ok (.iload_n 2, 1) := by decide +kernel
theorem dX9_readBed_76 : decode cX9_readBed 76 = .ok (.iload_n 3, 1) := by decide +kernel
theorem dX9_readBed_77 : decode cX9_readBed 77 = .ok (.iload 4, 2) := by decide +kernel
theorem dX9_readBed_79 : decode cX9_readBed 79 = .ok (.invokevirtual 158, 3) := by decide +kernel
theorem dX9_readBed_82 : decode cX9_readBed 82 = .ok (.pop, 1) := by decide +kernel
theorem dX9_readBed_83 : decode cX9_readBed 83 = .ok (.return_, 1) := by decide +kernel
theorem dX9_readSell_0 : decode cX9_readSell 0 = .ok (.aload_n 0, 1) := by decide +kernel
theorem dX9_readSell_1 : decode cX9_readSell 1 = .ok (.iconst 1, 1) := by decide +kernel
theorem dX9_readSell_2 : decode cX9_readSell 2 = .ok (.aload_n 0, 1) := by decide +kernel
theorem dX9_readSell_3 : decode cX9_readSell 3 = .ok (.getfield 12, 3) := by decide +kernel
theorem dX9_readSell_6 : decode cX9_readSell 6 = .ok (.getfield 76, 3) := by decide +kernel
theorem dX9_readSell_9 : decode cX9_readSell 9 = .ok (.invokevirtual 161, 3) := by decide +kernel
theorem dX9_readSell_12 : decode cX9_readSell 12 = .ok (.invokevirtual 141, 3) := by decide +kernel
theorem dX9_readSell_15 : decode cX9_readSell 15 = .ok (.istore_n 1, 1) := by decide +kernel
theorem dX9_readSell_16 : decode cX9_readSell 16 = .ok (.aload_n 0, 1) := by decide +kernel
theorem dX9_readSell_17 : decode cX9_readSell 17 = .ok (.aload_n 0, 1) := by decide +kernel
theorem dX9_readSell_18 : decode cX9_readSell 18 = .ok (.getfield 12, 3) := by decide +kernel
theorem dX9_readSell_21 : decode cX9_readSell 21 = .ok (.getfield 165, 3) := by decide +kernel
theorem dX9_readSell_24 : decode cX9_readSell 24 = .ok (.invokevirtual 169, 3) := by decide +kernel
theorem dX9_readSell_27 : decode cX9_readSell 27 = .ok (.bipush 99, 2) := by decide +kernel
theorem dX9_readSell_29 : decode cX9_readSell 29 = .ok (.invokevirtual 141, 3) := by decide +kernel
theorem dX9_readSell_32 : decode cX9_readSell 32 = .ok (.istore_n 2, 1) := by decide +kernel
theorem dX9_readSell_33 : decode cX9_readSell 33 = .ok (.aload_n 0, 1) := by decide +kernel
theorem dX9_readSell_34 : decode cX9_readSell 34 = .ok (.iconst 1, 1) := by decide +kernel
theorem dX9_readSell_35 : decode cX9_readSell 35 = .ok (.bipush 14, 2) := by decide +kernel
theorem dX9_readSell_37 : decode cX9_readSell 37 = .ok (.invokevirtual 141, 3) := by decide +kernel
theorem dX9_readSell_40 : decode cX9_readSell 40 = .ok (.istore_n 3, 1) := by decide +kernel
theorem dX9_readSell_41 : decode cX9_readSell 41 = .ok (.aload_n 0, 1) := by decide +kernel
theorem dX9_readSell_42 : decode cX9_readSell 42 = .ok (.invokevirtual 174, 3) := by decide +kernel
theorem dX9_readSell_45 : decode cX9_readSell 45 = .ok (.istore 4, 2) := by decide +kernel
theorem dX9_readSell_47 : decode cX9_readSell 47 = .ok (.aload_n 0, 1) := by decide +kernel
theorem dX9_readSell_48 : decode cX9_readSell 48 = .ok (.invokevirtual 144, 3) := by decide +kernel
theorem dX9_readSell_51 : decode cX9_readSell 51 = .ok (.ifCond .eq 30, 3) := by decide +kernel
theorem dX9_readSell_54 : decode cX9_readSell 54 = .ok (.aload_n 0, 1) := by decide +kernel
theorem dX9_readSell_55 : decode cX9_readSell 55 = .ok (.aload_n 0, 1) := by decide +kernel
theorem dX9_readSell_56 : decode cX9_readSell 56 = .ok (.getfield 12, 3) := by decide +kernel
theorem dX9_readSell_59 : decode cX9_readSell 59 = .ok (.invokevirtual 177, 3) := by decide +kernel
theorem dX9_readSell_62 : decode cX9_readSell 62 = .ok (.invokevirtual 154, 3) := by decide +kernel
theorem dX9_readSell_65 : decode cX9_readSell 65 = .ok (.ifCond .eq 16, 3) := by decide +kernel
theorem dX9_readSell_68 : decode cX9_readSell 68 = .ok (.aload_n 0, 1) := by decide +kernel
theorem dX9_readSell_69 : decode cX9_readSell 69 = .ok (.getfield 12, 3) := by decide +kernel
theorem dX9_readSell_72 : decode cX9_readSell 72 = .ok (.iload_n 1, 1) := by decide +kernel
theorem dX9_readSell_73 : decode cX9_readSell 73 = .ok (.iload_n 2, 1) := by decide +kernel
theorem dX9_readSell_74 : decode cX9_readSell 74 = .ok (.iload_n 3, 1) := by decide +kernel
theorem dX9_readSell_75 : decode cX9_readSell 75 = .ok (.iload 4, 2) := by decide +kernel
theorem dX9_readSell_77 : decode cX9_readSell 77 = .ok (.invokevirtual 180, 3) := by decide +kernel
theorem dX9_readSell_80 : decode cX9_readSell 80 = .ok (.pop, 1) := by decide +kernel
theorem dX9_readSell_81 : decode cX9_readSell 81 = .ok (.return_, 1) := by decide +kernel
theorem dX9_readVisit_0 : decode cX9_readVisit 0 = .ok (.aload_n 0, 1) := by decide +kernel
theorem dX9_readVisit_1 : decode cX9_readVisit 1 = .ok (.iconst 0, 1) := by decide +kernel
theorem dX9_readVisit_2 : decode cX9_readVisit 2 = .ok (.aload_n 0, 1) := by decide +kernel
theorem dX9_readVisit_3 : decode cX9_readVisit 3 = .ok (.getfield 12, 3) := by decide +kernel
theorem dX9_readVisit_6 : decode cX9_readVisit 6 = .ok (.getfield 183, 3) := by decide +kernel
theorem dX9_readVisit_9 : decode cX9_readVisit 9 = .ok (.getfield 187, 3) := by decide +kernel
theorem dX9_readVisit_12 : decode cX9_readVisit 12 = .ok (.iconst 1, 1) := by decide +kernel
theorem dX9_readVisit_13 : decode cX9_readVisit 13 = .ok (.isub, 1) := by decide +kernel
theorem dX9_readVisit_14 : decode cX9_readVisit 14 = .ok (.invokevirtual 141, 3) := by decide +kernel
theorem dX9_readVisit_17 : decode cX9_readVisit 17 = .ok (.istore_n 1, 1) := by decide +kernel
theorem dX9_readVisit_18 : decode cX9_readVisit 18 = .ok (.aload_n 0, 1) := by decide +kernel
theorem dX9_readVisit_19 : decode cX9_readVisit 19 = .ok (.iconst 0, 1) := by decide +kernel
theorem dX9_readVisit_20 : decode cX9_readVisit 20 = .ok (.aload_n 0, 1) := by decide +kernel
theorem dX9_readVisit_21 : decode cX9_readVisit 21 = .ok (.getfield 12, 3) := by decide +kernel
theorem dX9_readVisit_24 : decode cX9_readVisit 24 = .ok (.getfield 147, 3) := by decide +kernel
theorem dX9_readVisit_27 : decode cX9_readVisit 27 = .ok (.getfield 192, 3) := by decide +kernel
theorem dX9_readVisit_30 : decode cX9_readVisit 30 = .ok (.iconst 1, 1) := by decide +kernel
theorem dX9_readVisit_31 : decode cX9_readVisit 31 = .ok (.isub, 1) := by decide +kernel
theorem dX9_readVisit_32 : decode cX9_readVisit 32 = .ok (.invokevirtual 141, 3) := by decide +kernel
theorem dX9_readVisit_35 : decode cX9_readVisit 35 = .ok (.istore_n 2, 1) := by decide +kernel
theorem dX9_readVisit_36 : decode cX9_readVisit 36 = .ok (.aload_n 0, 1) := by decide +kernel
theorem dX9_readVisit_37 : decode cX9_readVisit 37 = .ok (.invokevirtual 144, 3) := by decide +kernel
theorem dX9_readVisit_40 : decode cX9_readVisit 40 = .ok (.ifCond .eq 25, 3) := by decide +kernel
theorem dX9_readVisit_43 : decode cX9_readVisit 43 = .ok (.aload_n 0, 1) := by decide +kernel
theorem dX9_readVisit_44 : decode cX9_readVisit 44 = .ok (.aload_n 0, 1) := by decide +kernel
theorem dX9_readVisit_45 : decode cX9_readVisit 45 = .ok (.getfield 12, 3) := by decide +kernel
theorem dX9_readVisit_48 : decode cX9_readVisit 48 = .ok (.iload_n 1, 1) := by decide +kernel
theorem dX9_readVisit_49 : decode cX9_readVisit 49 = .ok (.iload_n 2, 1) := by decide +kernel
theorem dX9_readVisit_50 : decode cX9_readVisit 50 = .ok (.invokevirtual 193, 3) := by decide +kernel
theorem dX9_readVisit_53 : decode cX9_readVisit 53 = .ok (.ifCond .ne 7, 3) := by decide +kernel
theorem dX9_readVisit_56 : decode cX9_readVisit 56 = .ok (.iconst 1, 1) := by decide +kernel
theorem dX9_readVisit_57 : decode cX9_readVisit 57 = .ok (.goto 4, 3) := by decide +kernel
theorem dX9_readVisit_60 : decode cX9_readVisit 60 = .ok (.iconst 0, 1) := by decide +kernel
theorem dX9_readVisit_61 : decode cX9_readVisit 61 = .ok (.invokevirtual 154, 3) := by decide +kernel
theorem dX9_readVisit_64 : decode cX9_readVisit 64 = .ok (.pop, 1) := by decide +kernel
theorem dX9_readVisit_65 : decode cX9_readVisit 65 = .ok (.return_, 1) := by decide +kernel
theorem dX9_readPluck_0 : decode cX9_readPluck 0 = .ok (.aload_n 0, 1) := by decide +kernel
theorem dX9_readPluck_1 : decode cX9_readPluck 1 = .ok (.iconst 0, 1) := by decide +kernel
theorem dX9_readPluck_2 : decode cX9_readPluck 2 = .ok (.aload_n 0, 1) := by decide +kernel
theorem dX9_readPluck_3 : decode cX9_readPluck 3 = .ok (.getfield 12, 3) := by decide +kernel
theorem dX9_readPluck_6 : decode cX9_readPluck 6 = .ok (.getfield 183, 3) := by decide +kernel
theorem dX9_readPluck_9 : decode cX9_readPluck 9 = .ok (.getfield 187, 3) := by decide +kernel
theorem dX9_readPluck_12 : decode cX9_readPluck 12 = .ok (.iconst 1, 1) := by decide +kernel
theorem dX9_readPluck_13 : decode cX9_readPluck 13 = .ok (.isub, 1) := by decide +kernel
theorem dX9_readPluck_14 : decode cX9_readPluck 14 = .ok (.invokevirtual 141, 3) := by decide +kernel
theorem dX9_readPluck_17 : decode cX9_readPluck 17 = .ok (.istore_n 1, 1) := by decide +kernel
theorem dX9_readPluck_18 : decode cX9_readPluck 18 = .ok (.aload_n 0, 1) := by decide +kernel
theorem dX9_readPluck_19 : decode cX9_readPluck 19 = .ok (.iconst 1, 1) := by decide +kernel
theorem dX9_readPluck_20 : decode cX9_readPluck 20 = .ok (.bipush 9, 2) := by decide +kernel
theorem dX9_readPluck_22 : decode cX9_readPluck 22 = .ok (.invokevirtual 141, 3) := by decide +kernel
theorem dX9_readPluck_25 : decode cX9_readPluck 25 = .ok (.istore_n 2, 1) := by decide +kernel
theorem dX9_readPluck_26 : decode cX9_readPluck 26 = .ok (.aload_n 0, 1) := by decide +kernel
theorem dX9_readPluck_27 : decode cX9_readPluck 27 = .ok (.invokevirtual 144, 3) := by decide +kernel
theorem dX9_readPluck_30 : decode cX9_readPluck 30 = .ok (.ifCond .eq 29, 3) := by decide +kernel
theorem dX9_readPluck_33 : decode cX9_readPluck 33 = .ok (.aload_n 0, 1) := by decide +kernel
theorem dX9_readPluck_34 : decode cX9_readPluck 34 = .ok (.aload_n 0, 1) := by decide +kernel
theorem dX9_readPluck_35 : decode cX9_readPluck 35 = .ok (.getfield 12, 3) := by decide +kernel
theorem dX9_readPluck_38 : decode cX9_readPluck 38 = .ok (.iload_n 1, 1) := by decide +kernel
theorem dX9_readPluck_39 : decode cX9_readPluck 39 = .ok (.iload_n 2, 1) := by decide +kernel
theorem dX9_readPluck_40 : decode cX9_readPluck 40 = .ok (.invokevirtual 196, 3) := by decide +kernel
theorem dX9_readPluck_43 : decode cX9_readPluck 43 = .ok (.invokevirtual 154, 3) := by decide +kernel
theorem dX9_readPluck_46 : decode cX9_readPluck 46 = .ok (.ifCond .eq 13, 3) := by decide +kernel
theorem dX9_readPluck_49 : decode cX9_readPluck 49 = .ok (.aload_n 0, 1) := by decide +kernel
theorem dX9_readPluck_50 : decode cX9_readPluck 50 = .ok (.getfield 12, 3) := by decide +kernel
theorem dX9_readPluck_53 : decode cX9_readPluck 53 = .ok (.iload_n 1, 1) := by decide +kernel
theorem dX9_readPluck_54 : decode cX9_readPluck 54 = .ok (.iload_n 2, 1) := by decide +kernel
theorem dX9_readPluck_55 : decode cX9_readPluck 55 = .ok (.invokevirtual 200, 3) := by decide +kernel
theorem dX9_readPluck_58 : decode cX9_readPluck 58 = .ok (.pop, 1) := by decide +kernel
theorem dX9_readPluck_59 : decode cX9_readPluck 59 = .ok (.return_, 1) := by decide +kernel
theorem dX9_readPay_0 : decode cX9_readPay 0 = .ok (.aload_n 0, 1) := by decide +kernel
theorem dX9_readPay_1 : decode cX9_readPay 1 = .ok (.iconst 0, 1) := by decide +kernel
theorem dX9_readPay_2 : decode cX9_readPay 2 = .ok (.aload_n 0, 1) := by decide +kernel
theorem dX9_readPay_3 : decode cX9_readPay 3 = .ok (.getfield 12, 3) := by decide +kernel
theorem dX9_readPay_6 : decode cX9_readPay 6 = .ok (.getfield 203, 3) := by decide +kernel
theorem dX9_readPay_9 : decode cX9_readPay 9 = .ok (.getfield 207, 3) := by decide +kernel
theorem dX9_readPay_12 : decode cX9_readPay 12 = .ok (.iconst 1, 1) := by decide +kernel
theorem dX9_readPay_13 : decode cX9_readPay 13 = .ok (.isub, 1) := by decide +kernel
theorem dX9_readPay_14 : decode cX9_readPay 14 = .ok (.invokevirtual 141, 3) := by decide +kernel
theorem dX9_readPay_17 : decode cX9_readPay 17 = .ok (.istore_n 1, 1) := by decide +kernel
theorem dX9_readPay_18 : decode cX9_readPay 18 = .ok (.aload_n 0, 1) := by decide +kernel
theorem dX9_readPay_19 : decode cX9_readPay 19 = .ok (.iconst 1, 1) := by decide +kernel
theorem dX9_readPay_20 : decode cX9_readPay 20 = .ok (.sipush 9999, 3) := by decide +kernel
theorem dX9_readPay_23 : decode cX9_readPay 23 = .ok (.invokevirtual 141, 3) := by decide +kernel
theorem dX9_readPay_26 : decode cX9_readPay 26 = .ok (.istore_n 2, 1) := by decide +kernel
theorem dX9_readPay_27 : decode cX9_readPay 27 = .ok (.aload_n 0, 1) := by decide +kernel
theorem dX9_readPay_28 : decode cX9_readPay 28 = .ok (.invokevirtual 144, 3) := by decide +kernel
theorem dX9_readPay_31 : decode cX9_readPay 31 = .ok (.ifCond .eq 40, 3) := by decide +kernel
theorem dX9_readPay_34 : decode cX9_readPay 34 = .ok (.aload_n 0, 1) := by decide +kernel
theorem dX9_readPay_35 : decode cX9_readPay 35 = .ok (.aload_n 0, 1) := by decide +kernel
theorem dX9_readPay_36 : decode cX9_readPay 36 = .ok (.getfield 12, 3) := by decide +kernel
theorem dX9_readPay_39 : decode cX9_readPay 39 = .ok (.getfield 203, 3) := by decide +kernel
theorem dX9_readPay_42 : decode cX9_readPay 42 = .ok (.getfield 210, 3) := by decide +kernel
theorem dX9_readPay_45 : decode cX9_readPay 45 = .ok (.iload_n 1, 1) := by decide +kernel
theorem dX9_readPay_46 : decode cX9_readPay 46 = .ok (.iaload, 1) := by decide +kernel
theorem dX9_readPay_47 : decode cX9_readPay 47 = .ok (.iload_n 2, 1) := by decide +kernel
theorem dX9_readPay_48 : decode cX9_readPay 48 = .ok (.if_icmp .lt 7, 3) := by decide +kernel
theorem dX9_readPay_51 : decode cX9_readPay 51 = .ok (.iconst 1, 1) := by decide +kernel
theorem dX9_readPay_52 : decode cX9_readPay 52 = .ok (.goto 4, 3) := by decide +kernel
theorem dX9_readPay_55 : decode cX9_readPay 55 = .ok (.iconst 0, 1) := by decide +kernel
theorem dX9_readPay_56 : decode cX9_readPay 56 = .ok (.invokevirtual 154, 3) := by decide +kernel
theorem dX9_readPay_59 : decode cX9_readPay 59 = .ok (.ifCond .eq 12, 3) := by decide +kernel
theorem dX9_readPay_62 : decode cX9_readPay 62 = .ok (.aload_n 0, 1) := by decide +kernel
theorem dX9_readPay_63 : decode cX9_readPay 63 = .ok (.getfield 12, 3) := by decide +kernel
theorem dX9_readPay_66 : decode cX9_readPay 66 = .ok (.iload_n 1, 1) := by decide +kernel
theorem dX9_readPay_67 : decode cX9_readPay 67 = .ok (.iload_n 2, 1) := by decide +kernel
theorem dX9_readPay_68 : decode cX9_readPay 68 = .ok (.invokevirtual 214, 3) := by decide +kernel
theorem dX9_readPay_71 : decode cX9_readPay 71 = .ok (.return_, 1) := by decide +kernel
theorem dX9_readLost_0 : decode cX9_readLost 0 = .ok (.aload_n 0, 1) := by decide +kernel
theorem dX9_readLost_1 : decode cX9_readLost 1 = .ok (.iconst 0, 1) := by decide +kernel
theorem dX9_readLost_2 : decode cX9_readLost 2 = .ok (.aload_n 0, 1) := by decide +kernel
theorem dX9_readLost_3 : decode cX9_readLost 3 = .ok (.getfield 12, 3) := by decide +kernel
theorem dX9_readLost_6 : decode cX9_readLost 6 = .ok (.getfield 203, 3) := by decide +kernel
theorem dX9_readLost_9 : decode cX9_readLost 9 = .ok (.getfield 207, 3) := by decide +kernel
theorem dX9_readLost_12 : decode cX9_readLost 12 = .ok (.iconst 1, 1) := by decide +kernel
theorem dX9_readLost_13 : decode cX9_readLost 13 = .ok (.isub, 1) := by decide +kernel
theorem dX9_readLost_14 : decode cX9_readLost 14 = .ok (.invokevirtual 141, 3) := by decide +kernel
theorem dX9_readLost_17 : decode cX9_readLost 17 = .ok (.istore_n 1, 1) := by decide +kernel
theorem dX9_readLost_18 : decode cX9_readLost 18 = .ok (.aload_n 0, 1) := by decide +kernel
theorem dX9_readLost_19 : decode cX9_readLost 19 = .ok (.invokevirtual 144, 3) := by decide +kernel
theorem dX9_readLost_22 : decode cX9_readLost 22 = .ok (.ifCond .eq 30, 3) := by decide +kernel
theorem dX9_readLost_25 : decode cX9_readLost 25 = .ok (.aload_n 0, 1) := by decide +kernel
theorem dX9_readLost_26 : decode cX9_readLost 26 = .ok (.aload_n 0, 1) := by decide +kernel
theorem dX9_readLost_27 : decode cX9_readLost 27 = .ok (.getfield 12, 3) := by decide +kernel
theorem dX9_readLost_30 : decode cX9_readLost 30 = .ok (.getfield 203, 3) := by decide +kernel
theorem dX9_readLost_33 : decode cX9_readLost 33 = .ok (.iload_n 1, 1) := by decide +kernel
theorem dX9_readLost_34 : decode cX9_readLost 34 = .ok (.invokevirtual 218, 3) := by decide +kernel
theorem dX9_readLost_37 : decode cX9_readLost 37 = .ok (.invokevirtual 154, 3) := by decide +kernel
theorem dX9_readLost_40 : decode cX9_readLost 40 = .ok (.ifCond .eq 12, 3) := by decide +kernel
theorem dX9_readLost_43 : decode cX9_readLost 43 = .ok (.aload_n 0, 1) := by decide +kernel
theorem dX9_readLost_44 : decode cX9_readLost 44 = .ok (.getfield 12, 3) := by decide +kernel
theorem dX9_readLost_47 : decode cX9_readLost 47 = .ok (.iload_n 1, 1) := by decide +kernel
theorem dX9_readLost_48 : decode cX9_readLost 48 = .ok (.invokevirtual 222, 3) := by decide +kernel
theorem dX9_readLost_51 : decode cX9_readLost 51 = .ok (.pop, 1) := by decide +kernel
theorem dX9_readLost_52 : decode cX9_readLost 52 = .ok (.return_, 1) := by decide +kernel
theorem dX9_readReplace_0 : decode cX9_readReplace 0 = .ok (.aload_n 0, 1) := by decide +kernel
theorem dX9_readReplace_1 : decode cX9_readReplace 1 = .ok (.iconst 0, 1) := by decide +kernel
theorem dX9_readReplace_2 : decode cX9_readReplace 2 = .ok (.aload_n 0, 1) := by decide +kernel
theorem dX9_readReplace_3 : decode cX9_readReplace 3 = .ok (.getfield 12, 3) := by decide +kernel
theorem dX9_readReplace_6 : decode cX9_readReplace 6 = .ok (.getfield 203, 3) := by decide +kernel
theorem dX9_readReplace_9 : decode cX9_readReplace 9 = .ok (.getfield 207, 3) := by decide +kernel
theorem dX9_readReplace_12 : decode cX9_readReplace 12 = .ok (.iconst 1, 1) := by decide +kernel
theorem dX9_readReplace_13 : decode cX9_readReplace 13 = .ok (.isub, 1) := by decide +kernel
theorem dX9_readReplace_14 : decode cX9_readReplace 14 = .ok (.invokevirtual 141, 3) := by decide +kernel
theorem dX9_readReplace_17 : decode cX9_readReplace 17 = .ok (.istore_n 1, 1) := by decide +kernel
theorem dX9_readReplace_18 : decode cX9_readReplace 18 = .ok (.aload_n 0, 1) := by decide +kernel
theorem dX9_readReplace_19 : decode cX9_readReplace 19 = .ok (.invokevirtual 144, 3) := by decide +kernel
theorem dX9_readReplace_22 : decode cX9_readReplace 22 = .ok (.ifCond .eq 27, 3) := by decide +kernel
theorem dX9_readReplace_25 : decode cX9_readReplace 25 = .ok (.aload_n 0, 1) := by decide +kernel
theorem dX9_readReplace_26 : decode cX9_readReplace 26 = .ok (.aload_n 0, 1) := by decide +kernel
theorem dX9_readReplace_27 : decode cX9_readReplace 27 = .ok (.getfield 12, 3) := by decide +kernel
theorem dX9_readReplace_30 : decode cX9_readReplace 30 = .ok (.iload_n 1, 1) := by decide +kernel
theorem dX9_readReplace_31 : decode cX9_readReplace 31 = .ok (.invokevirtual 226, 3) := by decide +kernel
theorem dX9_readReplace_34 : decode cX9_readReplace 34 = .ok (.invokevirtual 154, 3) := by decide +kernel
theorem dX9_readReplace_37 : decode cX9_readReplace 37 = .ok (.ifCond .eq 12, 3) := by decide +kernel
theorem dX9_readReplace_40 : decode cX9_readReplace 40 = .ok (.aload_n 0, 1) := by decide +kernel
theorem dX9_readReplace_41 : decode cX9_readReplace 41 = .ok (.getfield 12, 3) := by decide +kernel
theorem dX9_readReplace_44 : decode cX9_readReplace 44 = .ok (.iload_n 1, 1) := by decide +kernel
theorem dX9_readReplace_45 : decode cX9_readReplace 45 = .ok (.invokevirtual 229, 3) := by decide +kernel
theorem dX9_readReplace_48 : decode cX9_readReplace 48 = .ok (.pop, 1) := by decide +kernel
theorem dX9_readReplace_49 : decode cX9_readReplace 49 = .ok (.return_, 1) := by decide +kernel
theorem dX9_readPeacocks_0 : decode cX9_readPeacocks 0 = .ok (.aload_n 0, 1) := by decide +kernel
theorem dX9_readPeacocks_1 : decode cX9_readPeacocks 1 = .ok (.iconst 0, 1) := by decide +kernel
theorem dX9_readPeacocks_2 : decode cX9_readPeacocks 2 = .ok (.bipush 95, 2) := by decide +kernel
theorem dX9_readPeacocks_4 : decode cX9_readPeacocks 4 = .ok (.invokevirtual 141, 3) := by decide +kernel
theorem dX9_readPeacocks_7 : decode cX9_readPeacocks 7 = .ok (.istore_n 1, 1) := by decide +kernel
theorem dX9_readPeacocks_8 : decode cX9_readPeacocks 8 = .ok (.aload_n 0, 1) := by decide +kernel
theorem dX9_readPeacocks_9 : decode cX9_readPeacocks 9 = .ok (.iload_n 1, 1) := by decide +kernel
theorem dX9_readPeacocks_10 : decode cX9_readPeacocks 10 = .ok (.bipush 95, 2) := by decide +kernel
theorem dX9_readPeacocks_12 : decode cX9_readPeacocks 12 = .ok (.invokevirtual 141, 3) := by decide +kernel
theorem dX9_readPeacocks_15 : decode cX9_readPeacocks 15 = .ok (.istore_n 2, 1) := by decide +kernel
theorem dX9_readPeacocks_16 : decode cX9_readPeacocks 16 = .ok (.aload_n 0, 1) := by decide +kernel
theorem dX9_readPeacocks_17 : decode cX9_readPeacocks 17 = .ok (.invokevirtual 144, 3) := by decide +kernel
theorem dX9_readPeacocks_20 : decode cX9_readPeacocks 20 = .ok (.ifCond .eq 15, 3) := by decide +kernel
theorem dX9_readPeacocks_23 : decode cX9_readPeacocks 23 = .ok (.aload_n 0, 1) := by decide +kernel
theorem dX9_readPeacocks_24 : decode cX9_readPeacocks 24 = .ok (.getfield 12, 3) := by decide +kernel
theorem dX9_readPeacocks_27 : decode cX9_readPeacocks 27 = .ok (.getfield 165, 3) := by decide +kernel
theorem dX9_readPeacocks_30 : decode cX9_readPeacocks 30 = .ok (.iload_n 1, 1) := by decide +kernel
theorem dX9_readPeacocks_31 : decode cX9_readPeacocks 31 = .ok (.iload_n 2, 1) := by decide +kernel
theorem dX9_readPeacocks_32 : decode cX9_readPeacocks 32 = .ok (.invokevirtual 232, 3) := by decide +kernel
theorem dX9_readPeacocks_35 : decode cX9_readPeacocks 35 = .ok (.return_, 1) := by decide +kernel
theorem dX9_readPass_0 : decode cX9_readPass 0 = .ok (.aload_n 0, 1) := by decide +kernel
theorem dX9_readPass_1 : decode cX9_readPass 1 = .ok (.iconst 1, 1) := by decide +kernel
theorem dX9_readPass_2 : decode cX9_readPass 2 = .ok (.sipush 500, 3) := by decide +kernel
theorem dX9_readPass_5 : decode cX9_readPass 5 = .ok (.invokevirtual 141, 3) := by decide +kernel
theorem dX9_readPass_8 : decode cX9_readPass 8 = .ok (.istore_n 1, 1) := by decide +kernel
theorem dX9_readPass_9 : decode cX9_readPass 9 = .ok (.aload_n 0, 1) := by decide +kernel
theorem dX9_readPass_10 : decode cX9_readPass 10 = .ok (.invokevirtual 144, 3) := by decide +kernel
theorem dX9_readPass_13 : decode cX9_readPass 13 = .ok (.ifCond .eq 29, 3) := by decide +kernel
theorem dX9_readPass_16 : decode cX9_readPass 16 = .ok (.aload_n 0, 1) := by decide +kernel
theorem dX9_readPass_17 : decode cX9_readPass 17 = .ok (.aload_n 0, 1) := by decide +kernel
theorem dX9_readPass_18 : decode cX9_readPass 18 = .ok (.getfield 12, 3) := by decide +kernel
theorem dX9_readPass_21 : decode cX9_readPass 21 = .ok (.getfield 165, 3) := by decide +kernel
theorem dX9_readPass_24 : decode cX9_readPass 24 = .ok (.iload_n 1, 1) := by decide +kernel
theorem dX9_readPass_25 : decode cX9_readPass 25 = .ok (.invokevirtual 235, 3) := by decide +kernel
theorem dX9_readPass_28 : decode cX9_readPass 28 = .ok (.invokevirtual 154, 3) := by decide +kernel
theorem dX9_readPass_31 : decode cX9_readPass 31 = .ok (.ifCond .eq 11, 3) := by decide +kernel
theorem dX9_readPass_34 : decode cX9_readPass 34 = .ok (.aload_n 0, 1) := by decide +kernel
theorem dX9_readPass_35 : decode cX9_readPass 35 = .ok (.getfield 12, 3) := by decide +kernel
theorem dX9_readPass_38 : decode cX9_readPass 38 = .ok (.iload_n 1, 1) := by decide +kernel
theorem dX9_readPass_39 : decode cX9_readPass 39 = .ok (.invokevirtual 238, 3) := by decide +kernel
theorem dX9_readPass_42 : decode cX9_readPass 42 = .ok (.return_, 1) := by decide +kernel
theorem dX9_readRefund_0 : decode cX9_readRefund 0 = .ok (.aload_n 0, 1) := by decide +kernel
theorem dX9_readRefund_1 : decode cX9_readRefund 1 = .ok (.iconst 0, 1) := by decide +kernel
theorem dX9_readRefund_2 : decode cX9_readRefund 2 = .ok (.aload_n 0, 1) := by decide +kernel
theorem dX9_readRefund_3 : decode cX9_readRefund 3 = .ok (.getfield 12, 3) := by decide +kernel
theorem dX9_readRefund_6 : decode cX9_readRefund 6 = .ok (.getfield 203, 3) := by decide +kernel
theorem dX9_readRefund_9 : decode cX9_readRefund 9 = .ok (.getfield 207, 3) := by decide +kernel
theorem dX9_readRefund_12 : decode cX9_readRefund 12 = .ok (.iconst 1, 1) := by decide +kernel
theorem dX9_readRefund_13 : decode cX9_readRefund 13 = .ok (.isub, 1) := by decide +kernel
theorem dX9_readRefund_14 : decode cX9_readRefund 14 = .ok (.invokevirtual 141, 3) := by decide +kernel
theorem dX9_readRefund_17 : decode cX9_readRefund 17 = .ok (.istore_n 1, 1) := by decide +kernel
theorem dX9_readRefund_18 : decode cX9_readRefund 18 = .ok (.aload_n 0, 1) := by decide +kernel
theorem dX9_readRefund_19 : decode cX9_readRefund 19 = .ok (.invokevirtual 144, 3) := by decide +kernel
theorem dX9_readRefund_22 : decode cX9_readRefund 22 = .ok (.ifCond .eq 39, 3) := by decide +kernel
theorem dX9_readRefund_25 : decode cX9_readRefund 25 = .ok (.aload_n 0, 1) := by decide +kernel
theorem dX9_readRefund_26 : decode cX9_readRefund 26 = .ok (.aload_n 0, 1) := by decide +kernel
theorem dX9_readRefund_27 : decode cX9_readRefund 27 = .ok (.getfield 12, 3) := by decide +kernel
theorem dX9_readRefund_30 : decode cX9_readRefund 30 = .ok (.getfield 203, 3) := by decide +kernel
theorem dX9_readRefund_33 : decode cX9_readRefund 33 = .ok (.getfield 241, 3) := by decide +kernel
theorem dX9_readRefund_36 : decode cX9_readRefund 36 = .ok (.iload_n 1, 1) := by decide +kernel
theorem dX9_readRefund_37 : decode cX9_readRefund 37 = .ok (.baload, 1) := by decide +kernel
theorem dX9_readRefund_38 : decode cX9_readRefund 38 = .ok (.ifCond .ne 7, 3) := by decide +kernel
theorem dX9_readRefund_41 : decode cX9_readRefund 41 = .ok (.iconst 1, 1) := by decide +kernel
theorem dX9_readRefund_42 : decode cX9_readRefund 42 = .ok (.goto 4, 3) := by decide +kernel
theorem dX9_readRefund_45 : decode cX9_readRefund 45 = .ok (.iconst 0, 1) := by decide +kernel
theorem dX9_readRefund_46 : decode cX9_readRefund 46 = .ok (.invokevirtual 154, 3) := by decide +kernel
theorem dX9_readRefund_49 : decode cX9_readRefund 49 = .ok (.ifCond .eq 12, 3) := by decide +kernel
theorem dX9_readRefund_52 : decode cX9_readRefund 52 = .ok (.aload_n 0, 1) := by decide +kernel
theorem dX9_readRefund_53 : decode cX9_readRefund 53 = .ok (.getfield 12, 3) := by decide +kernel
theorem dX9_readRefund_56 : decode cX9_readRefund 56 = .ok (.iload_n 1, 1) := by decide +kernel
theorem dX9_readRefund_57 : decode cX9_readRefund 57 = .ok (.invokevirtual 245, 3) := by decide +kernel
theorem dX9_readRefund_60 : decode cX9_readRefund 60 = .ok (.pop, 1) := by decide +kernel
theorem dX9_readRefund_61 : decode cX9_readRefund 61 = .ok (.return_, 1) := by decide +kernel
theorem dX9_nextKind_0 : decode cX9_nextKind 0 = .ok (.aload_n 0, 1) := by decide +kernel
theorem dX9_nextKind_1 : decode cX9_nextKind 1 = .ok (.getfield 25, 3) := by decide +kernel
theorem dX9_nextKind_4 : decode cX9_nextKind 4 = .ok (.ifCond .ne 39, 3) := by decide +kernel
theorem dX9_nextKind_7 : decode cX9_nextKind 7 = .ok (.aload_n 0, 1) := by decide +kernel
theorem dX9_nextKind_8 : decode cX9_nextKind 8 = .ok (.getfield 21, 3) := by decide +kernel
theorem dX9_nextKind_11 : decode cX9_nextKind 11 = .ok (.invokevirtual 63, 3) := by decide +kernel
theorem dX9_nextKind_14 : decode cX9_nextKind 14 = .ok (.aload_n 0, 1) := by decide +kernel
theorem dX9_nextKind_15 : decode cX9_nextKind 15 = .ok (.getfield 21, 3) := by decide +kernel
theorem dX9_nextKind_18 : decode cX9_nextKind 18 = .ok (.ldc 248, 2) := by decide +kernel
theorem dX9_nextKind_20 : decode cX9_nextKind 20 = .ok (.invokevirtual 55, 3) := by decide +kernel
theorem dX9_nextKind_23 : decode cX9_nextKind 23 = .ok (.ifCond .ne 20, 3) := by decide +kernel
theorem dX9_nextKind_26 : decode cX9_nextKind 26 = .ok (.aload_n 0, 1) := by decide +kernel
theorem dX9_nextKind_27 : decode cX9_nextKind 27 = .ok (.getfield 21, 3) := by decide +kernel
theorem dX9_nextKind_30 : decode cX9_nextKind 30 = .ok (.ldc 250, 2) := by decide +kernel
theorem dX9_nextKind_32 : decode cX9_nextKind 32 = .ok (.invokevirtual 55, 3) := by decide +kernel
theorem dX9_nextKind_35 : decode cX9_nextKind 35 = .ok (.ifCond .ne 8, 3) := by decide +kernel
theorem dX9_nextKind_38 : decode cX9_nextKind 38 = .ok (.aload_n 0, 1) := by decide +kernel
theorem dX9_nextKind_39 : decode cX9_nextKind 39 = .ok (.iconst 1, 1) := by decide +kernel
theorem dX9_nextKind_40 : decode cX9_nextKind 40 = .ok (.invokevirtual 59, 3) := by decide +kernel
theorem dX9_nextKind_43 : decode cX9_nextKind 43 = .ok (.aload_n 0, 1) := by decide +kernel
theorem dX9_nextKind_44 : decode cX9_nextKind 44 = .ok (.getfield 21, 3) := by decide +kernel
theorem dX9_nextKind_47 : decode cX9_nextKind 47 = .ok (.ldc 250, 2) := by decide +kernel
theorem dX9_nextKind_49 : decode cX9_nextKind 49 = .ok (.invokevirtual 55, 3) := by decide +kernel
theorem dX9_nextKind_52 : decode cX9_nextKind 52 = .ok (.ifCond .eq 7, 3) := by decide +kernel
theorem dX9_nextKind_55 : decode cX9_nextKind 55 = .ok (.iconst 1, 1) := by decide +kernel
theorem dX9_nextKind_56 : decode cX9_nextKind 56 = .ok (.goto 4, 3) := by decide +kernel
theorem dX9_nextKind_59 : decode cX9_nextKind 59 = .ok (.iconst 0, 1) := by decide +kernel
theorem dX9_nextKind_60 : decode cX9_nextKind 60 = .ok (.ireturn, 1) := by decide +kernel
theorem dX9_nextNumber_0 : decode cX9_nextNumber 0 = .ok (.aload_n 0, 1) := by decide +kernel
theorem dX9_nextNumber_1 : decode cX9_nextNumber 1 = .ok (.getfield 25, 3) := by decide +kernel
theorem dX9_nextNumber_4 : decode cX9_nextNumber 4 = .ok (.ifCond .ne 10, 3) := by decide +kernel
theorem dX9_nextNumber_7 : decode cX9_nextNumber 7 = .ok (.aload_n 0, 1) := by decide +kernel
theorem dX9_nextNumber_8 : decode cX9_nextNumber 8 = .ok (.getfield 21, 3) := by decide +kernel
theorem dX9_nextNumber_11 : decode cX9_nextNumber 11 = .ok (.invokevirtual 63, 3) := by decide +kernel
theorem dX9_nextNumber_14 : decode cX9_nextNumber 14 = .ok (.aload_n 0, 1) := by decide +kernel
theorem dX9_nextNumber_15 : decode cX9_nextNumber 15 = .ok (.iload_n 1, 1) := by decide +kernel
theorem dX9_nextNumber_16 : decode cX9_nextNumber 16 = .ok (.iload_n 2, 1) := by decide +kernel
theorem dX9_nextNumber_17 : decode cX9_nextNumber 17 = .ok (.invokevirtual 72, 3) := by decide +kernel
theorem dX9_nextNumber_20 : decode cX9_nextNumber 20 = .ok (.ireturn, 1) := by decide +kernel
theorem dX9_numberHere_0 : decode cX9_numberHere 0 = .ok (.aload_n 0, 1) := by decide +kernel
theorem dX9_numberHere_1 : decode cX9_numberHere 1 = .ok (.getfield 21, 3) := by decide +kernel
theorem dX9_numberHere_4 : decode cX9_numberHere 4 = .ok (.getfield 48, 3) := by decide +kernel
theorem dX9_numberHere_7 : decode cX9_numberHere 7 = .ok (.iconst 1, 1) := by decide +kernel
theorem dX9_numberHere_8 : decode cX9_numberHere 8 = .ok (.if_icmp .eq 10, 3) := by decide +kernel
theorem dX9_numberHere_11 : decode cX9_numberHere 11 = .ok (.aload_n 0, 1) := by decide +kernel
theorem dX9_numberHere_12 : decode cX9_numberHere 12 = .ok (.iconst 1, 1) := by decide +kernel
theorem dX9_numberHere_13 : decode cX9_numberHere 13 = .ok (.invokevirtual 59, 3) := by decide +kernel
theorem dX9_numberHere_16 : decode cX9_numberHere 16 = .ok (.iload_n 1, 1) := by decide +kernel
theorem dX9_numberHere_17 : decode cX9_numberHere 17 = .ok (.ireturn, 1) := by decide +kernel
theorem dX9_numberHere_18 : decode cX9_numberHere 18 = .ok (.aload_n 0, 1) := by decide +kernel
theorem dX9_numberHere_19 : decode cX9_numberHere 19 = .ok (.getfield 21, 3) := by decide +kernel
theorem dX9_numberHere_22 : decode cX9_numberHere 22 = .ok (.invokevirtual 252, 3) := by decide +kernel
theorem dX9_numberHere_25 : decode cX9_numberHere 25 = .ok (.istore_n 3, 1) := by decide +kernel
theorem dX9_numberHere_26 : decode cX9_numberHere 26 = .ok (.iload_n 3, 1) := by decide +kernel
theorem dX9_numberHere_27 : decode cX9_numberHere 27 = .ok (.iload_n 1, 1) := by decide +kernel
theorem dX9_numberHere_28 : decode cX9_numberHere 28 = .ok (.if_icmp .lt 8, 3) := by decide +kernel
theorem dX9_numberHere_31 : decode cX9_numberHere 31 = .ok (.iload_n 3, 1) := by decide +kernel
theorem dX9_numberHere_32 : decode cX9_numberHere 32 = .ok (.iload_n 2, 1) := by decide +kernel
theorem dX9_numberHere_33 : decode cX9_numberHere 33 = .ok (.if_icmp .le 8, 3) := by decide +kernel
theorem dX9_numberHere_36 : decode cX9_numberHere 36 = .ok (.aload_n 0, 1) := by decide +kernel
theorem dX9_numberHere_37 : decode cX9_numberHere 37 = .ok (.iconst 2, 1) := by decide +kernel
theorem dX9_numberHere_38 : decode cX9_numberHere 38 = .ok (.invokevirtual 59, 3) := by decide +kernel
theorem dX9_numberHere_41 : decode cX9_numberHere 41 = .ok (.iload_n 3, 1) := by decide +kernel
theorem dX9_numberHere_42 : decode cX9_numberHere 42 = .ok (.ireturn, 1) := by decide +kernel
theorem dX9_isAtSemicolon_0 : decode cX9_isAtSemicolon 0 = .ok (.aload_n 0, 1) := by decide +kernel
theorem dX9_isAtSemicolon_1 : decode cX9_isAtSemicolon 1 = .ok (.getfield 21, 3) := by decide +kernel
theorem dX9_isAtSemicolon_4 : decode cX9_isAtSemicolon 4 = .ok (.getfield 48, 3) := by decide +kernel
theorem dX9_isAtSemicolon_7 : decode cX9_isAtSemicolon 7 = .ok (.iconst 2, 1) := by decide +kernel
theorem dX9_isAtSemicolon_8 : decode cX9_isAtSemicolon 8 = .ok (.if_icmp .eq 8, 3) := by decide +kernel
theorem dX9_isAtSemicolon_11 : decode cX9_isAtSemicolon 11 = .ok (.aload_n 0, 1) := by decide +kernel
theorem dX9_isAtSemicolon_12 : decode cX9_isAtSemicolon 12 = .ok (.iconst 1, 1) := by decide +kernel
theorem dX9_isAtSemicolon_13 : decode cX9_isAtSemicolon 13 = .ok (.invokevirtual 59, 3) := by decide +kernel
theorem dX9_isAtSemicolon_16 : decode cX9_isAtSemicolon 16 = .ok (.aload_n 0, 1) := by decide +kernel
theorem dX9_isAtSemicolon_17 : decode cX9_isAtSemicolon 17 = .ok (.getfield 25, 3) := by decide +kernel
theorem dX9_isAtSemicolon_20 : decode cX9_isAtSemicolon 20 = .ok (.ifCond .ne 7, 3) := by decide +kernel
theorem dX9_isAtSemicolon_23 : decode cX9_isAtSemicolon 23 = .ok (.iconst 1, 1) := by decide +kernel
theorem dX9_isAtSemicolon_24 : decode cX9_isAtSemicolon 24 = .ok (.goto 4, 3) := by decide +kernel
theorem dX9_isAtSemicolon_27 : decode cX9_isAtSemicolon 27 = .ok (.iconst 0, 1) := by decide +kernel
theorem dX9_isAtSemicolon_28 : decode cX9_isAtSemicolon 28 = .ok (.ireturn, 1) := by decide +kernel
theorem dX9_isComplete_0 : decode cX9_isComplete 0 = .ok (.aload_n 0, 1) := by decide +kernel
theorem dX9_isComplete_1 : decode cX9_isComplete 1 = .ok (.getfield 25, 3) := by decide +kernel
theorem dX9_isComplete_4 : decode cX9_isComplete 4 = .ok (.ifCond .ne 10, 3) := by decide +kernel
theorem dX9_isComplete_7 : decode cX9_isComplete 7 = .ok (.aload_n 0, 1) := by decide +kernel
theorem dX9_isComplete_8 : decode cX9_isComplete 8 = .ok (.getfield 21, 3) := by decide +kernel
theorem dX9_isComplete_11 : decode cX9_isComplete 11 = .ok (.invokevirtual 63, 3) := by decide +kernel
theorem dX9_isComplete_14 : decode cX9_isComplete 14 = .ok (.aload_n 0, 1) := by decide +kernel
theorem dX9_isComplete_15 : decode cX9_isComplete 15 = .ok (.invokevirtual 69, 3) := by decide +kernel
theorem dX9_isComplete_18 : decode cX9_isComplete 18 = .ok (.ireturn, 1) := by decide +kernel
theorem dX9_executes_0 : decode cX9_executes 0 = .ok (.iload_n 1, 1) := by decide +kernel
theorem dX9_executes_1 : decode cX9_executes 1 = .ok (.ifCond .ne 8, 3) := by decide +kernel
theorem dX9_executes_4 : decode cX9_executes 4 = .ok (.aload_n 0, 1) := by decide +kernel
theorem dX9_executes_5 : decode cX9_executes 5 = .ok (.iconst 4, 1) := by decide +kernel
theorem dX9_executes_6 : decode cX9_executes 6 = .ok (.invokevirtual 59, 3) := by decide +kernel
theorem dX9_executes_9 : decode cX9_executes 9 = .ok (.iload_n 1, 1) := by decide +kernel
theorem dX9_executes_10 : decode cX9_executes 10 = .ok (.ireturn, 1) := by decide +kernel
theorem dX10_init_0 : decode cX10_init 0 = .ok (.aload_n 0, 1) := by decide +kernel
theorem dX10_init_1 : decode cX10_init 1 = .ok (.invokespecial 3, 3) := by decide +kernel
theorem dX10_init_4 : decode cX10_init 4 = .ok (.aload_n 0, 1) := by decide +kernel
theorem dX10_init_5 : decode cX10_init 5 = .ok (.iconst 5, 1) := by decide +kernel
theorem dX10_init_6 : decode cX10_init 6 = .ok (.newarray .int, 2) := by decide +kernel
theorem dX10_init_8 : decode cX10_init 8 = .ok (.putfield 9, 3) := by decide +kernel
theorem dX10_init_11 : decode cX10_init 11 = .ok (.return_, 1) := by decide +kernel
theorem dX10_reset_0 : decode cX10_reset 0 = .ok (.aload_n 0, 1) := by decide +kernel
theorem dX10_reset_1 : decode cX10_reset 1 = .ok (.iconst 0, 1) := by decide +kernel
theorem dX10_reset_2 : decode cX10_reset 2 = .ok (.putfield 15, 3) := by decide +kernel
theorem dX10_reset_5 : decode cX10_reset 5 = .ok (.aload_n 0, 1) := by decide +kernel
theorem dX10_reset_6 : decode cX10_reset 6 = .ok (.iconst 2, 1) := by decide +kernel
theorem dX10_reset_7 : decode cX10_reset 7 = .ok (.putfield 19, 3) := by decide +kernel
theorem dX10_reset_10 : decode cX10_reset 10 = .ok (.return_, 1) := by decide +kernel
theorem dX10_copyFrom_0 : decode cX10_copyFrom 0 = .ok (.aload_n 0, 1) := by decide +kernel
theorem dX10_copyFrom_1 : decode cX10_copyFrom 1 = .ok (.aload_n 1, 1) := by decide +kernel
theorem dX10_copyFrom_2 : decode cX10_copyFrom 2 = .ok (.getfield 15, 3) := by decide +kernel
theorem dX10_copyFrom_5 : decode cX10_copyFrom 5 = .ok (.putfield 15, 3) := by decide +kernel
theorem dX10_copyFrom_8 : decode cX10_copyFrom 8 = .ok (.aload_n 0, 1) := by decide +kernel
theorem dX10_copyFrom_9 : decode cX10_copyFrom 9 = .ok (.aload_n 1, 1) := by decide +kernel
theorem dX10_copyFrom_10 : decode cX10_copyFrom 10 = .ok (.getfield 19, 3) := by decide +kernel
theorem dX10_copyFrom_13 : decode cX10_copyFrom 13 = .ok (.putfield 19, 3) := by decide +kernel
theorem dX10_copyFrom_16 : decode cX10_copyFrom 16 = .ok (.aload_n 1, 1) := by decide +kernel
theorem dX10_copyFrom_17 : decode cX10_copyFrom 17 = .ok (.getfield 9, 3) := by decide +kernel
theorem dX10_copyFrom_20 : decode cX10_copyFrom 20 = .ok (.iconst 0, 1) := by decide +kernel
theorem dX10_copyFrom_21 : decode cX10_copyFrom 21 = .ok (.aload_n 0, 1) := by decide +kernel
theorem dX10_copyFrom_22 : decode cX10_copyFrom 22 = .ok (.getfield 9, 3) := by decide +kernel
theorem dX10_copyFrom_25 : decode cX10_copyFrom 25 = .ok (.iconst 0, 1) := by decide +kernel
theorem dX10_copyFrom_26 : decode cX10_copyFrom 26 = .ok (.aload_n 0, 1) := by decide +kernel
theorem dX10_copyFrom_27 : decode cX10_copyFrom 27 = .ok (.getfield 15, 3) := by decide +kernel
theorem dX10_copyFrom_30 : decode cX10_copyFrom 30 = .ok (.invokestatic 22, 3) := by decide +kernel
theorem dX10_copyFrom_33 : decode cX10_copyFrom 33 = .ok (.return_, 1) := by decide +kernel
theorem dX10_has_0 : decode cX10_has 0 = .ok (.iload_n 1, 1) := by decide +kernel
theorem dX10_has_1 : decode cX10_has 1 = .ok (.ifCond .lt 15, 3) := by decide +kernel
theorem dX10_has_4 : decode cX10_has 4 = .ok (.iload_n 1, 1) := by decide +kernel
theorem dX10_has_5 : decode cX10_has 5 = .ok (.aload_n 0, 1) := by decide +kernel
theorem dX10_has_6 : decode cX10_has 6 = .ok (.getfield 15, 3) := by decide +kernel
theorem dX10_has_9 : decode cX10_has 9 = .ok (.if_icmp .ge 7, 3) := by decide +kernel
theorem dX10_has_12 : decode cX10_has 12 = .ok (.iconst 1, 1) := by decide +kernel
theorem dX10_has_13 : decode cX10_has 13 = .ok (.goto 4, 3) := by decide +kernel
theorem dX10_has_16 : decode cX10_has 16 = .ok (.iconst 0, 1) := by decide +kernel
theorem dX10_has_17 : decode cX10_has 17 = .ok (.ireturn, 1) := by decide +kernel
theorem dX10_hasRoom_0 : decode cX10_hasRoom 0 = .ok (.aload_n 0, 1) := by decide +kernel
theorem dX10_hasRoom_1 : decode cX10_hasRoom 1 = .ok (.getfield 15, 3) := by decide +kernel
theorem dX10_hasRoom_4 : decode cX10_hasRoom 4 = .ok (.iconst 5, 1) := by decide +kernel
theorem dX10_hasRoom_5 : decode cX10_hasRoom 5 = .ok (.if_icmp .ge 7, 3) := by decide +kernel
theorem dX10_hasRoom_8 : decode cX10_hasRoom 8 = .ok (.iconst 1, 1) := by decide +kernel
theorem dX10_hasRoom_9 : decode cX10_hasRoom 9 = .ok (.goto 4, 3) := by decide +kernel
theorem dX10_hasRoom_12 : decode cX10_hasRoom 12 = .ok (.iconst 0, 1) := by decide +kernel
theorem dX10_hasRoom_13 : decode cX10_hasRoom 13 = .ok (.ireturn, 1) := by decide +kernel
theorem dX10_add_0 : decode cX10_add 0 = .ok (.aload_n 0, 1) := by decide +kernel
theorem dX10_add_1 : decode cX10_add 1 = .ok (.getfield 9, 3) := by decide +kernel
theorem dX10_add_4 : decode cX10_add 4 = .ok (.aload_n 0, 1) := by decide +kernel
theorem dX10_add_5 : decode cX10_add 5 = .ok (.getfield 15, 3) := by decide +kernel
theorem dX10_add_8 : decode cX10_add 8 = .ok (.iload_n 1, 1) := by decide +kernel
theorem dX10_add_9 : decode cX10_add 9 = .ok (.iastore, 1) := by decide +kernel
theorem dX10_add_10 : decode cX10_add 10 = .ok (.aload_n 0, 1) := by decide +kernel
theorem dX10_add_11 : decode cX10_add 11 = .ok (.dup, 1) := by decide +kernel
theorem dX10_add_12 : decode cX10_add 12 = .ok (.getfield 15, 3) := by decide +kernel
theorem dX10_add_15 : decode cX10_add 15 = .ok (.iconst 1, 1) := by decide +kernel
theorem dX10_add_16 : decode cX10_add 16 = .ok (.iadd, 1) := by decide +kernel
theorem dX10_add_17 : decode cX10_add 17 = .ok (.putfield 15, 3) := by decide +kernel
theorem dX10_add_20 : decode cX10_add 20 = .ok (.return_, 1) := by decide +kernel
theorem dX10_setOfAllScents_0 : decode cX10_setOfAllScents 0 = .ok (.iconst 1, 1) := by decide +kernel
theorem dX10_setOfAllScents_1 : decode cX10_setOfAllScents 1 = .ok (.aload_n 0, 1) := by decide +kernel
theorem dX10_setOfAllScents_2 : decode cX10_setOfAllScents 2 = .ok (.getfield 15, 3) := by decide +kernel
theorem dX10_setOfAllScents_5 : decode cX10_setOfAllScents 5 = .ok (.ishl, 1) := by decide +kernel
theorem dX10_setOfAllScents_6 : decode cX10_setOfAllScents 6 = .ok (.iconst 1, 1) := by decide +kernel
theorem dX10_setOfAllScents_7 : decode cX10_setOfAllScents 7 = .ok (.isub, 1) := by decide +kernel
theorem dX10_setOfAllScents_8 : decode cX10_setOfAllScents 8 = .ok (.ireturn, 1) := by decide +kernel
theorem dX10_priceOfPass_0 : decode cX10_priceOfPass 0 = .ok (.iconst 0, 1) := by decide +kernel
theorem dX10_priceOfPass_1 : decode cX10_priceOfPass 1 = .ok (.istore 4, 2) := by decide +kernel
theorem dX10_priceOfPass_3 : decode cX10_priceOfPass 3 = .ok (.iconst 0, 1) := by decide +kernel
theorem dX10_priceOfPass_4 : decode cX10_priceOfPass 4 = .ok (.istore 5, 2) := by decide +kernel
theorem dX10_priceOfPass_6 : decode cX10_priceOfPass 6 = .ok (.iload 5, 2) := by decide +kernel
theorem dX10_priceOfPass_8 : decode cX10_priceOfPass 8 = .ok (.aload_n 0, 1) := by decide +kernel
theorem dX10_priceOfPass_9 : decode cX10_priceOfPass 9 = .ok (.getfield 15, 3) := by decide +kernel
theorem dX10_priceOfPass_12 : decode cX10_priceOfPass 12 = .ok (.if_icmp .ge 31, 3) := by decide +kernel
theorem dX10_priceOfPass_15 : decode cX10_priceOfPass 15 = .ok (.iload_n 1, 1) := by decide +kernel
theorem dX10_priceOfPass_16 : decode cX10_priceOfPass 16 = .ok (.iload 5, 2) := by decide +kernel
theorem dX10_priceOfPass_18 : decode cX10_priceOfPass 18 = .ok (.ishr, 1) := by decide +kernel
theorem dX10_priceOfPass_19 : decode cX10_priceOfPass 19 = .ok (.iconst 1, 1) := by decide +kernel
theorem dX10_priceOfPass_20 : decode cX10_priceOfPass 20 = .ok (.iand, 1) := by decide +kernel
theorem dX10_priceOfPass_21 : decode cX10_priceOfPass 21 = .ok (.iconst 1, 1) := by decide +kernel
theorem dX10_priceOfPass_22 : decode cX10_priceOfPass 22 = .ok (.if_icmp .ne 15, 3) := by decide +kernel
theorem dX10_priceOfPass_25 : decode cX10_priceOfPass 25 = .ok (.iload 4, 2) := by decide +kernel
theorem dX10_priceOfPass_27 : decode cX10_priceOfPass 27 = .ok (.aload_n 0, 1) := by decide +kernel
theorem dX10_priceOfPass_28 : decode cX10_priceOfPass 28 = .ok (.getfield 9, 3) := by decide +kernel
theorem dX10_priceOfPass_31 : decode cX10_priceOfPass 31 = .ok (.iload 5, 2) := by decide +kernel
theorem dX10_priceOfPass_33 : decode cX10_priceOfPass 33 = .ok (.iaload, 1) := by decide +kernel
theorem dX10_priceOfPass_34 : decode cX10_priceOfPass 34 = .ok (.iadd, 1) := by decide +kernel
theorem dX10_priceOfPass_35 : decode cX10_priceOfPass 35 = .ok (.istore 4, 2) := by decide +kernel
theorem dX10_priceOfPass_37 : decode cX10_priceOfPass 37 = .ok (.iinc 5 1, 3) := by decide +kernel
theorem dX10_priceOfPass_40 : decode cX10_priceOfPass 40 = .ok (.goto (-34), 3) := by decide +kernel
theorem dX10_priceOfPass_43 : decode cX10_priceOfPass 43 = .ok (.iload_n 3, 1) := by decide +kernel
theorem dX10_priceOfPass_44 : decode cX10_priceOfPass 44 = .ok (.iconst 1, 1) := by decide +kernel
theorem dX10_priceOfPass_45 : decode cX10_priceOfPass 45 = .ok (.if_icmp .ne 8, 3) := by decide +kernel
theorem dX10_priceOfPass_48 : decode cX10_priceOfPass 48 = .ok (.bipush 60, 2) := by decide +kernel
theorem dX10_priceOfPass_50 : decode cX10_priceOfPass 50 = .ok (.goto 5, 3) := by decide +kernel
theorem dX10_priceOfPass_53 : decode cX10_priceOfPass 53 = .ok (.bipush 100, 2) := by decide +kernel
theorem dX10_priceOfPass_55 : decode cX10_priceOfPass 55 = .ok (.istore 5, 2) := by decide +kernel
theorem dX10_priceOfPass_57 : decode cX10_priceOfPass 57 = .ok (.iload 4, 2) := by decide +kernel
theorem dX10_priceOfPass_59 : decode cX10_priceOfPass 59 = .ok (.iload_n 2, 1) := by decide +kernel
theorem dX10_priceOfPass_60 : decode cX10_priceOfPass 60 = .ok (.imul, 1) := by decide +kernel
theorem dX10_priceOfPass_61 : decode cX10_priceOfPass 61 = .ok (.iload 5, 2) := by decide +kernel
theorem dX10_priceOfPass_63 : decode cX10_priceOfPass 63 = .ok (.imul, 1) := by decide +kernel
theorem dX10_priceOfPass_64 : decode cX10_priceOfPass 64 = .ok (.iload_n 2, 1) := by decide +kernel
theorem dX10_priceOfPass_65 : decode cX10_priceOfPass 65 = .ok (.invokestatic 28, 3) := by decide +kernel
theorem dX10_priceOfPass_68 : decode cX10_priceOfPass 68 = .ok (.imul, 1) := by decide +kernel
theorem dX10_priceOfPass_69 : decode cX10_priceOfPass 69 = .ok (.sipush 10000, 3) := by decide +kernel
theorem dX10_priceOfPass_72 : decode cX10_priceOfPass 72 = .ok (.idiv, 1) := by decide +kernel
theorem dX10_priceOfPass_73 : decode cX10_priceOfPass 73 = .ok (.ireturn, 1) := by decide +kernel
theorem dX10_percentForDays_0 : decode cX10_percentForDays 0 = .ok (.iload_n 0, 1) := by decide +kernel
theorem dX10_percentForDays_1 : decode cX10_percentForDays 1 = .ok (.bipush 6, 2) := by decide +kernel
theorem dX10_percentForDays_3 : decode cX10_percentForDays 3 = .ok (.if_icmp .lt 6, 3) := by decide +kernel
theorem dX10_percentForDays_6 : decode cX10_percentForDays 6 = .ok (.bipush 80, 2) := by decide +kernel
theorem dX10_percentForDays_8 : decode cX10_percentForDays 8 = .ok (.ireturn, 1) := by decide +kernel
theorem dX10_percentForDays_9 : decode cX10_percentForDays 9 = .ok (.iload_n 0, 1) := by decide +kernel
theorem dX10_percentForDays_10 : decode cX10_percentForDays 10 = .ok (.iconst 3, 1) := by decide +kernel
theorem dX10_percentForDays_11 : decode cX10_percentForDays 11 = .ok (.if_icmp .lt 8, 3) := by decide +kernel
theorem dX10_percentForDays_14 : decode cX10_percentForDays 14 = .ok (.bipush 90, 2) := by decide +kernel
theorem dX10_percentForDays_16 : decode cX10_percentForDays 16 = .ok (.goto 5, 3) := by decide +kernel
theorem dX10_percentForDays_19 : decode cX10_percentForDays 19 = .ok (.bipush 100, 2) := by decide +kernel
theorem dX10_percentForDays_21 : decode cX10_percentForDays 21 = .ok (.ireturn, 1) := by decide +kernel
theorem dX11_init_0 : decode cX11_init 0 = .ok (.aload_n 0, 1) := by decide +kernel
theorem dX11_init_1 : decode cX11_init 1 = .ok (.invokespecial 3, 3) := by decide +kernel
theorem dX11_init_4 : decode cX11_init 4 = .ok (.aload_n 0, 1) := by decide +kernel
theorem dX11_init_5 : decode cX11_init 5 = .ok (.new 9, 3) := by decide +kernel
theorem dX11_init_8 : decode cX11_init 8 = .ok (.dup, 1) := by decide +kernel
theorem dX11_init_9 : decode cX11_init 9 = .ok (.invokespecial 11, 3) := by decide +kernel
theorem dX11_init_12 : decode cX11_init 12 = .ok (.putfield 12, 3) := by decide +kernel
theorem dX11_init_15 : decode cX11_init 15 = .ok (.aload_n 0, 1) := by decide +kernel
theorem dX11_init_16 : decode cX11_init 16 = .ok (.new 9, 3) := by decide +kernel
theorem dX11_init_19 : decode cX11_init 19 = .ok (.dup, 1) := by decide +kernel
theorem dX11_init_20 : decode cX11_init 20 = .ok (.invokespecial 11, 3) := by decide +kernel
theorem dX11_init_23 : decode cX11_init 23 = .ok (.putfield 16, 3) := by decide +kernel
theorem dX11_init_26 : decode cX11_init 26 = .ok (.aload_n 0, 1) := by decide +kernel
theorem dX11_init_27 : decode cX11_init 27 = .ok (.new 19, 3) := by decide +kernel
theorem dX11_init_30 : decode cX11_init 30 = .ok (.dup, 1) := by decide +kernel
theorem dX11_init_31 : decode cX11_init 31 = .ok (.invokespecial 21, 3) := by decide +kernel
theorem dX11_init_34 : decode cX11_init 34 = .ok (.putfield 22, 3) := by decide +kernel
theorem dX11_init_37 : decode cX11_init 37 = .ok (.aload_n 0, 1) := by decide +kernel
theorem dX11_init_38 : decode cX11_init 38 = .ok (.new 26, 3) := by decide +kernel
theorem dX11_init_41 : decode cX11_init 41 = .ok (.dup, 1) := by decide +kernel
theorem dX11_init_42 : decode cX11_init 42 = .ok (.invokespecial 28, 3) := by decide +kernel
theorem dX11_init_45 : decode cX11_init 45 = .ok (.putfield 29, 3) := by decide +kernel
theorem dX11_init_48 : decode cX11_init 48 = .ok (.aload_n 0, 1) := by decide +kernel
theorem dX11_init_49 : decode cX11_init 49 = .ok (.aload_n 0, 1) := by decide +kernel
theorem dX11_init_50 : decode cX11_init 50 = .ok (.getfield 29, 3) := by decide +kernel
theorem dX11_init_53 : decode cX11_init 53 = .ok (.getfield 33, 3) := by decide +kernel
theorem dX11_init_56 : decode cX11_init 56 = .ok (.putfield 37, 3) := by decide +kernel
theorem dX11_init_59 : decode cX11_init 59 = .ok (.aload_n 0, 1) := by decide +kernel
theorem dX11_init_60 : decode cX11_init 60 = .ok (.new 38, 3) := by decide +kernel
theorem dX11_init_63 : decode cX11_init 63 = .ok (.dup, 1) := by decide +kernel
theorem dX11_init_64 : decode cX11_init 64 = .ok (.invokespecial 40, 3) := by decide +kernel
theorem dX11_init_67 : decode cX11_init 67 = .ok (.putfield 41, 3) := by decide +kernel
theorem dX11_init_70 : decode cX11_init 70 = .ok (.aload_n 0, 1) := by decide +kernel
theorem dX11_init_71 : decode cX11_init 71 = .ok (.getfield 37, 3) := by decide +kernel
theorem dX11_init_74 : decode cX11_init 74 = .ok (.ldc 45, 2) := by decide +kernel
theorem dX11_init_76 : decode cX11_init 76 = .ok (.invokevirtual 47, 3) := by decide +kernel
theorem dX11_init_79 : decode cX11_init 79 = .ok (.aload_n 0, 1) := by decide +kernel
theorem dX11_init_80 : decode cX11_init 80 = .ok (.getfield 29, 3) := by decide +kernel
theorem dX11_init_83 : decode cX11_init 83 = .ok (.invokevirtual 53, 3) := by decide +kernel
theorem dX11_init_86 : decode cX11_init 86 = .ok (.aload_n 0, 1) := by decide +kernel
theorem dX11_init_87 : decode cX11_init 87 = .ok (.getfield 37, 3) := by decide +kernel
theorem dX11_init_90 : decode cX11_init 90 = .ok (.iconst 0, 1) := by decide +kernel
theorem dX11_init_91 : decode cX11_init 91 = .ok (.putfield 56, 3) := by decide +kernel
theorem dX11_init_94 : decode cX11_init 94 = .ok (.aload_n 0, 1) := by decide +kernel
theorem dX11_init_95 : decode cX11_init 95 = .ok (.getfield 12, 3) := by decide +kernel
theorem dX11_init_98 : decode cX11_init 98 = .ok (.aload_n 0, 1) := by decide +kernel
theorem dX11_init_99 : decode cX11_init 99 = .ok (.getfield 29, 3) := by decide +kernel
theorem dX11_init_102 : decode cX11_init 102 = .ok (.getfield 60, 3) := by decide +kernel
theorem dX11_init_105 : decode cX11_init 105 = .ok (.invokevirtual 61, 3) := by decide +kernel
theorem dX11_init_108 : decode cX11_init 108 = .ok (.return_, 1) := by decide +kernel
theorem dX11_append_0 : decode cX11_append 0 = .ok (.aload_n 0, 1) := by decide +kernel
theorem dX11_append_1 : decode cX11_append 1 = .ok (.getfield 37, 3) := by decide +kernel
theorem dX11_append_4 : decode cX11_append 4 = .ok (.getfield 56, 3) := by decide +kernel
theorem dX11_append_7 : decode cX11_append 7 = .ok (.bipush 20, 2) := by decide +kernel
theorem dX11_append_9 : decode cX11_append 9 = .ok (.iadd, 1) := by decide +kernel
theorem dX11_append_10 : decode cX11_append 10 = .ok (.sipush 500, 3) := by decide +kernel
theorem dX11_append_13 : decode cX11_append 13 = .ok (.if_icmp .le 6, 3) := by decide +kernel
theorem dX11_append_16 : decode cX11_append 16 = .ok (.bipush (-2), 2) := by decide +kernel
theorem dX11_append_18 : decode cX11_append 18 = .ok (.ireturn, 1) := by decide +kernel
theorem dX11_append_19 : decode cX11_append 19 = .ok (.aload_n 0, 1) := by decide +kernel
theorem dX11_append_20 : decode cX11_append 20 = .ok (.getfield 37, 3) := by decide +kernel
theorem dX11_append_23 : decode cX11_append 23 = .ok (.iload_n 1, 1) := by decide +kernel
theorem dX11_append_24 : decode cX11_append 24 = .ok (.invokevirtual 65, 3) := by decide +kernel
theorem dX11_append_27 : decode cX11_append 27 = .ok (.aload_n 0, 1) := by decide +kernel
theorem dX11_append_28 : decode cX11_append 28 = .ok (.getfield 37, 3) := by decide +kernel
theorem dX11_append_31 : decode cX11_append 31 = .ok (.iload_n 2, 1) := by decide +kernel
theorem dX11_append_32 : decode cX11_append 32 = .ok (.invokevirtual 65, 3) := by decide +kernel
theorem dX11_append_35 : decode cX11_append 35 = .ok (.aload_n 0, 1) := by decide +kernel
theorem dX11_append_36 : decode cX11_append 36 = .ok (.getfield 37, 3) := by decide +kernel
theorem dX11_append_39 : decode cX11_append 39 = .ok (.iload_n 3, 1) := by decide +kernel
theorem dX11_append_40 : decode cX11_append 40 = .ok (.invokevirtual 65, 3) := by decide +kernel
theorem dX11_append_43 : decode cX11_append 43 = .ok (.aload_n 0, 1) := by decide +kernel
theorem dX11_append_44 : decode cX11_append 44 = .ok (.getfield 37, 3) := by decide +kernel
theorem dX11_append_47 : decode cX11_append 47 = .ok (.iload 4, 2) := by decide +kernel
theorem dX11_append_49 : decode cX11_append 49 = .ok (.invokevirtual 65, 3) := by decide +kernel
theorem dX11_append_52 : decode cX11_append 52 = .ok (.aload_n 0, 1) := by decide +kernel
theorem dX11_append_53 : decode cX11_append 53 = .ok (.getfield 37, 3) := by decide +kernel
theorem dX11_append_56 : decode cX11_append 56 = .ok (.iload 5, 2) := by decide +kernel
theorem dX11_append_58 : decode cX11_append 58 = .ok (.invokevirtual 65, 3) := by decide +kernel
theorem dX11_append_61 : decode cX11_append 61 = .ok (.aload_n 0, 1) := by decide +kernel
theorem dX11_append_62 : decode cX11_append 62 = .ok (.getfield 37, 3) := by decide +kernel
theorem dX11_append_65 : decode cX11_append 65 = .ok (.getfield 56, 3) := by decide +kernel
theorem dX11_append_68 : decode cX11_append 68 = .ok (.ireturn, 1) := by decide +kernel
theorem dX11_truncateInput_0 : decode cX11_truncateInput 0 = .ok (.iload_n 1, 1) := by decide +kernel
theorem dX11_truncateInput_1 : decode cX11_truncateInput 1 = .ok (.iconst 0, 1) := by decide +kernel
theorem dX11_truncateInput_2 : decode cX11_truncateInput 2 = .ok (.aload_n 0, 1) := by decide +kernel
theorem dX11_truncateInput_3 : decode cX11_truncateInput 3 = .ok (.getfield 37, 3) := by decide +kernel
theorem dX11_truncateInput_6 : decode cX11_truncateInput 6 = .ok (.getfield 56, 3) := by decide +kernel
theorem dX11_truncateInput_9 : decode cX11_truncateInput 9 = .ok (.invokestatic 69, 3) := by decide +kernel
theorem dX11_truncateInput_12 : decode cX11_truncateInput 12 = .ok (.aload_n 0, 1) := by decide +kernel
theorem dX11_truncateInput_13 : decode cX11_truncateInput 13 = .ok (.getfield 37, 3) := by decide +kernel
theorem dX11_truncateInput_16 : decode cX11_truncateInput 16 = .ok (.iload_n 1, 1) := by decide +kernel
theorem dX11_truncateInput_17 : decode cX11_truncateInput 17 = .ok (.putfield 56, 3) := by decide +kernel
theorem dX11_truncateInput_20 : decode cX11_truncateInput 20 = .ok (.iload_n 1, 1) := by decide +kernel
theorem dX11_truncateInput_21 : decode cX11_truncateInput 21 = .ok (.ireturn, 1) := by decide +kernel
theorem dX11_runScript_0 : decode cX11_runScript 0 = .ok (.aload_n 0, 1) := by decide +kernel
theorem dX11_runScript_1 : decode cX11_runScript 1 = .ok (.getfield 29, 3) := by decide +kernel
theorem dX11_runScript_4 : decode cX11_runScript 4 = .ok (.invokevirtual 53, 3) := by decide +kernel
theorem dX11_runScript_7 : decode cX11_runScript 7 = .ok (.aload_n 0, 1) := by decide +kernel
theorem dX11_runScript_8 : decode cX11_runScript 8 = .ok (.getfield 37, 3) := by decide +kernel
theorem dX11_runScript_11 : decode cX11_runScript 11 = .ok (.iconst 0, 1) := by decide +kernel
theorem dX11_runScript_12 : decode cX11_runScript 12 = .ok (.putfield 56, 3) := by decide +kernel
theorem dX11_runScript_15 : decode cX11_runScript 15 = .ok (.aload_n 0, 1) := by decide +kernel
theorem dX11_runScript_16 : decode cX11_runScript 16 = .ok (.getfield 29, 3) := by decide +kernel
theorem dX11_runScript_19 : decode cX11_runScript 19 = .ok (.getfield 73, 3) := by decide +kernel
theorem dX11_runScript_22 : decode cX11_runScript 22 = .ok (.ifCond .eq 5, 3) := by decide +kernel
theorem dX11_runScript_25 : decode cX11_runScript 25 = .ok (.iconst (-1), 1) := by decide +kernel
theorem dX11_runScript_26 : decode cX11_runScript 26 = .ok (.ireturn, 1) := by decide +kernel
theorem dX11_runScript_27 : decode cX11_runScript 27 = .ok (.aload_n 0, 1) := by decide +kernel
theorem dX11_runScript_28 : decode cX11_runScript 28 = .ok (.getfield 22, 3) := by decide +kernel
theorem dX11_runScript_31 : decode cX11_runScript 31 = .ok (.aload_n 0, 1) := by decide +kernel
theorem dX11_runScript_32 : decode cX11_runScript 32 = .ok (.getfield 12, 3) := by decide +kernel
theorem dX11_runScript_35 : decode cX11_runScript 35 = .ok (.invokevirtual 76, 3) := by decide +kernel
theorem dX11_runScript_38 : decode cX11_runScript 38 = .ok (.aload_n 0, 1) := by decide +kernel
theorem dX11_runScript_39 : decode cX11_runScript 39 = .ok (.getfield 12, 3) := by decide +kernel
theorem dX11_runScript_42 : decode cX11_runScript 42 = .ok (.aload_n 0, 1) := by decide +kernel
theorem dX11_runScript_43 : decode cX11_runScript 43 = .ok (.getfield 29, 3) := by decide +kernel
theorem dX11_runScript_46 : decode cX11_runScript 46 = .ok (.getfield 60, 3) := by decide +kernel
theorem dX11_runScript_49 : decode cX11_runScript 49 = .ok (.invokevirtual 61, 3) := by decide +kernel
theorem dX11_runScript_52 : decode cX11_runScript 52 = .ok (.aload_n 0, 1) := by decide +kernel
theorem dX11_runScript_53 : decode cX11_runScript 53 = .ok (.getfield 12, 3) := by decide +kernel
theorem dX11_runScript_56 : decode cX11_runScript 56 = .ok (.getfield 79, 3) := by decide +kernel
theorem dX11_runScript_59 : decode cX11_runScript 59 = .ok (.getfield 83, 3) := by decide +kernel
theorem dX11_runScript_62 : decode cX11_runScript 62 = .ok (.ireturn, 1) := by decide +kernel
theorem dX11_setPrice_0 : decode cX11_setPrice 0 = .ok (.aload_n 0, 1) := by decide +kernel
theorem dX11_setPrice_1 : decode cX11_setPrice 1 = .ok (.iload_n 1, 1) := by decide +kernel
theorem dX11_setPrice_2 : decode cX11_setPrice 2 = .ok (.invokevirtual 88, 3) := by decide +kernel
theorem dX11_setPrice_5 : decode cX11_setPrice 5 = .ok (.iload_n 2, 1) := by decide +kernel
theorem dX11_setPrice_6 : decode cX11_setPrice 6 = .ok (.iconst 1, 1) := by decide +kernel
theorem dX11_setPrice_7 : decode cX11_setPrice 7 = .ok (.bipush 99, 2) := by decide +kernel
theorem dX11_setPrice_9 : decode cX11_setPrice 9 = .ok (.invokestatic 69, 3) := by decide +kernel
theorem dX11_setPrice_12 : decode cX11_setPrice 12 = .ok (.aload_n 0, 1) := by decide +kernel
theorem dX11_setPrice_13 : decode cX11_setPrice 13 = .ok (.getfield 22, 3) := by decide +kernel
theorem dX11_setPrice_16 : decode cX11_setPrice 16 = .ok (.aload_n 0, 1) := by decide +kernel
theorem dX11_setPrice_17 : decode cX11_setPrice 17 = .ok (.getfield 12, 3) := by decide +kernel
theorem dX11_setPrice_20 : decode cX11_setPrice 20 = .ok (.invokevirtual 76, 3) := by decide +kernel
theorem dX11_setPrice_23 : decode cX11_setPrice 23 = .ok (.aload_n 0, 1) := by decide +kernel
theorem dX11_setPrice_24 : decode cX11_setPrice 24 = .ok (.getfield 12, 3) := by decide +kernel
theorem dX11_setPrice_27 : decode cX11_setPrice 27 = .ok (.getfield 91, 3) := by decide +kernel
theorem dX11_setPrice_30 : decode cX11_setPrice 30 = .ok (.getfield 95, 3) := by decide +kernel
theorem dX11_setPrice_33 : decode cX11_setPrice 33 = .ok (.iload_n 1, 1) := by decide +kernel
theorem dX11_setPrice_34 : decode cX11_setPrice 34 = .ok (.iaload, 1) := by decide +kernel
theorem dX11_setPrice_35 : decode cX11_setPrice 35 = .ok (.istore_n 3, 1) := by decide +kernel
theorem dX11_setPrice_36 : decode cX11_setPrice 36 = .ok (.aload_n 0, 1) := by decide +kernel
theorem dX11_setPrice_37 : decode cX11_setPrice 37 = .ok (.getfield 12, 3) := by decide +kernel
theorem dX11_setPrice_40 : decode cX11_setPrice 40 = .ok (.getfield 91, 3) := by decide +kernel
theorem dX11_setPrice_43 : decode cX11_setPrice 43 = .ok (.getfield 95, 3) := by decide +kernel
theorem dX11_setPrice_46 : decode cX11_setPrice 46 = .ok (.iload_n 1, 1) := by decide +kernel
theorem dX11_setPrice_47 : decode cX11_setPrice 47 = .ok (.iload_n 2, 1) := by decide +kernel
theorem dX11_setPrice_48 : decode cX11_setPrice 48 = .ok (.iastore, 1) := by decide +kernel
theorem dX11_setPrice_49 : decode cX11_setPrice 49 = .ok (.iload_n 3, 1) := by decide +kernel
theorem dX11_setPrice_50 : decode cX11_setPrice 50 = .ok (.ireturn, 1) := by decide +kernel
theorem dX11_setRate_0 : decode cX11_setRate 0 = .ok (.iload_n 1, 1) := by decide +kernel
theorem dX11_setRate_1 : decode cX11_setRate 1 = .ok (.iconst 1, 1) := by decide +kernel
theorem dX11_setRate_2 : decode cX11_setRate 2 = .ok (.bipush 20, 2) := by decide +kernel
theorem dX11_setRate_4 : decode cX11_setRate 4 = .ok (.invokestatic 69, 3) := by decide +kernel
theorem dX11_setRate_7 : decode cX11_setRate 7 = .ok (.aload_n 0, 1) := by decide +kernel
theorem dX11_setRate_8 : decode cX11_setRate 8 = .ok (.getfield 22, 3) := by decide +kernel
theorem dX11_setRate_11 : decode cX11_setRate 11 = .ok (.aload_n 0, 1) := by decide +kernel
theorem dX11_setRate_12 : decode cX11_setRate 12 = .ok (.getfield 12, 3) := by decide +kernel
theorem dX11_setRate_15 : decode cX11_setRate 15 = .ok (.invokevirtual 76, 3) := by decide +kernel
theorem dX11_setRate_18 : decode cX11_setRate 18 = .ok (.aload_n 0, 1) := by decide +kernel
theorem dX11_setRate_19 : decode cX11_setRate 19 = .ok (.getfield 12, 3) := by decide +kernel
theorem dX11_setRate_22 : decode cX11_setRate 22 = .ok (.getfield 91, 3) := by decide +kernel
theorem dX11_setRate_25 : decode cX11_setRate 25 = .ok (.getfield 101, 3) := by decide +kernel
theorem dX11_setRate_28 : decode cX11_setRate 28 = .ok (.istore_n 2, 1) := by decide +kernel
theorem dX11_setRate_29 : decode cX11_setRate 29 = .ok (.aload_n 0, 1) := by decide +kernel
theorem dX11_setRate_30 : decode cX11_setRate 30 = .ok (.getfield 12, 3) := by decide +kernel
theorem dX11_setRate_33 : decode cX11_setRate 33 = .ok (.getfield 91, 3) := by decide +kernel
theorem dX11_setRate_36 : decode cX11_setRate 36 = .ok (.iload_n 1, 1) := by decide +kernel
theorem dX11_setRate_37 : decode cX11_setRate 37 = .ok (.putfield 101, 3) := by decide +kernel
theorem dX11_setRate_40 : decode cX11_setRate 40 = .ok (.iload_n 2, 1) := by decide +kernel
theorem dX11_setRate_41 : decode cX11_setRate 41 = .ok (.ireturn, 1) := by decide +kernel
theorem dX11_layBed_0 : decode cX11_layBed 0 = .ok (.aload_n 0, 1) := by decide +kernel
theorem dX11_layBed_1 : decode cX11_layBed 1 = .ok (.iload_n 1, 1) := by decide +kernel
theorem dX11_layBed_2 : decode cX11_layBed 2 = .ok (.invokevirtual 88, 3) := by decide +kernel
theorem dX11_layBed_5 : decode cX11_layBed 5 = .ok (.iload_n 2, 1) := by decide +kernel
theorem dX11_layBed_6 : decode cX11_layBed 6 = .ok (.iconst 1, 1) := by decide +kernel
theorem dX11_layBed_7 : decode cX11_layBed 7 = .ok (.bipush 20, 2) := by decide +kernel
theorem dX11_layBed_9 : decode cX11_layBed 9 = .ok (.invokestatic 69, 3) := by decide +kernel
theorem dX11_layBed_12 : decode cX11_layBed 12 = .ok (.iload_n 3, 1) := by decide +kernel
theorem dX11_layBed_13 : decode cX11_layBed 13 = .ok (.iconst 0, 1) := by decide +kernel
theorem dX11_layBed_14 : decode cX11_layBed 14 = .ok (.bipush 99, 2) := by decide +kernel
theorem dX11_layBed_16 : decode cX11_layBed 16 = .ok (.invokestatic 69, 3) := by decide +kernel
theorem dX11_layBed_19 : decode cX11_layBed 19 = .ok (.iload 4, 2) := by decide +kernel
theorem dX11_layBed_21 : decode cX11_layBed 21 = .ok (.iload_n 3, 1) := by decide +kernel
theorem dX11_layBed_22 : decode cX11_layBed 22 = .ok (.bipush 99, 2) := by decide +kernel
theorem dX11_layBed_24 : decode cX11_layBed 24 = .ok (.invokestatic 69, 3) := by decide +kernel
theorem dX11_layBed_27 : decode cX11_layBed 27 = .ok (.aload_n 0, 1) := by decide +kernel
theorem dX11_layBed_28 : decode cX11_layBed 28 = .ok (.getfield 12, 3) := by decide +kernel
theorem dX11_layBed_31 : decode cX11_layBed 31 = .ok (.getfield 104, 3) := by decide +kernel
theorem dX11_layBed_34 : decode cX11_layBed 34 = .ok (.invokevirtual 108, 3) := by decide +kernel
theorem dX11_layBed_37 : decode cX11_layBed 37 = .ok (.invokestatic 114, 3) := by decide +kernel
theorem dX11_layBed_40 : decode cX11_layBed 40 = .ok (.aload_n 0, 1) := by decide +kernel
theorem dX11_layBed_41 : decode cX11_layBed 41 = .ok (.getfield 22, 3) := by decide +kernel
theorem dX11_layBed_44 : decode cX11_layBed 44 = .ok (.aload_n 0, 1) := by decide +kernel
theorem dX11_layBed_45 : decode cX11_layBed 45 = .ok (.getfield 12, 3) := by decide +kernel
theorem dX11_layBed_48 : decode cX11_layBed 48 = .ok (.invokevirtual 76, 3) := by decide +kernel
theorem dX11_layBed_51 : decode cX11_layBed 51 = .ok (.aload_n 0, 1) := by decide +kernel
theorem dX11_layBed_52 : decode cX11_layBed 52 = .ok (.getfield 12, 3) := by decide +kernel
theorem dX11_layBed_55 : decode cX11_layBed 55 = .ok (.getfield 104, 3) := by decide +kernel
theorem dX11_layBed_58 : decode cX11_layBed 58 = .ok (.iload_n 1, 1) := by decide +kernel
theorem dX11_layBed_59 : decode cX11_layBed 59 = .ok (.iload_n 2, 1) := by decide +kernel
theorem dX11_layBed_60 : decode cX11_layBed 60 = .ok (.iload_n 3, 1) := by decide +kernel
theorem dX11_layBed_61 : decode cX11_layBed 61 = .ok (.iload 4, 2) := by decide +kernel
theorem dX11_layBed_63 : decode cX11_layBed 63 = .ok (.invokevirtual 118, 3) := by decide +kernel
theorem dX11_layBed_66 : decode cX11_layBed 66 = .ok (.ireturn, 1) := by decide +kernel
theorem dX11_setPeacocks_0 : decode cX11_setPeacocks 0 = .ok (.iload_n 1, 1) := by decide +kernel
theorem dX11_setPeacocks_1 : decode cX11_setPeacocks 1 = .ok (.iconst 0, 1) := by decide +kernel
theorem dX11_setPeacocks_2 : decode cX11_setPeacocks 2 = .ok (.bipush 95, 2) := by decide +kernel
theorem dX11_setPeacocks_4 : decode cX11_setPeacocks 4 = .ok (.invokestatic 69, 3) := by decide +kernel
theorem dX11_setPeacocks_7 : decode cX11_setPeacocks 7 = .ok (.iload_n 2, 1) := by decide +kernel
theorem dX11_setPeacocks_8 : decode cX11_setPeacocks 8 = .ok (.iload_n 1, 1) := by decide +kernel
theorem dX11_setPeacocks_9 : decode cX11_setPeacocks 9 = .ok (.bipush 95, 2) := by decide +kernel
theorem dX11_setPeacocks_11 : decode cX11_setPeacocks 11 = .ok (.invokestatic 69, 3) := by decide +kernel
theorem dX11_setPeacocks_14 : decode cX11_setPeacocks 14 = .ok (.aload_n 0, 1) := by decide +kernel
theorem dX11_setPeacocks_15 : decode cX11_setPeacocks 15 = .ok (.getfield 22, 3) := by decide +kernel
theorem dX11_setPeacocks_18 : decode cX11_setPeacocks 18 = .ok (.aload_n 0, 1) := by decide +kernel
theorem dX11_setPeacocks_19 : decode cX11_setPeacocks 19 = .ok (.getfield 12, 3) := by decide +kernel
theorem dX11_setPeacocks_22 : decode cX11_setPeacocks 22 = .ok (.invokevirtual 76, 3) := by decide +kernel
theorem dX11_setPeacocks_25 : decode cX11_setPeacocks 25 = .ok (.aload_n 0, 1) := by decide +kernel
theorem dX11_setPeacocks_26 : decode cX11_setPeacocks 26 = .ok (.getfield 12, 3) := by decide +kernel
theorem dX11_setPeacocks_29 : decode cX11_setPeacocks 29 = .ok (.getfield 122, 3) := by decide +kernel
theorem dX11_setPeacocks_32 : decode cX11_setPeacocks 32 = .ok (.iload_n 1, 1) := by decide +kernel
theorem dX11_setPeacocks_33 : decode cX11_setPeacocks 33 = .ok (.iload_n 2, 1) := by decide +kernel
theorem dX11_setPeacocks_34 : decode cX11_setPeacocks 34 = .ok (.invokevirtual 126, 3) := by decide +kernel
theorem dX11_setPeacocks_37 : decode cX11_setPeacocks 37 = .ok (.aload_n 0, 1) := by decide +kernel
theorem dX11_setPeacocks_38 : decode cX11_setPeacocks 38 = .ok (.getfield 12, 3) := by decide +kernel
theorem dX11_setPeacocks_41 : decode cX11_setPeacocks 41 = .ok (.getfield 122, 3) := by decide +kernel
theorem dX11_setPeacocks_44 : decode cX11_setPeacocks 44 = .ok (.invokevirtual 132, 3) := by decide +kernel
theorem dX11_setPeacocks_47 : decode cX11_setPeacocks 47 = .ok (.ireturn, 1) := by decide +kernel
theorem dX11_setPause_0 : decode cX11_setPause 0 = .ok (.iload_n 1, 1) := by decide +kernel
theorem dX11_setPause_1 : decode cX11_setPause 1 = .ok (.iconst 0, 1) := by decide +kernel
theorem dX11_setPause_2 : decode cX11_setPause 2 = .ok (.bipush 8, 2) := by decide +kernel
theorem dX11_setPause_4 : decode cX11_setPause 4 = .ok (.invokestatic 69, 3) := by decide +kernel
theorem dX11_setPause_7 : decode cX11_setPause 7 = .ok (.aload_n 0, 1) := by decide +kernel
theorem dX11_setPause_8 : decode cX11_setPause 8 = .ok (.getfield 22, 3) := by decide +kernel
theorem dX11_setPause_11 : decode cX11_setPause 11 = .ok (.aload_n 0, 1) := by decide +kernel
theorem dX11_setPause_12 : decode cX11_setPause 12 = .ok (.getfield 12, 3) := by decide +kernel
theorem dX11_setPause_15 : decode cX11_setPause 15 = .ok (.invokevirtual 76, 3) := by decide +kernel
theorem dX11_setPause_18 : decode cX11_setPause 18 = .ok (.aload_n 0, 1) := by decide +kernel
theorem dX11_setPause_19 : decode cX11_setPause 19 = .ok (.getfield 12, 3) := by decide +kernel
theorem dX11_setPause_22 : decode cX11_setPause 22 = .ok (.getfield 136, 3) := by decide +kernel
theorem dX11_setPause_25 : decode cX11_setPause 25 = .ok (.istore_n 2, 1) := by decide +kernel
theorem dX11_setPause_26 : decode cX11_setPause 26 = .ok (.aload_n 0, 1) := by decide +kernel
theorem dX11_setPause_27 : decode cX11_setPause 27 = .ok (.getfield 12, 3) := by decide +kernel
theorem dX11_setPause_30 : decode cX11_setPause 30 = .ok (.iload_n 1, 1) := by decide +kernel
theorem dX11_setPause_31 : decode cX11_setPause 31 = .ok (.putfield 136, 3) := by decide +kernel
theorem dX11_setPause_34 : decode cX11_setPause 34 = .ok (.iload_n 2, 1) := by decide +kernel
theorem dX11_setPause_35 : decode cX11_setPause 35 = .ok (.ireturn, 1) := by decide +kernel
theorem dX11_sell_0 : decode cX11_sell 0 = .ok (.aload_n 0, 1) := by decide +kernel
theorem dX11_sell_1 : decode cX11_sell 1 = .ok (.iload_n 1, 1) := by decide +kernel
theorem dX11_sell_2 : decode cX11_sell 2 = .ok (.invokevirtual 139, 3) := by decide +kernel
theorem dX11_sell_5 : decode cX11_sell 5 = .ok (.iload_n 2, 1) := by decide +kernel
theorem dX11_sell_6 : decode cX11_sell 6 = .ok (.aload_n 0, 1) := by decide +kernel
theorem dX11_sell_7 : decode cX11_sell 7 = .ok (.getfield 12, 3) := by decide +kernel
theorem dX11_sell_10 : decode cX11_sell 10 = .ok (.getfield 122, 3) := by decide +kernel
theorem dX11_sell_13 : decode cX11_sell 13 = .ok (.invokevirtual 142, 3) := by decide +kernel
theorem dX11_sell_16 : decode cX11_sell 16 = .ok (.bipush 99, 2) := by decide +kernel
theorem dX11_sell_18 : decode cX11_sell 18 = .ok (.invokestatic 69, 3) := by decide +kernel
theorem dX11_sell_21 : decode cX11_sell 21 = .ok (.iload_n 3, 1) := by decide +kernel
theorem dX11_sell_22 : decode cX11_sell 22 = .ok (.iconst 1, 1) := by decide +kernel
theorem dX11_sell_23 : decode cX11_sell 23 = .ok (.bipush 14, 2) := by decide +kernel
theorem dX11_sell_25 : decode cX11_sell 25 = .ok (.invokestatic 69, 3) := by decide +kernel
theorem dX11_sell_28 : decode cX11_sell 28 = .ok (.iload 4, 2) := by decide +kernel
theorem dX11_sell_30 : decode cX11_sell 30 = .ok (.iconst 0, 1) := by decide +kernel
theorem dX11_sell_31 : decode cX11_sell 31 = .ok (.iconst 1, 1) := by decide +kernel
theorem dX11_sell_32 : decode cX11_sell 32 = .ok (.invokestatic 69, 3) := by decide +kernel
theorem dX11_sell_35 : decode cX11_sell 35 = .ok (.aload_n 0, 1) := by decide +kernel
theorem dX11_sell_36 : decode cX11_sell 36 = .ok (.getfield 12, 3) := by decide +kernel
theorem dX11_sell_39 : decode cX11_sell 39 = .ok (.invokevirtual 145, 3) := by decide +kernel
theorem dX11_sell_42 : decode cX11_sell 42 = .ok (.invokestatic 114, 3) := by decide +kernel
theorem dX11_sell_45 : decode cX11_sell 45 = .ok (.aload_n 0, 1) := by decide +kernel
theorem dX11_sell_46 : decode cX11_sell 46 = .ok (.getfield 22, 3) := by decide +kernel
theorem dX11_sell_49 : decode cX11_sell 49 = .ok (.aload_n 0, 1) := by decide +kernel
theorem dX11_sell_50 : decode cX11_sell 50 = .ok (.getfield 12, 3) := by decide +kernel
theorem dX11_sell_53 : decode cX11_sell 53 = .ok (.invokevirtual 76, 3) := by decide +kernel
theorem dX11_sell_56 : decode cX11_sell 56 = .ok (.aload_n 0, 1) := by decide +kernel
theorem dX11_sell_57 : decode cX11_sell 57 = .ok (.getfield 12, 3) := by decide +kernel
theorem dX11_sell_60 : decode cX11_sell 60 = .ok (.iload_n 1, 1) := by decide +kernel
theorem dX11_sell_61 : decode cX11_sell 61 = .ok (.iload_n 2, 1) := by decide +kernel
theorem dX11_sell_62 : decode cX11_sell 62 = .ok (.iload_n 3, 1) := by decide +kernel
theorem dX11_sell_63 : decode cX11_sell 63 = .ok (.iload 4, 2) := by decide +kernel
theorem dX11_sell_65 : decode cX11_sell 65 = .ok (.invokevirtual 148, 3) := by decide +kernel
theorem dX11_sell_68 : decode cX11_sell 68 = .ok (.ireturn, 1) := by decide +kernel
theorem dX11_extend_0 : decode cX11_extend 0 = .ok (.aload_n 0, 1) := by decide +kernel
theorem dX11_extend_1 : decode cX11_extend 1 = .ok (.iload_n 1, 1) := by decide +kernel
theorem dX11_extend_2 : decode cX11_extend 2 = .ok (.invokevirtual 151, 3) := by decide +kernel
theorem dX11_extend_5 : decode cX11_extend 5 = .ok (.iload_n 2, 1) := by decide +kernel
theorem dX11_extend_6 : decode cX11_extend 6 = .ok (.iconst 1, 1) := by decide +kernel
theorem dX11_extend_7 : decode cX11_extend 7 = .ok (.bipush 13, 2) := by decide +kernel
theorem dX11_extend_9 : decode cX11_extend 9 = .ok (.invokestatic 69, 3) := by decide +kernel
theorem dX11_extend_12 : decode cX11_extend 12 = .ok (.aload_n 0, 1) := by decide +kernel
theorem dX11_extend_13 : decode cX11_extend 13 = .ok (.getfield 12, 3) := by decide +kernel
theorem dX11_extend_16 : decode cX11_extend 16 = .ok (.iload_n 1, 1) := by decide +kernel
theorem dX11_extend_17 : decode cX11_extend 17 = .ok (.invokevirtual 154, 3) := by decide +kernel
theorem dX11_extend_20 : decode cX11_extend 20 = .ok (.invokestatic 114, 3) := by decide +kernel
theorem dX11_extend_23 : decode cX11_extend 23 = .ok (.aload_n 0, 1) := by decide +kernel
theorem dX11_extend_24 : decode cX11_extend 24 = .ok (.getfield 12, 3) := by decide +kernel
theorem dX11_extend_27 : decode cX11_extend 27 = .ok (.getfield 79, 3) := by decide +kernel
theorem dX11_extend_30 : decode cX11_extend 30 = .ok (.getfield 158, 3) := by decide +kernel
theorem dX11_extend_33 : decode cX11_extend 33 = .ok (.iload_n 1, 1) := by decide +kernel
theorem dX11_extend_34 : decode cX11_extend 34 = .ok (.iaload, 1) := by decide +kernel
theorem dX11_extend_35 : decode cX11_extend 35 = .ok (.iload_n 2, 1) := by decide +kernel
theorem dX11_extend_36 : decode cX11_extend 36 = .ok (.iadd, 1) := by decide +kernel
theorem dX11_extend_37 : decode cX11_extend 37 = .ok (.bipush 14, 2) := by decide +kernel
theorem dX11_extend_39 : decode cX11_extend 39 = .ok (.if_icmp .gt 7, 3) := by decide +kernel
theorem dX11_extend_42 : decode cX11_extend 42 = .ok (.iconst 1, 1) := by decide +kernel
theorem dX11_extend_43 : decode cX11_extend 43 = .ok (.goto 4, 3) := by decide +kernel
theorem dX11_extend_46 : decode cX11_extend 46 = .ok (.iconst 0, 1) := by decide +kernel
theorem dX11_extend_47 : decode cX11_extend 47 = .ok (.invokestatic 114, 3) := by decide +kernel
theorem dX11_extend_50 : decode cX11_extend 50 = .ok (.aload_n 0, 1) := by decide +kernel
theorem dX11_extend_51 : decode cX11_extend 51 = .ok (.getfield 22, 3) := by decide +kernel
theorem dX11_extend_54 : decode cX11_extend 54 = .ok (.aload_n 0, 1) := by decide +kernel
theorem dX11_extend_55 : decode cX11_extend 55 = .ok (.getfield 12, 3) := by decide +kernel
theorem dX11_extend_58 : decode cX11_extend 58 = .ok (.invokevirtual 76, 3) := by decide +kernel
theorem dX11_extend_61 : decode cX11_extend 61 = .ok (.aload_n 0, 1) := by decide +kernel
theorem dX11_extend_62 : decode cX11_extend 62 = .ok (.getfield 12, 3) := by decide +kernel
theorem dX11_extend_65 : decode cX11_extend 65 = .ok (.getfield 79, 3) := by decide +kernel
theorem dX11_extend_68 : decode cX11_extend 68 = .ok (.getfield 158, 3) := by decide +kernel
theorem dX11_extend_71 : decode cX11_extend 71 = .ok (.iload_n 1, 1) := by decide +kernel
theorem dX11_extend_72 : decode cX11_extend 72 = .ok (.dup2, 1) := by decide +kernel
theorem dX11_extend_73 : decode cX11_extend 73 = .ok (.iaload, 1) := by decide +kernel
theorem dX11_extend_74 : decode cX11_extend 74 = .ok (.iload_n 2, 1) := by decide +kernel
theorem dX11_extend_75 : decode cX11_extend 75 = .ok (.iadd, 1) := by decide +kernel
theorem dX11_extend_76 : decode cX11_extend 76 = .ok (.iastore, 1) := by decide +kernel
theorem dX11_extend_77 : decode cX11_extend 77 = .ok (.aload_n 0, 1) := by decide +kernel
theorem dX11_extend_78 : decode cX11_extend 78 = .ok (.getfield 12, 3) := by decide +kernel
theorem dX11_extend_81 : decode cX11_extend 81 = .ok (.iload_n 1, 1) := by decide +kernel
theorem dX11_extend_82 : decode cX11_extend 82 = .ok (.invokevirtual 161, 3) := by decide +kernel
theorem dX11_extend_85 : decode cX11_extend 85 = .ok (.ireturn, 1) := by decide +kernel
theorem dX11_addScent_0 : decode cX11_addScent 0 = .ok (.aload_n 0, 1) := by decide +kernel
theorem dX11_addScent_1 : decode cX11_addScent 1 = .ok (.iload_n 1, 1) := by decide +kernel
theorem dX11_addScent_2 : decode cX11_addScent 2 = .ok (.invokevirtual 151, 3) := by decide +kernel
theorem dX11_addScent_5 : decode cX11_addScent 5 = .ok (.aload_n 0, 1) := by decide +kernel
theorem dX11_addScent_6 : decode cX11_addScent 6 = .ok (.iload_n 2, 1) := by decide +kernel
theorem dX11_addScent_7 : decode cX11_addScent 7 = .ok (.invokevirtual 88, 3) := by decide +kernel
theorem dX11_addScent_10 : decode cX11_addScent 10 = .ok (.aload_n 0, 1) := by decide +kernel
theorem dX11_addScent_11 : decode cX11_addScent 11 = .ok (.getfield 12, 3) := by decide +kernel
theorem dX11_addScent_14 : decode cX11_addScent 14 = .ok (.iload_n 1, 1) := by decide +kernel
theorem dX11_addScent_15 : decode cX11_addScent 15 = .ok (.invokevirtual 154, 3) := by decide +kernel
theorem dX11_addScent_18 : decode cX11_addScent 18 = .ok (.invokestatic 114, 3) := by decide +kernel
theorem dX11_addScent_21 : decode cX11_addScent 21 = .ok (.aload_n 0, 1) := by decide +kernel
theorem dX11_addScent_22 : decode cX11_addScent 22 = .ok (.getfield 12, 3) := by decide +kernel
theorem dX11_addScent_25 : decode cX11_addScent 25 = .ok (.getfield 79, 3) := by decide +kernel
theorem dX11_addScent_28 : decode cX11_addScent 28 = .ok (.iload_n 1, 1) := by decide +kernel
theorem dX11_addScent_29 : decode cX11_addScent 29 = .ok (.iload_n 2, 1) := by decide +kernel
theorem dX11_addScent_30 : decode cX11_addScent 30 = .ok (.invokevirtual 165, 3) := by decide +kernel
theorem dX11_addScent_33 : decode cX11_addScent 33 = .ok (.ifCond .ne 7, 3) := by decide +kernel
theorem dX11_addScent_36 : decode cX11_addScent 36 = .ok (.iconst 1, 1) := by decide +kernel
theorem dX11_addScent_37 : decode cX11_addScent 37 = .ok (.goto 4, 3) := by decide +kernel
theorem dX11_addScent_40 : decode cX11_addScent 40 = .ok (.iconst 0, 1) := by decide +kernel
theorem dX11_addScent_41 : decode cX11_addScent 41 = .ok (.invokestatic 114, 3) := by decide +kernel
theorem dX11_addScent_44 : decode cX11_addScent 44 = .ok (.aload_n 0, 1) := by decide +kernel
theorem dX11_addScent_45 : decode cX11_addScent 45 = .ok (.getfield 22, 3) := by decide +kernel
theorem dX11_addScent_48 : decode cX11_addScent 48 = .ok (.aload_n 0, 1) := by decide +kernel
theorem dX11_addScent_49 : decode cX11_addScent 49 = .ok (.getfield 12, 3) := by decide +kernel
theorem dX11_addScent_52 : decode cX11_addScent 52 = .ok (.invokevirtual 76, 3) := by decide +kernel
theorem dX11_addScent_55 : decode cX11_addScent 55 = .ok (.aload_n 0, 1) := by decide +kernel
theorem dX11_addScent_56 : decode cX11_addScent 56 = .ok (.getfield 12, 3) := by decide +kernel
theorem dX11_addScent_59 : decode cX11_addScent 59 = .ok (.getfield 79, 3) := by decide +kernel
theorem dX11_addScent_62 : decode cX11_addScent 62 = .ok (.getfield 169, 3) := by decide +kernel
theorem dX11_addScent_65 : decode cX11_addScent 65 = .ok (.iload_n 1, 1) := by decide +kernel
theorem dX11_addScent_66 : decode cX11_addScent 66 = .ok (.dup2, 1) := by decide +kernel
theorem dX11_addScent_67 : decode cX11_addScent 67 = .ok (.iaload, 1) := by decide +kernel
theorem dX11_addScent_68 : decode cX11_addScent 68 = .ok (.iconst 1, 1) := by decide +kernel
theorem dX11_addScent_69 : decode cX11_addScent 69 = .ok (.iload_n 2, 1) := by decide +kernel
theorem dX11_addScent_70 : decode cX11_addScent 70 = .ok (.ishl, 1) := by decide +kernel
theorem dX11_addScent_71 : decode cX11_addScent 71 = .ok (.ior, 1) := by decide +kernel
theorem dX11_addScent_72 : decode cX11_addScent 72 = .ok (.iastore, 1) := by decide +kernel
theorem dX11_addScent_73 : decode cX11_addScent 73 = .ok (.aload_n 0, 1) := by decide +kernel
theorem dX11_addScent_74 : decode cX11_addScent 74 = .ok (.getfield 12, 3) := by decide +kernel
theorem dX11_addScent_77 : decode cX11_addScent 77 = .ok (.iload_n 1, 1) := by decide +kernel
theorem dX11_addScent_78 : decode cX11_addScent 78 = .ok (.invokevirtual 161, 3) := by decide +kernel
theorem dX11_addScent_81 : decode cX11_addScent 81 = .ok (.ireturn, 1) := by decide +kernel
theorem dX11_reportLost_0 : decode cX11_reportLost 0 = .ok (.aload_n 0, 1) := by decide +kernel
theorem dX11_reportLost_1 : decode cX11_reportLost 1 = .ok (.iload_n 1, 1) := by decide +kernel
theorem dX11_reportLost_2 : decode cX11_reportLost 2 = .ok (.invokevirtual 151, 3) := by decide +kernel
theorem dX11_reportLost_5 : decode cX11_reportLost 5 = .ok (.aload_n 0, 1) := by decide +kernel
theorem dX11_reportLost_6 : decode cX11_reportLost 6 = .ok (.getfield 12, 3) := by decide +kernel
theorem dX11_reportLost_9 : decode cX11_reportLost 9 = .ok (.getfield 79, 3) := by decide +kernel
theorem dX11_reportLost_12 : decode cX11_reportLost 12 = .ok (.iload_n 1, 1) := by decide +kernel
theorem dX11_reportLost_13 : decode cX11_reportLost 13 = .ok (.invokevirtual 172, 3) := by decide +kernel
theorem dX11_reportLost_16 : decode cX11_reportLost 16 = .ok (.invokestatic 114, 3) := by decide +kernel
theorem dX11_reportLost_19 : decode cX11_reportLost 19 = .ok (.aload_n 0, 1) := by decide +kernel
theorem dX11_reportLost_20 : decode cX11_reportLost 20 = .ok (.getfield 22, 3) := by decide +kernel
theorem dX11_reportLost_23 : decode cX11_reportLost 23 = .ok (.aload_n 0, 1) := by decide +kernel
theorem dX11_reportLost_24 : decode cX11_reportLost 24 = .ok (.getfield 12, 3) := by decide +kernel
theorem dX11_reportLost_27 : decode cX11_reportLost 27 = .ok (.invokevirtual 76, 3) := by decide +kernel
theorem dX11_reportLost_30 : decode cX11_reportLost 30 = .ok (.aload_n 0, 1) := by decide +kernel
theorem dX11_reportLost_31 : decode cX11_reportLost 31 = .ok (.getfield 12, 3) := by decide +kernel
theorem dX11_reportLost_34 : decode cX11_reportLost 34 = .ok (.iload_n 1, 1) := by decide +kernel
theorem dX11_reportLost_35 : decode cX11_reportLost 35 = .ok (.invokevirtual 175, 3) := by decide +kernel
theorem dX11_reportLost_38 : decode cX11_reportLost 38 = .ok (.ireturn, 1) := by decide +kernel
theorem dX11_replaceCard_0 : decode cX11_replaceCard 0 = .ok (.aload_n 0, 1) := by decide +kernel
theorem dX11_replaceCard_1 : decode cX11_replaceCard 1 = .ok (.iload_n 1, 1) := by decide +kernel
theorem dX11_replaceCard_2 : decode cX11_replaceCard 2 = .ok (.invokevirtual 151, 3) := by decide +kernel
theorem dX11_replaceCard_5 : decode cX11_replaceCard 5 = .ok (.aload_n 0, 1) := by decide +kernel
theorem dX11_replaceCard_6 : decode cX11_replaceCard 6 = .ok (.getfield 12, 3) := by decide +kernel
theorem dX11_replaceCard_9 : decode cX11_replaceCard 9 = .ok (.iload_n 1, 1) := by decide +kernel
theorem dX11_replaceCard_10 : decode cX11_replaceCard 10 = .ok (.invokevirtual 178, 3) := by decide +kernel
theorem dX11_replaceCard_13 : decode cX11_replaceCard 13 = .ok (.invokestatic 114, 3) := by decide +kernel
theorem dX11_replaceCard_16 : decode cX11_replaceCard 16 = .ok (.aload_n 0, 1) := by decide +kernel
theorem dX11_replaceCard_17 : decode cX11_replaceCard 17 = .ok (.getfield 22, 3) := by decide +kernel
theorem dX11_replaceCard_20 : decode cX11_replaceCard 20 = .ok (.aload_n 0, 1) := by decide +kernel
theorem dX11_replaceCard_21 : decode cX11_replaceCard 21 = .ok (.getfield 12, 3) := by decide +kernel
theorem dX11_replaceCard_24 : decode cX11_replaceCard 24 = .ok (.invokevirtual 76, 3) := by decide +kernel
theorem dX11_replaceCard_27 : decode cX11_replaceCard 27 = .ok (.aload_n 0, 1) := by decide +kernel
theorem dX11_replaceCard_28 : decode cX11_replaceCard 28 = .ok (.getfield 12, 3) := by decide +kernel
theorem dX11_replaceCard_31 : decode cX11_replaceCard 31 = .ok (.iload_n 1, 1) := by decide +kernel
theorem dX11_replaceCard_32 : decode cX11_replaceCard 32 = .ok (.invokevirtual 181, 3) := by decide +kernel
theorem dX11_replaceCard_35 : decode cX11_replaceCard 35 = .ok (.ireturn, 1) := by decide +kernel
theorem dX11_refundPass_0 : decode cX11_refundPass 0 = .ok (.aload_n 0, 1) := by decide +kernel
theorem dX11_refundPass_1 : decode cX11_refundPass 1 = .ok (.iload_n 1, 1) := by decide +kernel
theorem dX11_refundPass_2 : decode cX11_refundPass 2 = .ok (.invokevirtual 151, 3) := by decide +kernel
theorem dX11_refundPass_5 : decode cX11_refundPass 5 = .ok (.aload_n 0, 1) := by decide +kernel
theorem dX11_refundPass_6 : decode cX11_refundPass 6 = .ok (.getfield 12, 3) := by decide +kernel
theorem dX11_refundPass_9 : decode cX11_refundPass 9 = .ok (.getfield 79, 3) := by decide +kernel
theorem dX11_refundPass_12 : decode cX11_refundPass 12 = .ok (.getfield 184, 3) := by decide +kernel
theorem dX11_refundPass_15 : decode cX11_refundPass 15 = .ok (.iload_n 1, 1) := by decide +kernel
theorem dX11_refundPass_16 : decode cX11_refundPass 16 = .ok (.baload, 1) := by decide +kernel
theorem dX11_refundPass_17 : decode cX11_refundPass 17 = .ok (.ifCond .ne 7, 3) := by decide +kernel
theorem dX11_refundPass_20 : decode cX11_refundPass 20 = .ok (.iconst 1, 1) := by decide +kernel
theorem dX11_refundPass_21 : decode cX11_refundPass 21 = .ok (.goto 4, 3) := by decide +kernel
theorem dX11_refundPass_24 : decode cX11_refundPass 24 = .ok (.iconst 0, 1) := by decide +kernel
theorem dX11_refundPass_25 : decode cX11_refundPass 25 = .ok (.invokestatic 114, 3) := by decide +kernel
theorem dX11_refundPass_28 : decode cX11_refundPass 28 = .ok (.aload_n 0, 1) := by decide +kernel
theorem dX11_refundPass_29 : decode cX11_refundPass 29 = .ok (.getfield 22, 3) := by decide +kernel
theorem dX11_refundPass_32 : decode cX11_refundPass 32 = .ok (.aload_n 0, 1) := by decide +kernel
theorem dX11_refundPass_33 : decode cX11_refundPass 33 = .ok (.getfield 12, 3) := by decide +kernel
theorem dX11_refundPass_36 : decode cX11_refundPass 36 = .ok (.invokevirtual 76, 3) := by decide +kernel
theorem dX11_refundPass_39 : decode cX11_refundPass 39 = .ok (.aload_n 0, 1) := by decide +kernel
theorem dX11_refundPass_40 : decode cX11_refundPass 40 = .ok (.getfield 12, 3) := by decide +kernel
theorem dX11_refundPass_43 : decode cX11_refundPass 43 = .ok (.iload_n 1, 1) := by decide +kernel
theorem dX11_refundPass_44 : decode cX11_refundPass 44 = .ok (.invokevirtual 188, 3) := by decide +kernel
theorem dX11_refundPass_47 : decode cX11_refundPass 47 = .ok (.ireturn, 1) := by decide +kernel
theorem dX11_visit_0 : decode cX11_visit 0 = .ok (.aload_n 0, 1) := by decide +kernel
theorem dX11_visit_1 : decode cX11_visit 1 = .ok (.iload_n 1, 1) := by decide +kernel
theorem dX11_visit_2 : decode cX11_visit 2 = .ok (.invokevirtual 191, 3) := by decide +kernel
theorem dX11_visit_5 : decode cX11_visit 5 = .ok (.aload_n 0, 1) := by decide +kernel
theorem dX11_visit_6 : decode cX11_visit 6 = .ok (.iload_n 2, 1) := by decide +kernel
theorem dX11_visit_7 : decode cX11_visit 7 = .ok (.invokevirtual 194, 3) := by decide +kernel
theorem dX11_visit_10 : decode cX11_visit 10 = .ok (.aload_n 0, 1) := by decide +kernel
theorem dX11_visit_11 : decode cX11_visit 11 = .ok (.getfield 22, 3) := by decide +kernel
theorem dX11_visit_14 : decode cX11_visit 14 = .ok (.aload_n 0, 1) := by decide +kernel
theorem dX11_visit_15 : decode cX11_visit 15 = .ok (.getfield 12, 3) := by decide +kernel
theorem dX11_visit_18 : decode cX11_visit 18 = .ok (.invokevirtual 76, 3) := by decide +kernel
theorem dX11_visit_21 : decode cX11_visit 21 = .ok (.aload_n 0, 1) := by decide +kernel
theorem dX11_visit_22 : decode cX11_visit 22 = .ok (.getfield 12, 3) := by decide +kernel
theorem dX11_visit_25 : decode cX11_visit 25 = .ok (.iload_n 1, 1) := by decide +kernel
theorem dX11_visit_26 : decode cX11_visit 26 = .ok (.iload_n 2, 1) := by decide +kernel
theorem dX11_visit_27 : decode cX11_visit 27 = .ok (.invokevirtual 197, 3) := by decide +kernel
theorem dX11_visit_30 : decode cX11_visit 30 = .ok (.ireturn, 1) := by decide +kernel
theorem dX11_pluck_0 : decode cX11_pluck 0 = .ok (.aload_n 0, 1) := by decide +kernel
theorem dX11_pluck_1 : decode cX11_pluck 1 = .ok (.iload_n 1, 1) := by decide +kernel
theorem dX11_pluck_2 : decode cX11_pluck 2 = .ok (.invokevirtual 191, 3) := by decide +kernel
theorem dX11_pluck_5 : decode cX11_pluck 5 = .ok (.iload_n 2, 1) := by decide +kernel
theorem dX11_pluck_6 : decode cX11_pluck 6 = .ok (.iconst 1, 1) := by decide +kernel
theorem dX11_pluck_7 : decode cX11_pluck 7 = .ok (.bipush 9, 2) := by decide +kernel
theorem dX11_pluck_9 : decode cX11_pluck 9 = .ok (.invokestatic 69, 3) := by decide +kernel
theorem dX11_pluck_12 : decode cX11_pluck 12 = .ok (.aload_n 0, 1) := by decide +kernel
theorem dX11_pluck_13 : decode cX11_pluck 13 = .ok (.getfield 12, 3) := by decide +kernel
theorem dX11_pluck_16 : decode cX11_pluck 16 = .ok (.iload_n 1, 1) := by decide +kernel
theorem dX11_pluck_17 : decode cX11_pluck 17 = .ok (.iload_n 2, 1) := by decide +kernel
theorem dX11_pluck_18 : decode cX11_pluck 18 = .ok (.invokevirtual 201, 3) := by decide +kernel
theorem dX11_pluck_21 : decode cX11_pluck 21 = .ok (.invokestatic 114, 3) := by decide +kernel
theorem dX11_pluck_24 : decode cX11_pluck 24 = .ok (.aload_n 0, 1) := by decide +kernel
theorem dX11_pluck_25 : decode cX11_pluck 25 = .ok (.getfield 22, 3) := by decide +kernel
theorem dX11_pluck_28 : decode cX11_pluck 28 = .ok (.aload_n 0, 1) := by decide +kernel
theorem dX11_pluck_29 : decode cX11_pluck 29 = .ok (.getfield 12, 3) := by decide +kernel
theorem dX11_pluck_32 : decode cX11_pluck 32 = .ok (.invokevirtual 76, 3) := by decide +kernel
theorem dX11_pluck_35 : decode cX11_pluck 35 = .ok (.aload_n 0, 1) := by decide +kernel
theorem dX11_pluck_36 : decode cX11_pluck 36 = .ok (.getfield 12, 3) := by decide +kernel
theorem dX11_pluck_39 : decode cX11_pluck 39 = .ok (.iload_n 1, 1) := by decide +kernel
theorem dX11_pluck_40 : decode cX11_pluck 40 = .ok (.iload_n 2, 1) := by decide +kernel
theorem dX11_pluck_41 : decode cX11_pluck 41 = .ok (.invokevirtual 204, 3) := by decide +kernel
theorem dX11_pluck_44 : decode cX11_pluck 44 = .ok (.ireturn, 1) := by decide +kernel
theorem dX11_payFines_0 : decode cX11_payFines 0 = .ok (.aload_n 0, 1) := by decide +kernel
theorem dX11_payFines_1 : decode cX11_payFines 1 = .ok (.iload_n 1, 1) := by decide +kernel
theorem dX11_payFines_2 : decode cX11_payFines 2 = .ok (.invokevirtual 151, 3) := by decide +kernel
theorem dX11_payFines_5 : decode cX11_payFines 5 = .ok (.iload_n 2, 1) := by decide +kernel
theorem dX11_payFines_6 : decode cX11_payFines 6 = .ok (.iconst 1, 1) := by decide +kernel
theorem dX11_payFines_7 : decode cX11_payFines 7 = .ok (.sipush 9999, 3) := by decide +kernel
theorem dX11_payFines_10 : decode cX11_payFines 10 = .ok (.invokestatic 69, 3) := by decide +kernel
theorem dX11_payFines_13 : decode cX11_payFines 13 = .ok (.aload_n 0, 1) := by decide +kernel
theorem dX11_payFines_14 : decode cX11_payFines 14 = .ok (.getfield 12, 3) := by decide +kernel
theorem dX11_payFines_17 : decode cX11_payFines 17 = .ok (.getfield 79, 3) := by decide +kernel
theorem dX11_payFines_20 : decode cX11_payFines 20 = .ok (.getfield 207, 3) := by decide +kernel
theorem dX11_payFines_23 : decode cX11_payFines 23 = .ok (.iload_n 1, 1) := by decide +kernel
theorem dX11_payFines_24 : decode cX11_payFines 24 = .ok (.iaload, 1) := by decide +kernel
theorem dX11_payFines_25 : decode cX11_payFines 25 = .ok (.iload_n 2, 1) := by decide +kernel
theorem dX11_payFines_26 : decode cX11_payFines 26 = .ok (.if_icmp .lt 7, 3) := by decide +kernel
theorem dX11_payFines_29 : decode cX11_payFines 29 = .ok (.iconst 1, 1) := by decide +kernel
theorem dX11_payFines_30 : decode cX11_payFines 30 = .ok (.goto 4, 3) := by decide +kernel
theorem dX11_payFines_33 : decode cX11_payFines 33 = .ok (.iconst 0, 1) := by decide +kernel
theorem dX11_payFines_34 : decode cX11_payFines 34 = .ok (.invokestatic 114, 3) := by decide +kernel
theorem dX11_payFines_37 : decode cX11_payFines 37 = .ok (.aload_n 0, 1) := by decide +kernel
theorem dX11_payFines_38 : decode cX11_payFines 38 = .ok (.getfield 22, 3) := by decide +kernel
theorem dX11_payFines_41 : decode cX11_payFines 41 = .ok (.aload_n 0, 1) := by decide +kernel
theorem dX11_payFines_42 : decode cX11_payFines 42 = .ok (.getfield 12, 3) := by decide +kernel
theorem dX11_payFines_45 : decode cX11_payFines 45 = .ok (.invokevirtual 76, 3) := by decide +kernel
theorem dX11_payFines_48 : decode cX11_payFines 48 = .ok (.aload_n 0, 1) := by decide +kernel
theorem dX11_payFines_49 : decode cX11_payFines 49 = .ok (.getfield 12, 3) := by decide +kernel
theorem dX11_payFines_52 : decode cX11_payFines 52 = .ok (.iload_n 1, 1) := by decide +kernel
theorem dX11_payFines_53 : decode cX11_payFines 53 = .ok (.iload_n 2, 1) := by decide +kernel
theorem dX11_payFines_54 : decode cX11_payFines 54 = .ok (.invokevirtual 210, 3) := by decide +kernel
theorem dX11_payFines_57 : decode cX11_payFines 57 = .ok (.aload_n 0, 1) := by decide +kernel
theorem dX11_payFines_58 : decode cX11_payFines 58 = .ok (.getfield 12, 3) := by decide +kernel
theorem dX11_payFines_61 : decode cX11_payFines 61 = .ok (.getfield 79, 3) := by decide +kernel
theorem dX11_payFines_64 : decode cX11_payFines 64 = .ok (.getfield 207, 3) := by decide +kernel
theorem dX11_payFines_67 : decode cX11_payFines 67 = .ok (.iload_n 1, 1) := by decide +kernel
theorem dX11_payFines_68 : decode cX11_payFines 68 = .ok (.iaload, 1) := by decide +kernel
theorem dX11_payFines_69 : decode cX11_payFines 69 = .ok (.ireturn, 1) := by decide +kernel
theorem dX11_pass_0 : decode cX11_pass 0 = .ok (.iload_n 1, 1) := by decide +kernel
theorem dX11_pass_1 : decode cX11_pass 1 = .ok (.iconst 1, 1) := by decide +kernel
theorem dX11_pass_2 : decode cX11_pass 2 = .ok (.sipush 500, 3) := by decide +kernel
theorem dX11_pass_5 : decode cX11_pass 5 = .ok (.invokestatic 69, 3) := by decide +kernel
theorem dX11_pass_8 : decode cX11_pass 8 = .ok (.aload_n 0, 1) := by decide +kernel
theorem dX11_pass_9 : decode cX11_pass 9 = .ok (.getfield 12, 3) := by decide +kernel
theorem dX11_pass_12 : decode cX11_pass 12 = .ok (.getfield 122, 3) := by decide +kernel
theorem dX11_pass_15 : decode cX11_pass 15 = .ok (.iload_n 1, 1) := by decide +kernel
theorem dX11_pass_16 : decode cX11_pass 16 = .ok (.invokevirtual 213, 3) := by decide +kernel
theorem dX11_pass_19 : decode cX11_pass 19 = .ok (.invokestatic 114, 3) := by decide +kernel
theorem dX11_pass_22 : decode cX11_pass 22 = .ok (.aload_n 0, 1) := by decide +kernel
theorem dX11_pass_23 : decode cX11_pass 23 = .ok (.getfield 22, 3) := by decide +kernel
theorem dX11_pass_26 : decode cX11_pass 26 = .ok (.aload_n 0, 1) := by decide +kernel
theorem dX11_pass_27 : decode cX11_pass 27 = .ok (.getfield 12, 3) := by decide +kernel
theorem dX11_pass_30 : decode cX11_pass 30 = .ok (.invokevirtual 76, 3) := by decide +kernel
theorem dX11_pass_33 : decode cX11_pass 33 = .ok (.aload_n 0, 1) := by decide +kernel
theorem dX11_pass_34 : decode cX11_pass 34 = .ok (.getfield 12, 3) := by decide +kernel
theorem dX11_pass_37 : decode cX11_pass 37 = .ok (.iload_n 1, 1) := by decide +kernel
theorem dX11_pass_38 : decode cX11_pass 38 = .ok (.invokevirtual 216, 3) := by decide +kernel
theorem dX11_pass_41 : decode cX11_pass 41 = .ok (.aload_n 0, 1) := by decide +kernel
theorem dX11_pass_42 : decode cX11_pass 42 = .ok (.getfield 12, 3) := by decide +kernel
theorem dX11_pass_45 : decode cX11_pass 45 = .ok (.getfield 122, 3) := by decide +kernel
theorem dX11_pass_48 : decode cX11_pass 48 = .ok (.getfield 219, 3) := by decide +kernel
theorem dX11_pass_51 : decode cX11_pass 51 = .ok (.ireturn, 1) := by decide +kernel
theorem dX11_undo_0 : decode cX11_undo 0 = .ok (.aload_n 0, 1) := by decide +kernel
theorem dX11_undo_1 : decode cX11_undo 1 = .ok (.getfield 22, 3) := by decide +kernel
theorem dX11_undo_4 : decode cX11_undo 4 = .ok (.getfield 222, 3) := by decide +kernel
theorem dX11_undo_7 : decode cX11_undo 7 = .ok (.ifCond .ne 5, 3) := by decide +kernel
theorem dX11_undo_10 : decode cX11_undo 10 = .ok (.iconst (-1), 1) := by decide +kernel
theorem dX11_undo_11 : decode cX11_undo 11 = .ok (.ireturn, 1) := by decide +kernel
theorem dX11_undo_12 : decode cX11_undo 12 = .ok (.aload_n 0, 1) := by decide +kernel
theorem dX11_undo_13 : decode cX11_undo 13 = .ok (.getfield 22, 3) := by decide +kernel
theorem dX11_undo_16 : decode cX11_undo 16 = .ok (.aload_n 0, 1) := by decide +kernel
theorem dX11_undo_17 : decode cX11_undo 17 = .ok (.getfield 12, 3) := by decide +kernel
theorem dX11_undo_20 : decode cX11_undo 20 = .ok (.invokevirtual 223, 3) := by decide +kernel
theorem dX11_undo_23 : decode cX11_undo 23 = .ok (.aload_n 0, 1) := by decide +kernel
theorem dX11_undo_24 : decode cX11_undo 24 = .ok (.getfield 22, 3) := by decide +kernel
theorem dX11_undo_27 : decode cX11_undo 27 = .ok (.getfield 222, 3) := by decide +kernel
theorem dX11_undo_30 : decode cX11_undo 30 = .ok (.ireturn, 1) := by decide +kernel
theorem dX11_undoCount_0 : decode cX11_undoCount 0 = .ok (.aload_n 0, 1) := by decide +kernel
theorem dX11_undoCount_1 : decode cX11_undoCount 1 = .ok (.getfield 22, 3) := by decide +kernel
theorem dX11_undoCount_4 : decode cX11_undoCount 4 = .ok (.getfield 222, 3) := by decide +kernel
theorem dX11_undoCount_7 : decode cX11_undoCount 7 = .ok (.ireturn, 1) := by decide +kernel
theorem dX11_saveSnapshot_0 : decode cX11_saveSnapshot 0 = .ok (.aload_n 0, 1) := by decide +kernel
theorem dX11_saveSnapshot_1 : decode cX11_saveSnapshot 1 = .ok (.getfield 16, 3) := by decide +kernel
theorem dX11_saveSnapshot_4 : decode cX11_saveSnapshot 4 = .ok (.aload_n 0, 1) := by decide +kernel
theorem dX11_saveSnapshot_5 : decode cX11_saveSnapshot 5 = .ok (.getfield 12, 3) := by decide +kernel
theorem dX11_saveSnapshot_8 : decode cX11_saveSnapshot 8 = .ok (.invokevirtual 61, 3) := by decide +kernel
theorem dX11_saveSnapshot_11 : decode cX11_saveSnapshot 11 = .ok (.aload_n 0, 1) := by decide +kernel
theorem dX11_saveSnapshot_12 : decode cX11_saveSnapshot 12 = .ok (.iconst 1, 1) := by decide +kernel
theorem dX11_saveSnapshot_13 : decode cX11_saveSnapshot 13 = .ok (.putfield 226, 3) := by decide +kernel
theorem dX11_saveSnapshot_16 : decode cX11_saveSnapshot 16 = .ok (.aload_n 0, 1) := by decide +kernel
theorem dX11_saveSnapshot_17 : decode cX11_saveSnapshot 17 = .ok (.getfield 12, 3) := by decide +kernel
theorem dX11_saveSnapshot_20 : decode cX11_saveSnapshot 20 = .ok (.getfield 122, 3) := by decide +kernel
theorem dX11_saveSnapshot_23 : decode cX11_saveSnapshot 23 = .ok (.getfield 219, 3) := by decide +kernel
theorem dX11_saveSnapshot_26 : decode cX11_saveSnapshot 26 = .ok (.ireturn, 1) := by decide +kernel
theorem dX11_restoreSnapshot_0 : decode cX11_restoreSnapshot 0 = .ok (.aload_n 0, 1) := by decide +kernel
theorem dX11_restoreSnapshot_1 : decode cX11_restoreSnapshot 1 = .ok (.getfield 226, 3) := by decide +kernel
theorem dX11_restoreSnapshot_4 : decode cX11_restoreSnapshot 4 = .ok (.ifCond .ne 13, 3) := by decide +kernel
theorem dX11_restoreSnapshot_7 : decode cX11_restoreSnapshot 7 = .ok (.new 230, 3) := by decide +kernel
theorem dX11_restoreSnapshot_10 : decode cX11_restoreSnapshot 10 = .ok (.dup, 1) := by decide +kernel
theorem dX11_restoreSnapshot_11 : decode cX11_restoreSnapshot 11 = .ok (.ldc 232, 2) := by decide +kernel
theorem dX11_restoreSnapshot_13 : decode cX11_restoreSnapshot 13 = .ok (.invokespecial 234, 3) := by decide +kernel
theorem dX11_restoreSnapshot_16 : decode cX11_restoreSnapshot 16 = .ok (.athrow, 1) := by decide +kernel
theorem dX11_restoreSnapshot_17 : decode cX11_restoreSnapshot 17 = .ok (.aload_n 0, 1) := by decide +kernel
theorem dX11_restoreSnapshot_18 : decode cX11_restoreSnapshot 18 = .ok (.getfield 12, 3) := by decide +kernel
theorem dX11_restoreSnapshot_21 : decode cX11_restoreSnapshot 21 = .ok (.aload_n 0, 1) := by decide +kernel
theorem dX11_restoreSnapshot_22 : decode cX11_restoreSnapshot 22 = .ok (.getfield 16, 3) := by decide +kernel
theorem dX11_restoreSnapshot_25 : decode cX11_restoreSnapshot 25 = .ok (.invokevirtual 61, 3) := by decide +kernel
theorem dX11_restoreSnapshot_28 : decode cX11_restoreSnapshot 28 = .ok (.aload_n 0, 1) := by decide +kernel
theorem dX11_restoreSnapshot_29 : decode cX11_restoreSnapshot 29 = .ok (.getfield 22, 3) := by decide +kernel
theorem dX11_restoreSnapshot_32 : decode cX11_restoreSnapshot 32 = .ok (.invokevirtual 236, 3) := by decide +kernel
theorem dX11_restoreSnapshot_35 : decode cX11_restoreSnapshot 35 = .ok (.aload_n 0, 1) := by decide +kernel
theorem dX11_restoreSnapshot_36 : decode cX11_restoreSnapshot 36 = .ok (.getfield 12, 3) := by decide +kernel
theorem dX11_restoreSnapshot_39 : decode cX11_restoreSnapshot 39 = .ok (.getfield 122, 3) := by decide +kernel
theorem dX11_restoreSnapshot_42 : decode cX11_restoreSnapshot 42 = .ok (.getfield 219, 3) := by decide +kernel
theorem dX11_restoreSnapshot_45 : decode cX11_restoreSnapshot 45 = .ok (.ireturn, 1) := by decide +kernel
theorem dX11_scriptErrorKind_0 : decode cX11_scriptErrorKind 0 = .ok (.aload_n 0, 1) := by decide +kernel
theorem dX11_scriptErrorKind_1 : decode cX11_scriptErrorKind 1 = .ok (.getfield 29, 3) := by decide +kernel
theorem dX11_scriptErrorKind_4 : decode cX11_scriptErrorKind 4 = .ok (.getfield 73, 3) := by decide +kernel
theorem dX11_scriptErrorKind_7 : decode cX11_scriptErrorKind 7 = .ok (.ireturn, 1) := by decide +kernel
theorem dX11_scriptErrorOffset_0 : decode cX11_scriptErrorOffset 0 = .ok (.aload_n 0, 1) := by decide +kernel
theorem dX11_scriptErrorOffset_1 : decode cX11_scriptErrorOffset 1 = .ok (.getfield 29, 3) := by decide +kernel
theorem dX11_scriptErrorOffset_4 : decode cX11_scriptErrorOffset 4 = .ok (.getfield 239, 3) := by decide +kernel
theorem dX11_scriptErrorOffset_7 : decode cX11_scriptErrorOffset 7 = .ok (.ireturn, 1) := by decide +kernel
theorem dX11_time_0 : decode cX11_time 0 = .ok (.aload_n 0, 1) := by decide +kernel
theorem dX11_time_1 : decode cX11_time 1 = .ok (.getfield 12, 3) := by decide +kernel
theorem dX11_time_4 : decode cX11_time 4 = .ok (.getfield 122, 3) := by decide +kernel
theorem dX11_time_7 : decode cX11_time 7 = .ok (.getfield 219, 3) := by decide +kernel
theorem dX11_time_10 : decode cX11_time 10 = .ok (.ireturn, 1) := by decide +kernel
theorem dX11_day_0 : decode cX11_day 0 = .ok (.aload_n 0, 1) := by decide +kernel
theorem dX11_day_1 : decode cX11_day 1 = .ok (.getfield 12, 3) := by decide +kernel
theorem dX11_day_4 : decode cX11_day 4 = .ok (.getfield 122, 3) := by decide +kernel
theorem dX11_day_7 : decode cX11_day 7 = .ok (.invokevirtual 142, 3) := by decide +kernel
theorem dX11_day_10 : decode cX11_day 10 = .ok (.ireturn, 1) := by decide +kernel
theorem dX11_isOpen_0 : decode cX11_isOpen 0 = .ok (.aload_n 0, 1) := by decide +kernel
theorem dX11_isOpen_1 : decode cX11_isOpen 1 = .ok (.getfield 12, 3) := by decide +kernel
theorem dX11_isOpen_4 : decode cX11_isOpen 4 = .ok (.getfield 122, 3) := by decide +kernel
theorem dX11_isOpen_7 : decode cX11_isOpen 7 = .ok (.aload_n 0, 1) := by decide +kernel
theorem dX11_isOpen_8 : decode cX11_isOpen 8 = .ok (.getfield 12, 3) := by decide +kernel
theorem dX11_isOpen_11 : decode cX11_isOpen 11 = .ok (.getfield 122, 3) := by decide +kernel
theorem dX11_isOpen_14 : decode cX11_isOpen 14 = .ok (.invokevirtual 242, 3) := by decide +kernel
theorem dX11_isOpen_17 : decode cX11_isOpen 17 = .ok (.invokevirtual 245, 3) := by decide +kernel
theorem dX11_isOpen_20 : decode cX11_isOpen 20 = .ok (.ireturn, 1) := by decide +kernel
theorem dX11_ticksUntilOpen_0 : decode cX11_ticksUntilOpen 0 = .ok (.aload_n 0, 1) := by decide +kernel
theorem dX11_ticksUntilOpen_1 : decode cX11_ticksUntilOpen 1 = .ok (.getfield 12, 3) := by decide +kernel
theorem dX11_ticksUntilOpen_4 : decode cX11_ticksUntilOpen 4 = .ok (.getfield 122, 3) := by decide +kernel
theorem dX11_ticksUntilOpen_7 : decode cX11_ticksUntilOpen 7 = .ok (.invokevirtual 248, 3) := by decide +kernel
theorem dX11_ticksUntilOpen_10 : decode cX11_ticksUntilOpen 10 = .ok (.ireturn, 1) := by decide +kernel
theorem dX11_bedCount_0 : decode cX11_bedCount 0 = .ok (.aload_n 0, 1) := by decide +kernel
theorem dX11_bedCount_1 : decode cX11_bedCount 1 = .ok (.getfield 12, 3) := by decide +kernel
theorem dX11_bedCount_4 : decode cX11_bedCount 4 = .ok (.getfield 104, 3) := by decide +kernel
theorem dX11_bedCount_7 : decode cX11_bedCount 7 = .ok (.getfield 251, 3) := by decide +kernel
theorem dX11_bedCount_10 : decode cX11_bedCount 10 = .ok (.ireturn, 1) := by decide +kernel
theorem dX11_scentOf_0 : decode cX11_scentOf 0 = .ok (.aload_n 0, 1) := by decide +kernel
theorem dX11_scentOf_1 : decode cX11_scentOf 1 = .ok (.iload_n 1, 1) := by decide +kernel
theorem dX11_scentOf_2 : decode cX11_scentOf 2 = .ok (.invokevirtual 194, 3) := by decide +kernel
theorem dX11_scentOf_5 : decode cX11_scentOf 5 = .ok (.aload_n 0, 1) := by decide +kernel
theorem dX11_scentOf_6 : decode cX11_scentOf 6 = .ok (.getfield 12, 3) := by decide +kernel
theorem dX11_scentOf_9 : decode cX11_scentOf 9 = .ok (.getfield 104, 3) := by decide +kernel
theorem dX11_scentOf_12 : decode cX11_scentOf 12 = .ok (.getfield 252, 3) := by decide +kernel
theorem dX11_scentOf_15 : decode cX11_scentOf 15 = .ok (.iload_n 1, 1) := by decide +kernel
theorem dX11_scentOf_16 : decode cX11_scentOf 16 = .ok (.iaload, 1) := by decide +kernel
theorem dX11_scentOf_17 : decode cX11_scentOf 17 = .ok (.ireturn, 1) := by decide +kernel
theorem dX11_isInSeason_0 : decode cX11_isInSeason 0 = .ok (.aload_n 0, 1) := by decide +kernel
theorem dX11_isInSeason_1 : decode cX11_isInSeason 1 = .ok (.iload_n 1, 1) := by decide +kernel
theorem dX11_isInSeason_2 : decode cX11_isInSeason 2 = .ok (.invokevirtual 194, 3) := by decide +kernel
theorem dX11_isInSeason_5 : decode cX11_isInSeason 5 = .ok (.aload_n 0, 1) := by decide +kernel
theorem dX11_isInSeason_6 : decode cX11_isInSeason 6 = .ok (.getfield 12, 3) := by decide +kernel
theorem dX11_isInSeason_9 : decode cX11_isInSeason 9 = .ok (.getfield 104, 3) := by decide +kernel
theorem dX11_isInSeason_12 : decode cX11_isInSeason 12 = .ok (.iload_n 1, 1) := by decide +kernel
theorem dX11_isInSeason_13 : decode cX11_isInSeason 13 = .ok (.aload_n 0, 1) := by decide +kernel
theorem dX11_isInSeason_14 : decode cX11_isInSeason 14 = .ok (.getfield 12, 3) := by decide +kernel
theorem dX11_isInSeason_17 : decode cX11_isInSeason 17 = .ok (.getfield 122, 3) := by decide +kernel
theorem dX11_isInSeason_20 : decode cX11_isInSeason 20 = .ok (.invokevirtual 142, 3) := by decide +kernel
theorem dX11_isInSeason_23 : decode cX11_isInSeason 23 = .ok (.invokevirtual 255, 3) := by decide +kernel
theorem dX11_isInSeason_26 : decode cX11_isInSeason 26 = .ok (.ireturn, 1) := by decide +kernel
theorem dX11_blooms_0 : decode cX11_blooms 0 = .ok (.aload_n 0, 1) := by decide +kernel
theorem dX11_blooms_1 : decode cX11_blooms 1 = .ok (.iload_n 1, 1) := by decide +kernel
theorem dX11_blooms_2 : decode cX11_blooms 2 = .ok (.invokevirtual 194, 3) := by decide +kernel
theorem dX11_blooms_5 : decode cX11_blooms 5 = .ok (.aload_n 0, 1) := by decide +kernel
theorem dX11_blooms_6 : decode cX11_blooms 6 = .ok (.getfield 12, 3) := by decide +kernel
theorem dX11_blooms_9 : decode cX11_blooms 9 = .ok (.getfield 104, 3) := by decide +kernel
theorem dX11_blooms_12 : decode cX11_blooms 12 = .ok (.getfield 258, 3) := by decide +kernel
theorem dX11_blooms_15 : decode cX11_blooms 15 = .ok (.iload_n 1, 1) := by decide +kernel
theorem dX11_blooms_16 : decode cX11_blooms 16 = .ok (.iaload, 1) := by decide +kernel
theorem dX11_blooms_17 : decode cX11_blooms 17 = .ok (.ireturn, 1) := by decide +kernel
theorem dX11_placesLeft_0 : decode cX11_placesLeft 0 = .ok (.aload_n 0, 1) := by decide +kernel
theorem dX11_placesLeft_1 : decode cX11_placesLeft 1 = .ok (.iload_n 1, 1) := by decide +kernel
theorem dX11_placesLeft_2 : decode cX11_placesLeft 2 = .ok (.invokevirtual 194, 3) := by decide +kernel
theorem dX11_placesLeft_5 : decode cX11_placesLeft 5 = .ok (.aload_n 0, 1) := by decide +kernel
theorem dX11_placesLeft_6 : decode cX11_placesLeft 6 = .ok (.getfield 12, 3) := by decide +kernel
theorem dX11_placesLeft_9 : decode cX11_placesLeft 9 = .ok (.getfield 104, 3) := by decide +kernel
theorem dX11_placesLeft_12 : decode cX11_placesLeft 12 = .ok (.iload_n 1, 1) := by decide +kernel
theorem dX11_placesLeft_13 : decode cX11_placesLeft 13 = .ok (.invokevirtual 261, 3) := by decide +kernel
theorem dX11_placesLeft_16 : decode cX11_placesLeft 16 = .ok (.ireturn, 1) := by decide +kernel
theorem dX11_visitsTo_0 : decode cX11_visitsTo 0 = .ok (.aload_n 0, 1) := by decide +kernel
theorem dX11_visitsTo_1 : decode cX11_visitsTo 1 = .ok (.iload_n 1, 1) := by decide +kernel
theorem dX11_visitsTo_2 : decode cX11_visitsTo 2 = .ok (.invokevirtual 194, 3) := by decide +kernel
theorem dX11_visitsTo_5 : decode cX11_visitsTo 5 = .ok (.aload_n 0, 1) := by decide +kernel
theorem dX11_visitsTo_6 : decode cX11_visitsTo 6 = .ok (.getfield 12, 3) := by decide +kernel
theorem dX11_visitsTo_9 : decode cX11_visitsTo 9 = .ok (.getfield 104, 3) := by decide +kernel
theorem dX11_visitsTo_12 : decode cX11_visitsTo 12 = .ok (.getfield 264, 3) := by decide +kernel
theorem dX11_visitsTo_15 : decode cX11_visitsTo 15 = .ok (.iload_n 1, 1) := by decide +kernel
theorem dX11_visitsTo_16 : decode cX11_visitsTo 16 = .ok (.iaload, 1) := by decide +kernel
theorem dX11_visitsTo_17 : decode cX11_visitsTo 17 = .ok (.ireturn, 1) := by decide +kernel
theorem dX11_passCount_0 : decode cX11_passCount 0 = .ok (.aload_n 0, 1) := by decide +kernel
theorem dX11_passCount_1 : decode cX11_passCount 1 = .ok (.getfield 12, 3) := by decide +kernel
theorem dX11_passCount_4 : decode cX11_passCount 4 = .ok (.getfield 79, 3) := by decide +kernel
theorem dX11_passCount_7 : decode cX11_passCount 7 = .ok (.getfield 83, 3) := by decide +kernel
theorem dX11_passCount_10 : decode cX11_passCount 10 = .ok (.ireturn, 1) := by decide +kernel
theorem dX11_scentsOf_0 : decode cX11_scentsOf 0 = .ok (.aload_n 0, 1) := by decide +kernel
theorem dX11_scentsOf_1 : decode cX11_scentsOf 1 = .ok (.iload_n 1, 1) := by decide +kernel
theorem dX11_scentsOf_2 : decode cX11_scentsOf 2 = .ok (.invokevirtual 151, 3) := by decide +kernel
theorem dX11_scentsOf_5 : decode cX11_scentsOf 5 = .ok (.aload_n 0, 1) := by decide +kernel
theorem dX11_scentsOf_6 : decode cX11_scentsOf 6 = .ok (.getfield 12, 3) := by decide +kernel
theorem dX11_scentsOf_9 : decode cX11_scentsOf 9 = .ok (.getfield 79, 3) := by decide +kernel
theorem dX11_scentsOf_12 : decode cX11_scentsOf 12 = .ok (.getfield 169, 3) := by decide +kernel
theorem dX11_scentsOf_15 : decode cX11_scentsOf 15 = .ok (.iload_n 1, 1) := by decide +kernel
theorem dX11_scentsOf_16 : decode cX11_scentsOf 16 = .ok (.iaload, 1) := by decide +kernel
theorem dX11_scentsOf_17 : decode cX11_scentsOf 17 = .ok (.ireturn, 1) := by decide +kernel
theorem dX11_firstDay_0 : decode cX11_firstDay 0 = .ok (.aload_n 0, 1) := by decide +kernel
theorem dX11_firstDay_1 : decode cX11_firstDay 1 = .ok (.iload_n 1, 1) := by decide +kernel
theorem dX11_firstDay_2 : decode cX11_firstDay 2 = .ok (.invokevirtual 151, 3) := by decide +kernel
theorem dX11_firstDay_5 : decode cX11_firstDay 5 = .ok (.aload_n 0, 1) := by decide +kernel
theorem dX11_firstDay_6 : decode cX11_firstDay 6 = .ok (.getfield 12, 3) := by decide +kernel
theorem dX11_firstDay_9 : decode cX11_firstDay 9 = .ok (.getfield 79, 3) := by decide +kernel
theorem dX11_firstDay_12 : decode cX11_firstDay 12 = .ok (.getfield 267, 3) := by decide +kernel
theorem dX11_firstDay_15 : decode cX11_firstDay 15 = .ok (.iload_n 1, 1) := by decide +kernel
theorem dX11_firstDay_16 : decode cX11_firstDay 16 = .ok (.iaload, 1) := by decide +kernel
theorem dX11_firstDay_17 : decode cX11_firstDay 17 = .ok (.ireturn, 1) := by decide +kernel
theorem dX11_lastDay_0 : decode cX11_lastDay 0 = .ok (.aload_n 0, 1) := by decide +kernel
theorem dX11_lastDay_1 : decode cX11_lastDay 1 = .ok (.iload_n 1, 1) := by decide +kernel
theorem dX11_lastDay_2 : decode cX11_lastDay 2 = .ok (.invokevirtual 151, 3) := by decide +kernel
theorem dX11_lastDay_5 : decode cX11_lastDay 5 = .ok (.aload_n 0, 1) := by decide +kernel
theorem dX11_lastDay_6 : decode cX11_lastDay 6 = .ok (.getfield 12, 3) := by decide +kernel
theorem dX11_lastDay_9 : decode cX11_lastDay 9 = .ok (.getfield 79, 3) := by decide +kernel
theorem dX11_lastDay_12 : decode cX11_lastDay 12 = .ok (.iload_n 1, 1) := by decide +kernel
theorem dX11_lastDay_13 : decode cX11_lastDay 13 = .ok (.invokevirtual 270, 3) := by decide +kernel
theorem dX11_lastDay_16 : decode cX11_lastDay 16 = .ok (.ireturn, 1) := by decide +kernel
theorem dX11_priceOf_0 : decode cX11_priceOf 0 = .ok (.aload_n 0, 1) := by decide +kernel
theorem dX11_priceOf_1 : decode cX11_priceOf 1 = .ok (.iload_n 1, 1) := by decide +kernel
theorem dX11_priceOf_2 : decode cX11_priceOf 2 = .ok (.invokevirtual 151, 3) := by decide +kernel
theorem dX11_priceOf_5 : decode cX11_priceOf 5 = .ok (.aload_n 0, 1) := by decide +kernel
theorem dX11_priceOf_6 : decode cX11_priceOf 6 = .ok (.getfield 12, 3) := by decide +kernel
theorem dX11_priceOf_9 : decode cX11_priceOf 9 = .ok (.getfield 79, 3) := by decide +kernel
theorem dX11_priceOf_12 : decode cX11_priceOf 12 = .ok (.getfield 273, 3) := by decide +kernel
theorem dX11_priceOf_15 : decode cX11_priceOf 15 = .ok (.iload_n 1, 1) := by decide +kernel
theorem dX11_priceOf_16 : decode cX11_priceOf 16 = .ok (.iaload, 1) := by decide +kernel
theorem dX11_priceOf_17 : decode cX11_priceOf 17 = .ok (.ireturn, 1) := by decide +kernel
theorem dX11_cardOf_0 : decode cX11_cardOf 0 = .ok (.aload_n 0, 1) := by decide +kernel
theorem dX11_cardOf_1 : decode cX11_cardOf 1 = .ok (.iload_n 1, 1) := by decide +kernel
theorem dX11_cardOf_2 : decode cX11_cardOf 2 = .ok (.invokevirtual 151, 3) := by decide +kernel
theorem dX11_cardOf_5 : decode cX11_cardOf 5 = .ok (.aload_n 0, 1) := by decide +kernel
theorem dX11_cardOf_6 : decode cX11_cardOf 6 = .ok (.getfield 12, 3) := by decide +kernel
theorem dX11_cardOf_9 : decode cX11_cardOf 9 = .ok (.getfield 79, 3) := by decide +kernel
theorem dX11_cardOf_12 : decode cX11_cardOf 12 = .ok (.getfield 274, 3) := by decide +kernel
theorem dX11_cardOf_15 : decode cX11_cardOf 15 = .ok (.iload_n 1, 1) := by decide +kernel
theorem dX11_cardOf_16 : decode cX11_cardOf 16 = .ok (.iaload, 1) := by decide +kernel
theorem dX11_cardOf_17 : decode cX11_cardOf 17 = .ok (.ireturn, 1) := by decide +kernel
theorem dX11_isReturned_0 : decode cX11_isReturned 0 = .ok (.aload_n 0, 1) := by decide +kernel
theorem dX11_isReturned_1 : decode cX11_isReturned 1 = .ok (.iload_n 1, 1) := by decide +kernel
theorem dX11_isReturned_2 : decode cX11_isReturned 2 = .ok (.invokevirtual 151, 3) := by decide +kernel
theorem dX11_isReturned_5 : decode cX11_isReturned 5 = .ok (.aload_n 0, 1) := by decide +kernel
theorem dX11_isReturned_6 : decode cX11_isReturned 6 = .ok (.getfield 12, 3) := by decide +kernel
theorem dX11_isReturned_9 : decode cX11_isReturned 9 = .ok (.getfield 79, 3) := by decide +kernel
theorem dX11_isReturned_12 : decode cX11_isReturned 12 = .ok (.getfield 184, 3) := by decide +kernel
theorem dX11_isReturned_15 : decode cX11_isReturned 15 = .ok (.iload_n 1, 1) := by decide +kernel
theorem dX11_isReturned_16 : decode cX11_isReturned 16 = .ok (.baload, 1) := by decide +kernel
theorem dX11_isReturned_17 : decode cX11_isReturned 17 = .ok (.ireturn, 1) := by decide +kernel
theorem dX11_usedDays_0 : decode cX11_usedDays 0 = .ok (.aload_n 0, 1) := by decide +kernel
theorem dX11_usedDays_1 : decode cX11_usedDays 1 = .ok (.iload_n 1, 1) := by decide +kernel
theorem dX11_usedDays_2 : decode cX11_usedDays 2 = .ok (.invokevirtual 151, 3) := by decide +kernel
theorem dX11_usedDays_5 : decode cX11_usedDays 5 = .ok (.aload_n 0, 1) := by decide +kernel
theorem dX11_usedDays_6 : decode cX11_usedDays 6 = .ok (.getfield 12, 3) := by decide +kernel
theorem dX11_usedDays_9 : decode cX11_usedDays 9 = .ok (.getfield 79, 3) := by decide +kernel
theorem dX11_usedDays_12 : decode cX11_usedDays 12 = .ok (.iload_n 1, 1) := by decide +kernel
theorem dX11_usedDays_13 : decode cX11_usedDays 13 = .ok (.invokevirtual 277, 3) := by decide +kernel
theorem dX11_usedDays_16 : decode cX11_usedDays 16 = .ok (.ireturn, 1) := by decide +kernel
theorem dX11_visitsWith_0 : decode cX11_visitsWith 0 = .ok (.aload_n 0, 1) := by decide +kernel
theorem dX11_visitsWith_1 : decode cX11_visitsWith 1 = .ok (.iload_n 1, 1) := by decide +kernel
theorem dX11_visitsWith_2 : decode cX11_visitsWith 2 = .ok (.invokevirtual 151, 3) := by decide +kernel
theorem dX11_visitsWith_5 : decode cX11_visitsWith 5 = .ok (.aload_n 0, 1) := by decide +kernel
theorem dX11_visitsWith_6 : decode cX11_visitsWith 6 = .ok (.getfield 12, 3) := by decide +kernel
theorem dX11_visitsWith_9 : decode cX11_visitsWith 9 = .ok (.getfield 79, 3) := by decide +kernel
theorem dX11_visitsWith_12 : decode cX11_visitsWith 12 = .ok (.getfield 280, 3) := by decide +kernel
theorem dX11_visitsWith_15 : decode cX11_visitsWith 15 = .ok (.iload_n 1, 1) := by decide +kernel
theorem dX11_visitsWith_16 : decode cX11_visitsWith 16 = .ok (.iaload, 1) := by decide +kernel
theorem dX11_visitsWith_17 : decode cX11_visitsWith 17 = .ok (.ireturn, 1) := by decide +kernel
theorem dX11_refundOf_0 : decode cX11_refundOf 0 = .ok (.aload_n 0, 1) := by decide +kernel
theorem dX11_refundOf_1 : decode cX11_refundOf 1 = .ok (.iload_n 1, 1) := by decide +kernel
theorem dX11_refundOf_2 : decode cX11_refundOf 2 = .ok (.invokevirtual 151, 3) := by decide +kernel
theorem dX11_refundOf_5 : decode cX11_refundOf 5 = .ok (.aload_n 0, 1) := by decide +kernel
theorem dX11_refundOf_6 : decode cX11_refundOf 6 = .ok (.getfield 12, 3) := by decide +kernel
theorem dX11_refundOf_9 : decode cX11_refundOf 9 = .ok (.iload_n 1, 1) := by decide +kernel
theorem dX11_refundOf_10 : decode cX11_refundOf 10 = .ok (.invokevirtual 281, 3) := by decide +kernel
theorem dX11_refundOf_13 : decode cX11_refundOf 13 = .ok (.ireturn, 1) := by decide +kernel
theorem dX11_owed_0 : decode cX11_owed 0 = .ok (.aload_n 0, 1) := by decide +kernel
theorem dX11_owed_1 : decode cX11_owed 1 = .ok (.iload_n 1, 1) := by decide +kernel
theorem dX11_owed_2 : decode cX11_owed 2 = .ok (.invokevirtual 151, 3) := by decide +kernel
theorem dX11_owed_5 : decode cX11_owed 5 = .ok (.aload_n 0, 1) := by decide +kernel
theorem dX11_owed_6 : decode cX11_owed 6 = .ok (.getfield 12, 3) := by decide +kernel
theorem dX11_owed_9 : decode cX11_owed 9 = .ok (.getfield 79, 3) := by decide +kernel
theorem dX11_owed_12 : decode cX11_owed 12 = .ok (.getfield 207, 3) := by decide +kernel
theorem dX11_owed_15 : decode cX11_owed 15 = .ok (.iload_n 1, 1) := by decide +kernel
theorem dX11_owed_16 : decode cX11_owed 16 = .ok (.iaload, 1) := by decide +kernel
theorem dX11_owed_17 : decode cX11_owed 17 = .ok (.ireturn, 1) := by decide +kernel
theorem dX11_ticksUntilReady_0 : decode cX11_ticksUntilReady 0 = .ok (.aload_n 0, 1) := by decide +kernel
theorem dX11_ticksUntilReady_1 : decode cX11_ticksUntilReady 1 = .ok (.iload_n 1, 1) := by decide +kernel
theorem dX11_ticksUntilReady_2 : decode cX11_ticksUntilReady 2 = .ok (.invokevirtual 151, 3) := by decide +kernel
theorem dX11_ticksUntilReady_5 : decode cX11_ticksUntilReady 5 = .ok (.aload_n 0, 1) := by decide +kernel
theorem dX11_ticksUntilReady_6 : decode cX11_ticksUntilReady 6 = .ok (.getfield 12, 3) := by decide +kernel
theorem dX11_ticksUntilReady_9 : decode cX11_ticksUntilReady 9 = .ok (.iload_n 1, 1) := by decide +kernel
theorem dX11_ticksUntilReady_10 : decode cX11_ticksUntilReady 10 = .ok (.invokevirtual 284, 3) := by decide +kernel
theorem dX11_ticksUntilReady_13 : decode cX11_ticksUntilReady 13 = .ok (.ireturn, 1) := by decide +kernel
theorem dX11_cardCount_0 : decode cX11_cardCount 0 = .ok (.aload_n 0, 1) := by decide +kernel
theorem dX11_cardCount_1 : decode cX11_cardCount 1 = .ok (.getfield 12, 3) := by decide +kernel
theorem dX11_cardCount_4 : decode cX11_cardCount 4 = .ok (.getfield 287, 3) := by decide +kernel
theorem dX11_cardCount_7 : decode cX11_cardCount 7 = .ok (.getfield 291, 3) := by decide +kernel
theorem dX11_cardCount_10 : decode cX11_cardCount 10 = .ok (.ireturn, 1) := by decide +kernel
theorem dX11_passOf_0 : decode cX11_passOf 0 = .ok (.aload_n 0, 1) := by decide +kernel
theorem dX11_passOf_1 : decode cX11_passOf 1 = .ok (.iload_n 1, 1) := by decide +kernel
theorem dX11_passOf_2 : decode cX11_passOf 2 = .ok (.invokevirtual 191, 3) := by decide +kernel
theorem dX11_passOf_5 : decode cX11_passOf 5 = .ok (.aload_n 0, 1) := by decide +kernel
theorem dX11_passOf_6 : decode cX11_passOf 6 = .ok (.getfield 12, 3) := by decide +kernel
theorem dX11_passOf_9 : decode cX11_passOf 9 = .ok (.getfield 287, 3) := by decide +kernel
theorem dX11_passOf_12 : decode cX11_passOf 12 = .ok (.getfield 294, 3) := by decide +kernel
theorem dX11_passOf_15 : decode cX11_passOf 15 = .ok (.iload_n 1, 1) := by decide +kernel
theorem dX11_passOf_16 : decode cX11_passOf 16 = .ok (.iaload, 1) := by decide +kernel
theorem dX11_passOf_17 : decode cX11_passOf 17 = .ok (.ireturn, 1) := by decide +kernel
theorem dX11_isBlocked_0 : decode cX11_isBlocked 0 = .ok (.aload_n 0, 1) := by decide +kernel
theorem dX11_isBlocked_1 : decode cX11_isBlocked 1 = .ok (.iload_n 1, 1) := by decide +kernel
theorem dX11_isBlocked_2 : decode cX11_isBlocked 2 = .ok (.invokevirtual 191, 3) := by decide +kernel
theorem dX11_isBlocked_5 : decode cX11_isBlocked 5 = .ok (.aload_n 0, 1) := by decide +kernel
theorem dX11_isBlocked_6 : decode cX11_isBlocked 6 = .ok (.getfield 12, 3) := by decide +kernel
theorem dX11_isBlocked_9 : decode cX11_isBlocked 9 = .ok (.getfield 287, 3) := by decide +kernel
theorem dX11_isBlocked_12 : decode cX11_isBlocked 12 = .ok (.getfield 297, 3) := by decide +kernel
theorem dX11_isBlocked_15 : decode cX11_isBlocked 15 = .ok (.iload_n 1, 1) := by decide +kernel
theorem dX11_isBlocked_16 : decode cX11_isBlocked 16 = .ok (.baload, 1) := by decide +kernel
theorem dX11_isBlocked_17 : decode cX11_isBlocked 17 = .ok (.ireturn, 1) := by decide +kernel
theorem dX11_whyRefused_0 : decode cX11_whyRefused 0 = .ok (.aload_n 0, 1) := by decide +kernel
theorem dX11_whyRefused_1 : decode cX11_whyRefused 1 = .ok (.iload_n 1, 1) := by decide +kernel
theorem dX11_whyRefused_2 : decode cX11_whyRefused 2 = .ok (.invokevirtual 191, 3) := by decide +kernel
theorem dX11_whyRefused_5 : decode cX11_whyRefused 5 = .ok (.aload_n 0, 1) := by decide +kernel
theorem dX11_whyRefused_6 : decode cX11_whyRefused 6 = .ok (.iload_n 2, 1) := by decide +kernel
theorem dX11_whyRefused_7 : decode cX11_whyRefused 7 = .ok (.invokevirtual 194, 3) := by decide +kernel
theorem dX11_whyRefused_10 : decode cX11_whyRefused 10 = .ok (.aload_n 0, 1) := by decide +kernel
theorem dX11_whyRefused_11 : decode cX11_whyRefused 11 = .ok (.getfield 12, 3) := by decide +kernel
theorem dX11_whyRefused_14 : decode cX11_whyRefused 14 = .ok (.iload_n 1, 1) := by decide +kernel
theorem dX11_whyRefused_15 : decode cX11_whyRefused 15 = .ok (.iload_n 2, 1) := by decide +kernel
theorem dX11_whyRefused_16 : decode cX11_whyRefused 16 = .ok (.invokevirtual 300, 3) := by decide +kernel
theorem dX11_whyRefused_19 : decode cX11_whyRefused 19 = .ok (.ireturn, 1) := by decide +kernel
theorem dX11_sign_0 : decode cX11_sign 0 = .ok (.aload_n 0, 1) := by decide +kernel
theorem dX11_sign_1 : decode cX11_sign 1 = .ok (.iload_n 1, 1) := by decide +kernel
theorem dX11_sign_2 : decode cX11_sign 2 = .ok (.invokevirtual 191, 3) := by decide +kernel
theorem dX11_sign_5 : decode cX11_sign 5 = .ok (.aload_n 0, 1) := by decide +kernel
theorem dX11_sign_6 : decode cX11_sign 6 = .ok (.iload_n 2, 1) := by decide +kernel
theorem dX11_sign_7 : decode cX11_sign 7 = .ok (.invokevirtual 194, 3) := by decide +kernel
theorem dX11_sign_10 : decode cX11_sign 10 = .ok (.aload_n 0, 1) := by decide +kernel
theorem dX11_sign_11 : decode cX11_sign 11 = .ok (.getfield 12, 3) := by decide +kernel
theorem dX11_sign_14 : decode cX11_sign 14 = .ok (.iload_n 1, 1) := by decide +kernel
theorem dX11_sign_15 : decode cX11_sign 15 = .ok (.iload_n 2, 1) := by decide +kernel
theorem dX11_sign_16 : decode cX11_sign 16 = .ok (.invokevirtual 300, 3) := by decide +kernel
theorem dX11_sign_19 : decode cX11_sign 19 = .ok (.istore_n 3, 1) := by decide +kernel
theorem dX11_sign_20 : decode cX11_sign 20 = .ok (.iload_n 3, 1) := by decide +kernel
theorem dX11_sign_21 : decode cX11_sign 21 = .ok (.ifCond .ne 5, 3) := by decide +kernel
theorem dX11_sign_24 : decode cX11_sign 24 = .ok (.iconst 0, 1) := by decide +kernel
theorem dX11_sign_25 : decode cX11_sign 25 = .ok (.ireturn, 1) := by decide +kernel
theorem dX11_sign_26 : decode cX11_sign 26 = .ok (.iload_n 3, 1) := by decide +kernel
theorem dX11_sign_27 : decode cX11_sign 27 = .ok (.iconst 5, 1) := by decide +kernel
theorem dX11_sign_28 : decode cX11_sign 28 = .ok (.if_icmp .ne 7, 3) := by decide +kernel
theorem dX11_sign_31 : decode cX11_sign 31 = .ok (.iconst 1, 1) := by decide +kernel
theorem dX11_sign_32 : decode cX11_sign 32 = .ok (.goto 4, 3) := by decide +kernel
theorem dX11_sign_35 : decode cX11_sign 35 = .ok (.iconst 2, 1) := by decide +kernel
theorem dX11_sign_36 : decode cX11_sign 36 = .ok (.ireturn, 1) := by decide +kernel
theorem dX11_bedsFor_0 : decode cX11_bedsFor 0 = .ok (.aload_n 0, 1) := by decide +kernel
theorem dX11_bedsFor_1 : decode cX11_bedsFor 1 = .ok (.iload_n 1, 1) := by decide +kernel
theorem dX11_bedsFor_2 : decode cX11_bedsFor 2 = .ok (.invokevirtual 191, 3) := by decide +kernel
theorem dX11_bedsFor_5 : decode cX11_bedsFor 5 = .ok (.aload_n 0, 1) := by decide +kernel
theorem dX11_bedsFor_6 : decode cX11_bedsFor 6 = .ok (.getfield 12, 3) := by decide +kernel
theorem dX11_bedsFor_9 : decode cX11_bedsFor 9 = .ok (.iload_n 1, 1) := by decide +kernel
theorem dX11_bedsFor_10 : decode cX11_bedsFor 10 = .ok (.invokevirtual 303, 3) := by decide +kernel
theorem dX11_bedsFor_13 : decode cX11_bedsFor 13 = .ok (.ireturn, 1) := by decide +kernel
theorem dX11_quote_0 : decode cX11_quote 0 = .ok (.aload_n 0, 1) := by decide +kernel
theorem dX11_quote_1 : decode cX11_quote 1 = .ok (.iload_n 1, 1) := by decide +kernel
theorem dX11_quote_2 : decode cX11_quote 2 = .ok (.invokevirtual 139, 3) := by decide +kernel
theorem dX11_quote_5 : decode cX11_quote 5 = .ok (.iload_n 2, 1) := by decide +kernel
theorem dX11_quote_6 : decode cX11_quote 6 = .ok (.iconst 1, 1) := by decide +kernel
theorem dX11_quote_7 : decode cX11_quote 7 = .ok (.bipush 14, 2) := by decide +kernel
theorem dX11_quote_9 : decode cX11_quote 9 = .ok (.invokestatic 69, 3) := by decide +kernel
theorem dX11_quote_12 : decode cX11_quote 12 = .ok (.iload_n 3, 1) := by decide +kernel
theorem dX11_quote_13 : decode cX11_quote 13 = .ok (.iconst 0, 1) := by decide +kernel
theorem dX11_quote_14 : decode cX11_quote 14 = .ok (.iconst 1, 1) := by decide +kernel
theorem dX11_quote_15 : decode cX11_quote 15 = .ok (.invokestatic 69, 3) := by decide +kernel
theorem dX11_quote_18 : decode cX11_quote 18 = .ok (.aload_n 0, 1) := by decide +kernel
theorem dX11_quote_19 : decode cX11_quote 19 = .ok (.getfield 12, 3) := by decide +kernel
theorem dX11_quote_22 : decode cX11_quote 22 = .ok (.getfield 91, 3) := by decide +kernel
theorem dX11_quote_25 : decode cX11_quote 25 = .ok (.iload_n 1, 1) := by decide +kernel
theorem dX11_quote_26 : decode cX11_quote 26 = .ok (.iload_n 2, 1) := by decide +kernel
theorem dX11_quote_27 : decode cX11_quote 27 = .ok (.iload_n 3, 1) := by decide +kernel
theorem dX11_quote_28 : decode cX11_quote 28 = .ok (.invokevirtual 306, 3) := by decide +kernel
theorem dX11_quote_31 : decode cX11_quote 31 = .ok (.ireturn, 1) := by decide +kernel
theorem dX11_fineFor_0 : decode cX11_fineFor 0 = .ok (.aload_n 0, 1) := by decide +kernel
theorem dX11_fineFor_1 : decode cX11_fineFor 1 = .ok (.iload_n 1, 1) := by decide +kernel
theorem dX11_fineFor_2 : decode cX11_fineFor 2 = .ok (.invokevirtual 194, 3) := by decide +kernel
theorem dX11_fineFor_5 : decode cX11_fineFor 5 = .ok (.iload_n 2, 1) := by decide +kernel
theorem dX11_fineFor_6 : decode cX11_fineFor 6 = .ok (.iconst 1, 1) := by decide +kernel
theorem dX11_fineFor_7 : decode cX11_fineFor 7 = .ok (.bipush 9, 2) := by decide +kernel
theorem dX11_fineFor_9 : decode cX11_fineFor 9 = .ok (.invokestatic 69, 3) := by decide +kernel
theorem dX11_fineFor_12 : decode cX11_fineFor 12 = .ok (.aload_n 0, 1) := by decide +kernel
theorem dX11_fineFor_13 : decode cX11_fineFor 13 = .ok (.getfield 12, 3) := by decide +kernel
theorem dX11_fineFor_16 : decode cX11_fineFor 16 = .ok (.iload_n 1, 1) := by decide +kernel
theorem dX11_fineFor_17 : decode cX11_fineFor 17 = .ok (.iload_n 2, 1) := by decide +kernel
theorem dX11_fineFor_18 : decode cX11_fineFor 18 = .ok (.invokevirtual 310, 3) := by decide +kernel
theorem dX11_fineFor_21 : decode cX11_fineFor 21 = .ok (.ireturn, 1) := by decide +kernel
theorem dX11_takings_0 : decode cX11_takings 0 = .ok (.aload_n 0, 1) := by decide +kernel
theorem dX11_takings_1 : decode cX11_takings 1 = .ok (.getfield 12, 3) := by decide +kernel
theorem dX11_takings_4 : decode cX11_takings 4 = .ok (.getfield 313, 3) := by decide +kernel
theorem dX11_takings_7 : decode cX11_takings 7 = .ok (.getfield 317, 3) := by decide +kernel
theorem dX11_takings_10 : decode cX11_takings 10 = .ok (.aload_n 0, 1) := by decide +kernel
theorem dX11_takings_11 : decode cX11_takings 11 = .ok (.getfield 12, 3) := by decide +kernel
theorem dX11_takings_14 : decode cX11_takings 14 = .ok (.getfield 313, 3) := by decide +kernel
theorem dX11_takings_17 : decode cX11_takings 17 = .ok (.getfield 322, 3) := by decide +kernel
theorem dX11_takings_20 : decode cX11_takings 20 = .ok (.isub, 1) := by decide +kernel
theorem dX11_takings_21 : decode cX11_takings 21 = .ok (.ireturn, 1) := by decide +kernel
theorem dX11_refunds_0 : decode cX11_refunds 0 = .ok (.aload_n 0, 1) := by decide +kernel
theorem dX11_refunds_1 : decode cX11_refunds 1 = .ok (.getfield 12, 3) := by decide +kernel
theorem dX11_refunds_4 : decode cX11_refunds 4 = .ok (.getfield 313, 3) := by decide +kernel
theorem dX11_refunds_7 : decode cX11_refunds 7 = .ok (.getfield 322, 3) := by decide +kernel
theorem dX11_refunds_10 : decode cX11_refunds 10 = .ok (.ireturn, 1) := by decide +kernel
theorem dX11_finesPaid_0 : decode cX11_finesPaid 0 = .ok (.aload_n 0, 1) := by decide +kernel
theorem dX11_finesPaid_1 : decode cX11_finesPaid 1 = .ok (.getfield 12, 3) := by decide +kernel
theorem dX11_finesPaid_4 : decode cX11_finesPaid 4 = .ok (.getfield 313, 3) := by decide +kernel
theorem dX11_finesPaid_7 : decode cX11_finesPaid 7 = .ok (.getfield 325, 3) := by decide +kernel
theorem dX11_finesPaid_10 : decode cX11_finesPaid 10 = .ok (.ireturn, 1) := by decide +kernel
theorem dX11_plucked_0 : decode cX11_plucked 0 = .ok (.aload_n 0, 1) := by decide +kernel
theorem dX11_plucked_1 : decode cX11_plucked 1 = .ok (.getfield 12, 3) := by decide +kernel
theorem dX11_plucked_4 : decode cX11_plucked 4 = .ok (.getfield 313, 3) := by decide +kernel
theorem dX11_plucked_7 : decode cX11_plucked 7 = .ok (.getfield 328, 3) := by decide +kernel
theorem dX11_plucked_10 : decode cX11_plucked 10 = .ok (.ireturn, 1) := by decide +kernel
theorem dX11_alarms_0 : decode cX11_alarms 0 = .ok (.aload_n 0, 1) := by decide +kernel
theorem dX11_alarms_1 : decode cX11_alarms 1 = .ok (.getfield 12, 3) := by decide +kernel
theorem dX11_alarms_4 : decode cX11_alarms 4 = .ok (.getfield 313, 3) := by decide +kernel
theorem dX11_alarms_7 : decode cX11_alarms 7 = .ok (.getfield 331, 3) := by decide +kernel
theorem dX11_alarms_10 : decode cX11_alarms 10 = .ok (.ireturn, 1) := by decide +kernel
theorem dX11_visitsPerDay_0 : decode cX11_visitsPerDay 0 = .ok (.aload_n 0, 1) := by decide +kernel
theorem dX11_visitsPerDay_1 : decode cX11_visitsPerDay 1 = .ok (.getfield 12, 3) := by decide +kernel
theorem dX11_visitsPerDay_4 : decode cX11_visitsPerDay 4 = .ok (.getfield 79, 3) := by decide +kernel
theorem dX11_visitsPerDay_7 : decode cX11_visitsPerDay 7 = .ok (.invokevirtual 334, 3) := by decide +kernel
theorem dX11_visitsPerDay_10 : decode cX11_visitsPerDay 10 = .ok (.istore_n 1, 1) := by decide +kernel
theorem dX11_visitsPerDay_11 : decode cX11_visitsPerDay 11 = .ok (.iload_n 1, 1) := by decide +kernel
theorem dX11_visitsPerDay_12 : decode cX11_visitsPerDay 12 = .ok (.ifCond .ne 5, 3) := by decide +kernel
theorem dX11_visitsPerDay_15 : decode cX11_visitsPerDay 15 = .ok (.dconst 0, 1) := by decide +kernel
theorem dX11_visitsPerDay_16 : decode cX11_visitsPerDay 16 = .ok (.dreturn, 1) := by decide +kernel
theorem dX11_visitsPerDay_17 : decode cX11_visitsPerDay 17 = .ok (.aload_n 0, 1) := by decide +kernel
theorem dX11_visitsPerDay_18 : decode cX11_visitsPerDay 18 = .ok (.getfield 12, 3) := by decide +kernel
theorem dX11_visitsPerDay_21 : decode cX11_visitsPerDay 21 = .ok (.getfield 79, 3) := by decide +kernel
theorem dX11_visitsPerDay_24 : decode cX11_visitsPerDay 24 = .ok (.invokevirtual 337, 3) := by decide +kernel
theorem dX11_visitsPerDay_27 : decode cX11_visitsPerDay 27 = .ok (.i2d, 1) := by decide +kernel
theorem dX11_visitsPerDay_28 : decode cX11_visitsPerDay 28 = .ok (.iload_n 1, 1) := by decide +kernel
theorem dX11_visitsPerDay_29 : decode cX11_visitsPerDay 29 = .ok (.i2d, 1) := by decide +kernel
theorem dX11_visitsPerDay_30 : decode cX11_visitsPerDay 30 = .ok (.ddiv, 1) := by decide +kernel
theorem dX11_visitsPerDay_31 : decode cX11_visitsPerDay 31 = .ok (.dreturn, 1) := by decide +kernel
theorem dX11_blockedShare_0 : decode cX11_blockedShare 0 = .ok (.aload_n 0, 1) := by decide +kernel
theorem dX11_blockedShare_1 : decode cX11_blockedShare 1 = .ok (.getfield 12, 3) := by decide +kernel
theorem dX11_blockedShare_4 : decode cX11_blockedShare 4 = .ok (.getfield 287, 3) := by decide +kernel
theorem dX11_blockedShare_7 : decode cX11_blockedShare 7 = .ok (.getfield 291, 3) := by decide +kernel
theorem dX11_blockedShare_10 : decode cX11_blockedShare 10 = .ok (.ifCond .ne 5, 3) := by decide +kernel
theorem dX11_blockedShare_13 : decode cX11_blockedShare 13 = .ok (.fconst 0, 1) := by decide +kernel
theorem dX11_blockedShare_14 : decode cX11_blockedShare 14 = .ok (.freturn, 1) := by decide +kernel
theorem dX11_blockedShare_15 : decode cX11_blockedShare 15 = .ok (.aload_n 0, 1) := by decide +kernel
theorem dX11_blockedShare_16 : decode cX11_blockedShare 16 = .ok (.getfield 12, 3) := by decide +kernel
theorem dX11_blockedShare_19 : decode cX11_blockedShare 19 = .ok (.getfield 287, 3) := by decide +kernel
theorem dX11_blockedShare_22 : decode cX11_blockedShare 22 = .ok (.invokevirtual 340, 3) := by decide +kernel
theorem dX11_blockedShare_25 : decode cX11_blockedShare 25 = .ok (.i2f, 1) := by decide +kernel
theorem dX11_blockedShare_26 : decode cX11_blockedShare 26 = .ok (.aload_n 0, 1) := by decide +kernel
theorem dX11_blockedShare_27 : decode cX11_blockedShare 27 = .ok (.getfield 12, 3) := by decide +kernel
theorem dX11_blockedShare_30 : decode cX11_blockedShare 30 = .ok (.getfield 287, 3) := by decide +kernel
theorem dX11_blockedShare_33 : decode cX11_blockedShare 33 = .ok (.getfield 291, 3) := by decide +kernel
theorem dX11_blockedShare_36 : decode cX11_blockedShare 36 = .ok (.i2f, 1) := by decide +kernel
theorem dX11_blockedShare_37 : decode cX11_blockedShare 37 = .ok (.fdiv, 1) := by decide +kernel
theorem dX11_blockedShare_38 : decode cX11_blockedShare 38 = .ok (.freturn, 1) := by decide +kernel
theorem dX11_violations_0 : decode cX11_violations 0 = .ok (.aload_n 0, 1) := by decide +kernel
theorem dX11_violations_1 : decode cX11_violations 1 = .ok (.getfield 12, 3) := by decide +kernel
theorem dX11_violations_4 : decode cX11_violations 4 = .ok (.invokevirtual 343, 3) := by decide +kernel
theorem dX11_violations_7 : decode cX11_violations 7 = .ok (.aload_n 0, 1) := by decide +kernel
theorem dX11_violations_8 : decode cX11_violations 8 = .ok (.getfield 12, 3) := by decide +kernel
theorem dX11_violations_11 : decode cX11_violations 11 = .ok (.getfield 104, 3) := by decide +kernel
theorem dX11_violations_14 : decode cX11_violations 14 = .ok (.invokevirtual 346, 3) := by decide +kernel
theorem dX11_violations_17 : decode cX11_violations 17 = .ok (.iadd, 1) := by decide +kernel
theorem dX11_violations_18 : decode cX11_violations 18 = .ok (.aload_n 0, 1) := by decide +kernel
theorem dX11_violations_19 : decode cX11_violations 19 = .ok (.getfield 12, 3) := by decide +kernel
theorem dX11_violations_22 : decode cX11_violations 22 = .ok (.invokevirtual 349, 3) := by decide +kernel
theorem dX11_violations_25 : decode cX11_violations 25 = .ok (.iadd, 1) := by decide +kernel
theorem dX11_violations_26 : decode cX11_violations 26 = .ok (.ireturn, 1) := by decide +kernel
theorem dX11_writePass_0 : decode cX11_writePass 0 = .ok (.aload_n 0, 1) := by decide +kernel
theorem dX11_writePass_1 : decode cX11_writePass 1 = .ok (.iload_n 1, 1) := by decide +kernel
theorem dX11_writePass_2 : decode cX11_writePass 2 = .ok (.invokevirtual 151, 3) := by decide +kernel
theorem dX11_writePass_5 : decode cX11_writePass 5 = .ok (.aload_n 0, 1) := by decide +kernel
theorem dX11_writePass_6 : decode cX11_writePass 6 = .ok (.getfield 41, 3) := by decide +kernel
theorem dX11_writePass_9 : decode cX11_writePass 9 = .ok (.aload_n 0, 1) := by decide +kernel
theorem dX11_writePass_10 : decode cX11_writePass 10 = .ok (.getfield 12, 3) := by decide +kernel
theorem dX11_writePass_13 : decode cX11_writePass 13 = .ok (.getfield 79, 3) := by decide +kernel
theorem dX11_writePass_16 : decode cX11_writePass 16 = .ok (.iload_n 1, 1) := by decide +kernel
theorem dX11_writePass_17 : decode cX11_writePass 17 = .ok (.aload_n 0, 1) := by decide +kernel
theorem dX11_writePass_18 : decode cX11_writePass 18 = .ok (.getfield 12, 3) := by decide +kernel
theorem dX11_writePass_21 : decode cX11_writePass 21 = .ok (.getfield 122, 3) := by decide +kernel
theorem dX11_writePass_24 : decode cX11_writePass 24 = .ok (.invokevirtual 142, 3) := by decide +kernel
theorem dX11_writePass_27 : decode cX11_writePass 27 = .ok (.invokevirtual 352, 3) := by decide +kernel
theorem dX11_writePass_30 : decode cX11_writePass 30 = .ok (.aload_n 0, 1) := by decide +kernel
theorem dX11_writePass_31 : decode cX11_writePass 31 = .ok (.getfield 41, 3) := by decide +kernel
theorem dX11_writePass_34 : decode cX11_writePass 34 = .ok (.getfield 356, 3) := by decide +kernel
theorem dX11_writePass_37 : decode cX11_writePass 37 = .ok (.ireturn, 1) := by decide +kernel
theorem dX11_reportByte_0 : decode cX11_reportByte 0 = .ok (.iload_n 1, 1) := by decide +kernel
theorem dX11_reportByte_1 : decode cX11_reportByte 1 = .ok (.ifCond .lt 14, 3) := by decide +kernel
theorem dX11_reportByte_4 : decode cX11_reportByte 4 = .ok (.iload_n 1, 1) := by decide +kernel
theorem dX11_reportByte_5 : decode cX11_reportByte 5 = .ok (.aload_n 0, 1) := by decide +kernel
theorem dX11_reportByte_6 : decode cX11_reportByte 6 = .ok (.getfield 41, 3) := by decide +kernel
theorem dX11_reportByte_9 : decode cX11_reportByte 9 = .ok (.getfield 356, 3) := by decide +kernel
theorem dX11_reportByte_12 : decode cX11_reportByte 12 = .ok (.if_icmp .lt 5, 3) := by decide +kernel
theorem dX11_reportByte_15 : decode cX11_reportByte 15 = .ok (.iconst (-1), 1) := by decide +kernel
theorem dX11_reportByte_16 : decode cX11_reportByte 16 = .ok (.ireturn, 1) := by decide +kernel
theorem dX11_reportByte_17 : decode cX11_reportByte 17 = .ok (.aload_n 0, 1) := by decide +kernel
theorem dX11_reportByte_18 : decode cX11_reportByte 18 = .ok (.getfield 41, 3) := by decide +kernel
theorem dX11_reportByte_21 : decode cX11_reportByte 21 = .ok (.getfield 357, 3) := by decide +kernel
theorem dX11_reportByte_24 : decode cX11_reportByte 24 = .ok (.iload_n 1, 1) := by decide +kernel
theorem dX11_reportByte_25 : decode cX11_reportByte 25 = .ok (.baload, 1) := by decide +kernel
theorem dX11_reportByte_26 : decode cX11_reportByte 26 = .ok (.ireturn, 1) := by decide +kernel
theorem dX11_requireScent_0 : decode cX11_requireScent 0 = .ok (.aload_n 0, 1) := by decide +kernel
theorem dX11_requireScent_1 : decode cX11_requireScent 1 = .ok (.getfield 12, 3) := by decide +kernel
theorem dX11_requireScent_4 : decode cX11_requireScent 4 = .ok (.getfield 91, 3) := by decide +kernel
theorem dX11_requireScent_7 : decode cX11_requireScent 7 = .ok (.iload_n 1, 1) := by decide +kernel
theorem dX11_requireScent_8 : decode cX11_requireScent 8 = .ok (.invokevirtual 361, 3) := by decide +kernel
theorem dX11_requireScent_11 : decode cX11_requireScent 11 = .ok (.ifCond .ne 14, 3) := by decide +kernel
theorem dX11_requireScent_14 : decode cX11_requireScent 14 = .ok (.new 364, 3) := by decide +kernel
theorem dX11_requireScent_17 : decode cX11_requireScent 17 = .ok (.dup, 1) := by decide +kernel
theorem dX11_requireScent_18 : decode cX11_requireScent 18 = .ok (.ldc_w 366, 3) := by decide +kernel
theorem dX11_requireScent_21 : decode cX11_requireScent 21 = .ok (.invokespecial 368, 3) := by decide +kernel
theorem dX11_requireScent_24 : decode cX11_requireScent 24 = .ok (.athrow, 1) := by decide +kernel
theorem dX11_requireScent_25 : decode cX11_requireScent 25 = .ok (.return_, 1) := by decide +kernel
theorem dX11_requireBed_0 : decode cX11_requireBed 0 = .ok (.aload_n 0, 1) := by decide +kernel
theorem dX11_requireBed_1 : decode cX11_requireBed 1 = .ok (.getfield 12, 3) := by decide +kernel
theorem dX11_requireBed_4 : decode cX11_requireBed 4 = .ok (.getfield 104, 3) := by decide +kernel
theorem dX11_requireBed_7 : decode cX11_requireBed 7 = .ok (.iload_n 1, 1) := by decide +kernel
theorem dX11_requireBed_8 : decode cX11_requireBed 8 = .ok (.invokevirtual 369, 3) := by decide +kernel
theorem dX11_requireBed_11 : decode cX11_requireBed 11 = .ok (.ifCond .ne 14, 3) := by decide +kernel
theorem dX11_requireBed_14 : decode cX11_requireBed 14 = .ok (.new 364, 3) := by decide +kernel
theorem dX11_requireBed_17 : decode cX11_requireBed 17 = .ok (.dup, 1) := by decide +kernel
theorem dX11_requireBed_18 : decode cX11_requireBed 18 = .ok (.ldc_w 370, 3) := by decide +kernel
theorem dX11_requireBed_21 : decode cX11_requireBed 21 = .ok (.invokespecial 368, 3) := by decide +kernel
theorem dX11_requireBed_24 : decode cX11_requireBed 24 = .ok (.athrow, 1) := by decide +kernel
theorem dX11_requireBed_25 : decode cX11_requireBed 25 = .ok (.return_, 1) := by decide +kernel
theorem dX11_requirePass_0 : decode cX11_requirePass 0 = .ok (.aload_n 0, 1) := by decide +kernel
theorem dX11_requirePass_1 : decode cX11_requirePass 1 = .ok (.getfield 12, 3) := by decide +kernel
theorem dX11_requirePass_4 : decode cX11_requirePass 4 = .ok (.getfield 79, 3) := by decide +kernel
theorem dX11_requirePass_7 : decode cX11_requirePass 7 = .ok (.iload_n 1, 1) := by decide +kernel
theorem dX11_requirePass_8 : decode cX11_requirePass 8 = .ok (.invokevirtual 372, 3) := by decide +kernel
theorem dX11_requirePass_11 : decode cX11_requirePass 11 = .ok (.ifCond .ne 14, 3) := by decide +kernel
theorem dX11_requirePass_14 : decode cX11_requirePass 14 = .ok (.new 364, 3) := by decide +kernel
theorem dX11_requirePass_17 : decode cX11_requirePass 17 = .ok (.dup, 1) := by decide +kernel
theorem dX11_requirePass_18 : decode cX11_requirePass 18 = .ok (.ldc_w 373, 3) := by decide +kernel
theorem dX11_requirePass_21 : decode cX11_requirePass 21 = .ok (.invokespecial 368, 3) := by decide +kernel
theorem dX11_requirePass_24 : decode cX11_requirePass 24 = .ok (.athrow, 1) := by decide +kernel
theorem dX11_requirePass_25 : decode cX11_requirePass 25 = .ok (.return_, 1) := by decide +kernel
theorem dX11_requireCard_0 : decode cX11_requireCard 0 = .ok (.aload_n 0, 1) := by decide +kernel
theorem dX11_requireCard_1 : decode cX11_requireCard 1 = .ok (.getfield 12, 3) := by decide +kernel
theorem dX11_requireCard_4 : decode cX11_requireCard 4 = .ok (.getfield 287, 3) := by decide +kernel
theorem dX11_requireCard_7 : decode cX11_requireCard 7 = .ok (.iload_n 1, 1) := by decide +kernel
theorem dX11_requireCard_8 : decode cX11_requireCard 8 = .ok (.invokevirtual 375, 3) := by decide +kernel
theorem dX11_requireCard_11 : decode cX11_requireCard 11 = .ok (.ifCond .ne 14, 3) := by decide +kernel
theorem dX11_requireCard_14 : decode cX11_requireCard 14 = .ok (.new 364, 3) := by decide +kernel
theorem dX11_requireCard_17 : decode cX11_requireCard 17 = .ok (.dup, 1) := by decide +kernel
theorem dX11_requireCard_18 : decode cX11_requireCard 18 = .ok (.ldc_w 376, 3) := by decide +kernel
theorem dX11_requireCard_21 : decode cX11_requireCard 21 = .ok (.invokespecial 368, 3) := by decide +kernel
theorem dX11_requireCard_24 : decode cX11_requireCard 24 = .ok (.athrow, 1) := by decide +kernel
theorem dX11_requireCard_25 : decode cX11_requireCard 25 = .ok (.return_, 1) := by decide +kernel
theorem dX11_requireSetOfScents_0 : decode cX11_requireSetOfScents 0 = .ok (.iload_n 1, 1) := by decide +kernel
theorem dX11_requireSetOfScents_1 : decode cX11_requireSetOfScents 1 = .ok (.iconst 1, 1) := by decide +kernel
theorem dX11_requireSetOfScents_2 : decode cX11_requireSetOfScents 2 = .ok (.aload_n 0, 1) := by decide +kernel
theorem dX11_requireSetOfScents_3 : decode cX11_requireSetOfScents 3 = .ok (.getfield 12, 3) := by decide +kernel
theorem dX11_requireSetOfScents_6 : decode cX11_requireSetOfScents 6 = .ok (.getfield 91, 3) := by decide +kernel
theorem dX11_requireSetOfScents_9 : decode cX11_requireSetOfScents 9 = .ok (.invokevirtual 378, 3) := by decide +kernel
theorem dX11_requireSetOfScents_12 : decode cX11_requireSetOfScents 12 = .ok (.invokestatic 69, 3) := by decide +kernel
theorem dX11_requireSetOfScents_15 : decode cX11_requireSetOfScents 15 = .ok (.return_, 1) := by decide +kernel
theorem dX11_requireRange_0 : decode cX11_requireRange 0 = .ok (.iload_n 0, 1) := by decide +kernel
theorem dX11_requireRange_1 : decode cX11_requireRange 1 = .ok (.iload_n 1, 1) := by decide +kernel
theorem dX11_requireRange_2 : decode cX11_requireRange 2 = .ok (.if_icmp .lt 8, 3) := by decide +kernel
theorem dX11_requireRange_5 : decode cX11_requireRange 5 = .ok (.iload_n 0, 1) := by decide +kernel
theorem dX11_requireRange_6 : decode cX11_requireRange 6 = .ok (.iload_n 2, 1) := by decide +kernel
theorem dX11_requireRange_7 : decode cX11_requireRange 7 = .ok (.if_icmp .le 14, 3) := by decide +kernel
theorem dX11_requireRange_10 : decode cX11_requireRange 10 = .ok (.new 381, 3) := by decide +kernel
theorem dX11_requireRange_13 : decode cX11_requireRange 13 = .ok (.dup, 1) := by decide +kernel
theorem dX11_requireRange_14 : decode cX11_requireRange 14 = .ok (.ldc_w 383, 3) := by decide +kernel
theorem dX11_requireRange_17 : decode cX11_requireRange 17 = .ok (.invokespecial 385, 3) := by decide +kernel
theorem dX11_requireRange_20 : decode cX11_requireRange 20 = .ok (.athrow, 1) := by decide +kernel
theorem dX11_requireRange_21 : decode cX11_requireRange 21 = .ok (.return_, 1) := by decide +kernel
theorem dX11_requireState_0 : decode cX11_requireState 0 = .ok (.iload_n 0, 1) := by decide +kernel
theorem dX11_requireState_1 : decode cX11_requireState 1 = .ok (.ifCond .ne 14, 3) := by decide +kernel
theorem dX11_requireState_4 : decode cX11_requireState 4 = .ok (.new 386, 3) := by decide +kernel
theorem dX11_requireState_7 : decode cX11_requireState 7 = .ok (.dup, 1) := by decide +kernel
theorem dX11_requireState_8 : decode cX11_requireState 8 = .ok (.ldc_w 388, 3) := by decide +kernel
theorem dX11_requireState_11 : decode cX11_requireState 11 = .ok (.invokespecial 390, 3) := by decide +kernel
theorem dX11_requireState_14 : decode cX11_requireState 14 = .ok (.athrow, 1) := by decide +kernel
theorem dX11_requireState_15 : decode cX11_requireState 15 = .ok (.return_, 1) := by decide +kernel
theorem dX12_init_0 : decode cX12_init 0 = .ok (.aload_n 0, 1) := by decide +kernel
theorem dX12_init_1 : decode cX12_init 1 = .ok (.invokespecial 3, 3) := by decide +kernel
theorem dX12_init_4 : decode cX12_init 4 = .ok (.aload_n 0, 1) := by decide +kernel
theorem dX12_init_5 : decode cX12_init 5 = .ok (.sipush 536, 3) := by decide +kernel
theorem dX12_init_8 : decode cX12_init 8 = .ok (.newarray .int, 2) := by decide +kernel
theorem dX12_init_10 : decode cX12_init 10 = .ok (.putfield 9, 3) := by decide +kernel
theorem dX12_init_13 : decode cX12_init 13 = .ok (.aload_n 0, 1) := by decide +kernel
theorem dX12_init_14 : decode cX12_init 14 = .ok (.bipush 8, 2) := by decide +kernel
theorem dX12_init_16 : decode cX12_init 16 = .ok (.sipush 536, 3) := by decide +kernel
theorem dX12_init_19 : decode cX12_init 19 = .ok (.multianewarray 13 2, 4) := by decide +kernel
theorem dX12_init_23 : decode cX12_init 23 = .ok (.putfield 15, 3) := by decide +kernel
theorem dX12_init_26 : decode cX12_init 26 = .ok (.aload_n 0, 1) := by decide +kernel
theorem dX12_init_27 : decode cX12_init 27 = .ok (.sipush 536, 3) := by decide +kernel
theorem dX12_init_30 : decode cX12_init 30 = .ok (.newarray .int, 2) := by decide +kernel
theorem dX12_init_32 : decode cX12_init 32 = .ok (.putfield 18, 3) := by decide +kernel
theorem dX12_init_35 : decode cX12_init 35 = .ok (.aload_n 0, 1) := by decide +kernel
theorem dX12_init_36 : decode cX12_init 36 = .ok (.sipush 536, 3) := by decide +kernel
theorem dX12_init_39 : decode cX12_init 39 = .ok (.newarray .int, 2) := by decide +kernel
theorem dX12_init_41 : decode cX12_init 41 = .ok (.putfield 21, 3) := by decide +kernel
theorem dX12_init_44 : decode cX12_init 44 = .ok (.aload_n 0, 1) := by decide +kernel
theorem dX12_init_45 : decode cX12_init 45 = .ok (.sipush 500, 3) := by decide +kernel
theorem dX12_init_48 : decode cX12_init 48 = .ok (.newarray .int, 2) := by decide +kernel
theorem dX12_init_50 : decode cX12_init 50 = .ok (.putfield 24, 3) := by decide +kernel
theorem dX12_init_53 : decode cX12_init 53 = .ok (.aload_n 0, 1) := by decide +kernel
theorem dX12_init_54 : decode cX12_init 54 = .ok (.bipush 14, 2) := by decide +kernel
theorem dX12_init_56 : decode cX12_init 56 = .ok (.newarray .byte, 2) := by decide +kernel
theorem dX12_init_58 : decode cX12_init 58 = .ok (.putfield 27, 3) := by decide +kernel
theorem dX12_init_61 : decode cX12_init 61 = .ok (.aload_n 0, 1) := by decide +kernel
theorem dX12_init_62 : decode cX12_init 62 = .ok (.iconst (-1), 1) := by decide +kernel
theorem dX12_init_63 : decode cX12_init 63 = .ok (.putfield 31, 3) := by decide +kernel
theorem dX12_init_66 : decode cX12_init 66 = .ok (.aload_n 0, 1) := by decide +kernel
theorem dX12_init_67 : decode cX12_init 67 = .ok (.invokevirtual 35, 3) := by decide +kernel
theorem dX12_init_70 : decode cX12_init 70 = .ok (.aload_n 0, 1) := by decide +kernel
theorem dX12_init_71 : decode cX12_init 71 = .ok (.bipush 30, 2) := by decide +kernel
theorem dX12_init_73 : decode cX12_init 73 = .ok (.invokevirtual 38, 3) := by decide +kernel
theorem dX12_init_76 : decode cX12_init 76 = .ok (.aload_n 0, 1) := by decide +kernel
theorem dX12_init_77 : decode cX12_init 77 = .ok (.bipush 20, 2) := by decide +kernel
theorem dX12_init_79 : decode cX12_init 79 = .ok (.invokevirtual 38, 3) := by decide +kernel
theorem dX12_init_82 : decode cX12_init 82 = .ok (.aload_n 0, 1) := by decide +kernel
theorem dX12_init_83 : decode cX12_init 83 = .ok (.bipush 15, 2) := by decide +kernel
theorem dX12_init_85 : decode cX12_init 85 = .ok (.invokevirtual 38, 3) := by decide +kernel
theorem dX12_init_88 : decode cX12_init 88 = .ok (.aload_n 0, 1) := by decide +kernel
theorem dX12_init_89 : decode cX12_init 89 = .ok (.iconst 0, 1) := by decide +kernel
theorem dX12_init_90 : decode cX12_init 90 = .ok (.iconst 2, 1) := by decide +kernel
theorem dX12_init_91 : decode cX12_init 91 = .ok (.iconst 0, 1) := by decide +kernel
theorem dX12_init_92 : decode cX12_init 92 = .ok (.bipush 9, 2) := by decide +kernel
theorem dX12_init_94 : decode cX12_init 94 = .ok (.invokevirtual 42, 3) := by decide +kernel
theorem dX12_init_97 : decode cX12_init 97 = .ok (.istore_n 1, 1) := by decide +kernel
theorem dX12_init_98 : decode cX12_init 98 = .ok (.aload_n 0, 1) := by decide +kernel
theorem dX12_init_99 : decode cX12_init 99 = .ok (.iconst 1, 1) := by decide +kernel
theorem dX12_init_100 : decode cX12_init 100 = .ok (.iconst 1, 1) := by decide +kernel
theorem dX12_init_101 : decode cX12_init 101 = .ok (.iconst 5, 1) := by decide +kernel
theorem dX12_init_102 : decode cX12_init 102 = .ok (.bipush 9, 2) := by decide +kernel
theorem dX12_init_104 : decode cX12_init 104 = .ok (.invokevirtual 42, 3) := by decide +kernel
theorem dX12_init_107 : decode cX12_init 107 = .ok (.istore_n 1, 1) := by decide +kernel
theorem dX12_init_108 : decode cX12_init 108 = .ok (.aload_n 0, 1) := by decide +kernel
theorem dX12_init_109 : decode cX12_init 109 = .ok (.iconst 2, 1) := by decide +kernel
theorem dX12_init_110 : decode cX12_init 110 = .ok (.iconst 3, 1) := by decide +kernel
theorem dX12_init_111 : decode cX12_init 111 = .ok (.iconst 0, 1) := by decide +kernel
theorem dX12_init_112 : decode cX12_init 112 = .ok (.iconst 0, 1) := by decide +kernel
theorem dX12_init_113 : decode cX12_init 113 = .ok (.invokevirtual 42, 3) := by decide +kernel
theorem dX12_init_116 : decode cX12_init 116 = .ok (.istore_n 1, 1) := by decide +kernel
theorem dX12_init_117 : decode cX12_init 117 = .ok (.aload_n 0, 1) := by decide +kernel
theorem dX12_init_118 : decode cX12_init 118 = .ok (.iconst 1, 1) := by decide +kernel
theorem dX12_init_119 : decode cX12_init 119 = .ok (.iconst 0, 1) := by decide +kernel
theorem dX12_init_120 : decode cX12_init 120 = .ok (.iconst 1, 1) := by decide +kernel
theorem dX12_init_121 : decode cX12_init 121 = .ok (.iconst 0, 1) := by decide +kernel
theorem dX12_init_122 : decode cX12_init 122 = .ok (.invokevirtual 46, 3) := by decide +kernel
theorem dX12_init_125 : decode cX12_init 125 = .ok (.istore_n 1, 1) := by decide +kernel
theorem dX12_init_126 : decode cX12_init 126 = .ok (.aload_n 0, 1) := by decide +kernel
theorem dX12_init_127 : decode cX12_init 127 = .ok (.iconst 3, 1) := by decide +kernel
theorem dX12_init_128 : decode cX12_init 128 = .ok (.iconst 0, 1) := by decide +kernel
theorem dX12_init_129 : decode cX12_init 129 = .ok (.bipush 6, 2) := by decide +kernel
theorem dX12_init_131 : decode cX12_init 131 = .ok (.iconst 0, 1) := by decide +kernel
theorem dX12_init_132 : decode cX12_init 132 = .ok (.invokevirtual 46, 3) := by decide +kernel
theorem dX12_init_135 : decode cX12_init 135 = .ok (.istore_n 1, 1) := by decide +kernel
theorem dX12_init_136 : decode cX12_init 136 = .ok (.aload_n 0, 1) := by decide +kernel
theorem dX12_init_137 : decode cX12_init 137 = .ok (.bipush 7, 2) := by decide +kernel
theorem dX12_init_139 : decode cX12_init 139 = .ok (.iconst 1, 1) := by decide +kernel
theorem dX12_init_140 : decode cX12_init 140 = .ok (.iconst 3, 1) := by decide +kernel
theorem dX12_init_141 : decode cX12_init 141 = .ok (.iconst 1, 1) := by decide +kernel
theorem dX12_init_142 : decode cX12_init 142 = .ok (.invokevirtual 46, 3) := by decide +kernel
theorem dX12_init_145 : decode cX12_init 145 = .ok (.istore_n 1, 1) := by decide +kernel
theorem dX12_init_146 : decode cX12_init 146 = .ok (.aload_n 0, 1) := by decide +kernel
theorem dX12_init_147 : decode cX12_init 147 = .ok (.bipush 40, 2) := by decide +kernel
theorem dX12_init_149 : decode cX12_init 149 = .ok (.invokevirtual 49, 3) := by decide +kernel
theorem dX12_init_152 : decode cX12_init 152 = .ok (.aload_n 0, 1) := by decide +kernel
theorem dX12_init_153 : decode cX12_init 153 = .ok (.iconst 0, 1) := by decide +kernel
theorem dX12_init_154 : decode cX12_init 154 = .ok (.iconst 0, 1) := by decide +kernel
theorem dX12_init_155 : decode cX12_init 155 = .ok (.invokevirtual 52, 3) := by decide +kernel
theorem dX12_init_158 : decode cX12_init 158 = .ok (.istore_n 1, 1) := by decide +kernel
theorem dX12_init_159 : decode cX12_init 159 = .ok (.aload_n 0, 1) := by decide +kernel
theorem dX12_init_160 : decode cX12_init 160 = .ok (.iconst 1, 1) := by decide +kernel
theorem dX12_init_161 : decode cX12_init 161 = .ok (.iconst 1, 1) := by decide +kernel
theorem dX12_init_162 : decode cX12_init 162 = .ok (.invokevirtual 52, 3) := by decide +kernel
theorem dX12_init_165 : decode cX12_init 165 = .ok (.istore_n 1, 1) := by decide +kernel
theorem dX12_init_166 : decode cX12_init 166 = .ok (.aload_n 0, 1) := by decide +kernel
theorem dX12_init_167 : decode cX12_init 167 = .ok (.iconst 0, 1) := by decide +kernel
theorem dX12_init_168 : decode cX12_init 168 = .ok (.iconst 2, 1) := by decide +kernel
theorem dX12_init_169 : decode cX12_init 169 = .ok (.invokevirtual 56, 3) := by decide +kernel
theorem dX12_init_172 : decode cX12_init 172 = .ok (.istore_n 1, 1) := by decide +kernel
theorem dX12_init_173 : decode cX12_init 173 = .ok (.aload_n 0, 1) := by decide +kernel
theorem dX12_init_174 : decode cX12_init 174 = .ok (.iconst 2, 1) := by decide +kernel
theorem dX12_init_175 : decode cX12_init 175 = .ok (.invokevirtual 49, 3) := by decide +kernel
theorem dX12_init_178 : decode cX12_init 178 = .ok (.aload_n 0, 1) := by decide +kernel
theorem dX12_init_179 : decode cX12_init 179 = .ok (.iconst 1, 1) := by decide +kernel
theorem dX12_init_180 : decode cX12_init 180 = .ok (.iconst 0, 1) := by decide +kernel
theorem dX12_init_181 : decode cX12_init 181 = .ok (.invokevirtual 52, 3) := by decide +kernel
theorem dX12_init_184 : decode cX12_init 184 = .ok (.istore_n 1, 1) := by decide +kernel
theorem dX12_init_185 : decode cX12_init 185 = .ok (.aload_n 0, 1) := by decide +kernel
theorem dX12_init_186 : decode cX12_init 186 = .ok (.iconst 1, 1) := by decide +kernel
theorem dX12_init_187 : decode cX12_init 187 = .ok (.iconst 3, 1) := by decide +kernel
theorem dX12_init_188 : decode cX12_init 188 = .ok (.invokevirtual 56, 3) := by decide +kernel
theorem dX12_init_191 : decode cX12_init 191 = .ok (.istore_n 1, 1) := by decide +kernel
theorem dX12_init_192 : decode cX12_init 192 = .ok (.aload_n 0, 1) := by decide +kernel
theorem dX12_init_193 : decode cX12_init 193 = .ok (.iconst 0, 1) := by decide +kernel
theorem dX12_init_194 : decode cX12_init 194 = .ok (.invokevirtual 59, 3) := by decide +kernel
theorem dX12_init_197 : decode cX12_init 197 = .ok (.istore_n 1, 1) := by decide +kernel
theorem dX12_init_198 : decode cX12_init 198 = .ok (.return_, 1) := by decide +kernel
theorem dX12_thrown_0 : decode cX12_thrown 0 = .ok (.aload_n 0, 1) := by decide +kernel
theorem dX12_thrown_1 : decode cX12_thrown 1 = .ok (.getfield 63, 3) := by decide +kernel
theorem dX12_thrown_4 : decode cX12_thrown 4 = .ok (.ireturn, 1) := by decide +kernel
theorem dX12_copy_0 : decode cX12_copy 0 = .ok (.iconst 0, 1) := by decide +kernel
theorem dX12_copy_1 : decode cX12_copy 1 = .ok (.istore_n 2, 1) := by decide +kernel
theorem dX12_copy_2 : decode cX12_copy 2 = .ok (.iload_n 2, 1) := by decide +kernel
theorem dX12_copy_3 : decode cX12_copy 3 = .ok (.sipush 536, 3) := by decide +kernel
theorem dX12_copy_6 : decode cX12_copy 6 = .ok (.if_icmp .ge 15, 3) := by decide +kernel
theorem dX12_copy_9 : decode cX12_copy 9 = .ok (.aload_n 1, 1) := by decide +kernel
theorem dX12_copy_10 : decode cX12_copy 10 = .ok (.iload_n 2, 1) := by decide +kernel
theorem dX12_copy_11 : decode cX12_copy 11 = .ok (.aload_n 0, 1) := by decide +kernel
theorem dX12_copy_12 : decode cX12_copy 12 = .ok (.iload_n 2, 1) := by decide +kernel
theorem dX12_copy_13 : decode cX12_copy 13 = .ok (.iaload, 1) := by decide +kernel
theorem dX12_copy_14 : decode cX12_copy 14 = .ok (.iastore, 1) := by decide +kernel
theorem dX12_copy_15 : decode cX12_copy 15 = .ok (.iinc 2 1, 3) := by decide +kernel
theorem dX12_copy_18 : decode cX12_copy 18 = .ok (.goto (-16), 3) := by decide +kernel
theorem dX12_copy_21 : decode cX12_copy 21 = .ok (.return_, 1) := by decide +kernel
theorem dX12_empty_0 : decode cX12_empty 0 = .ok (.iconst 0, 1) := by decide +kernel
theorem dX12_empty_1 : decode cX12_empty 1 = .ok (.istore_n 1, 1) := by decide +kernel
theorem dX12_empty_2 : decode cX12_empty 2 = .ok (.iload_n 1, 1) := by decide +kernel
theorem dX12_empty_3 : decode cX12_empty 3 = .ok (.sipush 536, 3) := by decide +kernel
theorem dX12_empty_6 : decode cX12_empty 6 = .ok (.if_icmp .ge 16, 3) := by decide +kernel
theorem dX12_empty_9 : decode cX12_empty 9 = .ok (.aload_n 0, 1) := by decide +kernel
theorem dX12_empty_10 : decode cX12_empty 10 = .ok (.getfield 9, 3) := by decide +kernel
theorem dX12_empty_13 : decode cX12_empty 13 = .ok (.iload_n 1, 1) := by decide +kernel
theorem dX12_empty_14 : decode cX12_empty 14 = .ok (.iconst 0, 1) := by decide +kernel
theorem dX12_empty_15 : decode cX12_empty 15 = .ok (.iastore, 1) := by decide +kernel
theorem dX12_empty_16 : decode cX12_empty 16 = .ok (.iinc 1 1, 3) := by decide +kernel
theorem dX12_empty_19 : decode cX12_empty 19 = .ok (.goto (-17), 3) := by decide +kernel
theorem dX12_empty_22 : decode cX12_empty 22 = .ok (.aload_n 0, 1) := by decide +kernel
theorem dX12_empty_23 : decode cX12_empty 23 = .ok (.getfield 9, 3) := by decide +kernel
theorem dX12_empty_26 : decode cX12_empty 26 = .ok (.iconst 5, 1) := by decide +kernel
theorem dX12_empty_27 : decode cX12_empty 27 = .ok (.iconst 2, 1) := by decide +kernel
theorem dX12_empty_28 : decode cX12_empty 28 = .ok (.iastore, 1) := by decide +kernel
theorem dX12_empty_29 : decode cX12_empty 29 = .ok (.aload_n 0, 1) := by decide +kernel
theorem dX12_empty_30 : decode cX12_empty 30 = .ok (.getfield 9, 3) := by decide +kernel
theorem dX12_empty_33 : decode cX12_empty 33 = .ok (.bipush 6, 2) := by decide +kernel
theorem dX12_empty_35 : decode cX12_empty 35 = .ok (.iconst 1, 1) := by decide +kernel
theorem dX12_empty_36 : decode cX12_empty 36 = .ok (.iastore, 1) := by decide +kernel
theorem dX12_empty_37 : decode cX12_empty 37 = .ok (.aload_n 0, 1) := by decide +kernel
theorem dX12_empty_38 : decode cX12_empty 38 = .ok (.getfield 9, 3) := by decide +kernel
theorem dX12_empty_41 : decode cX12_empty 41 = .ok (.bipush 7, 2) := by decide +kernel
theorem dX12_empty_43 : decode cX12_empty 43 = .ok (.bipush 50, 2) := by decide +kernel
theorem dX12_empty_45 : decode cX12_empty 45 = .ok (.iastore, 1) := by decide +kernel
theorem dX12_empty_46 : decode cX12_empty 46 = .ok (.aload_n 0, 1) := by decide +kernel
theorem dX12_empty_47 : decode cX12_empty 47 = .ok (.getfield 9, 3) := by decide +kernel
theorem dX12_empty_50 : decode cX12_empty 50 = .ok (.bipush 8, 2) := by decide +kernel
theorem dX12_empty_52 : decode cX12_empty 52 = .ok (.bipush 53, 2) := by decide +kernel
theorem dX12_empty_54 : decode cX12_empty 54 = .ok (.iastore, 1) := by decide +kernel
theorem dX12_empty_55 : decode cX12_empty 55 = .ok (.return_, 1) := by decide +kernel
theorem dX12_remember_0 : decode cX12_remember 0 = .ok (.aload_n 0, 1) := by decide +kernel
theorem dX12_remember_1 : decode cX12_remember 1 = .ok (.getfield 66, 3) := by decide +kernel
theorem dX12_remember_4 : decode cX12_remember 4 = .ok (.bipush 8, 2) := by decide +kernel
theorem dX12_remember_6 : decode cX12_remember 6 = .ok (.if_icmp .ne 56, 3) := by decide +kernel
theorem dX12_remember_9 : decode cX12_remember 9 = .ok (.aload_n 0, 1) := by decide +kernel
theorem dX12_remember_10 : decode cX12_remember 10 = .ok (.getfield 15, 3) := by decide +kernel
theorem dX12_remember_13 : decode cX12_remember 13 = .ok (.iconst 0, 1) := by decide +kernel
theorem dX12_remember_14 : decode cX12_remember 14 = .ok (.aaload, 1) := by decide +kernel
theorem dX12_remember_15 : decode cX12_remember 15 = .ok (.astore_n 2, 1) := by decide +kernel
theorem dX12_remember_16 : decode cX12_remember 16 = .ok (.iconst 1, 1) := by decide +kernel
theorem dX12_remember_17 : decode cX12_remember 17 = .ok (.istore_n 3, 1) := by decide +kernel
theorem dX12_remember_18 : decode cX12_remember 18 = .ok (.iload_n 3, 1) := by decide +kernel
theorem dX12_remember_19 : decode cX12_remember 19 = .ok (.bipush 8, 2) := by decide +kernel
theorem dX12_remember_21 : decode cX12_remember 21 = .ok (.if_icmp .ge 23, 3) := by decide +kernel
theorem dX12_remember_24 : decode cX12_remember 24 = .ok (.aload_n 0, 1) := by decide +kernel
theorem dX12_remember_25 : decode cX12_remember 25 = .ok (.getfield 15, 3) := by decide +kernel
theorem dX12_remember_28 : decode cX12_remember 28 = .ok (.iload_n 3, 1) := by decide +kernel
theorem dX12_remember_29 : decode cX12_remember 29 = .ok (.iconst 1, 1) := by decide +kernel
theorem dX12_remember_30 : decode cX12_remember 30 = .ok (.isub, 1) := by decide +kernel
theorem dX12_remember_31 : decode cX12_remember 31 = .ok (.aload_n 0, 1) := by decide +kernel
theorem dX12_remember_32 : decode cX12_remember 32 = .ok (.getfield 15, 3) := by decide +kernel
theorem dX12_remember_35 : decode cX12_remember 35 = .ok (.iload_n 3, 1) := by decide +kernel
theorem dX12_remember_36 : decode cX12_remember 36 = .ok (.aaload, 1) := by decide +kernel
theorem dX12_remember_37 : decode cX12_remember 37 = .ok (.aastore, 1) := by decide +kernel
theorem dX12_remember_38 : decode cX12_remember 38 = .ok (.iinc 3 1, 3) := by decide +kernel
theorem dX12_remember_41 : decode cX12_remember 41 = .ok (.goto (-23), 3) := by decide +kernel
theorem dX12_remember_44 : decode cX12_remember 44 = .ok (.aload_n 0, 1) := by decide +kernel
theorem dX12_remember_45 : decode cX12_remember 45 = .ok (.getfield 15, 3) := by decide +kernel
theorem dX12_remember_48 : decode cX12_remember 48 = .ok (.bipush 7, 2) := by decide +kernel
theorem dX12_remember_50 : decode cX12_remember 50 = .ok (.aload_n 2, 1) := by decide +kernel
theorem dX12_remember_51 : decode cX12_remember 51 = .ok (.aastore, 1) := by decide +kernel
theorem dX12_remember_52 : decode cX12_remember 52 = .ok (.aload_n 0, 1) := by decide +kernel
theorem dX12_remember_53 : decode cX12_remember 53 = .ok (.dup, 1) := by decide +kernel
theorem dX12_remember_54 : decode cX12_remember 54 = .ok (.getfield 66, 3) := by decide +kernel
theorem dX12_remember_57 : decode cX12_remember 57 = .ok (.iconst 1, 1) := by decide +kernel
theorem dX12_remember_58 : decode cX12_remember 58 = .ok (.isub, 1) := by decide +kernel
theorem dX12_remember_59 : decode cX12_remember 59 = .ok (.putfield 66, 3) := by decide +kernel
theorem dX12_remember_62 : decode cX12_remember 62 = .ok (.aload_n 1, 1) := by decide +kernel
theorem dX12_remember_63 : decode cX12_remember 63 = .ok (.aload_n 0, 1) := by decide +kernel
theorem dX12_remember_64 : decode cX12_remember 64 = .ok (.getfield 15, 3) := by decide +kernel
theorem dX12_remember_67 : decode cX12_remember 67 = .ok (.aload_n 0, 1) := by decide +kernel
theorem dX12_remember_68 : decode cX12_remember 68 = .ok (.getfield 66, 3) := by decide +kernel
theorem dX12_remember_71 : decode cX12_remember 71 = .ok (.aaload, 1) := by decide +kernel
theorem dX12_remember_72 : decode cX12_remember 72 = .ok (.invokestatic 69, 3) := by decide +kernel
theorem dX12_remember_75 : decode cX12_remember 75 = .ok (.aload_n 0, 1) := by decide +kernel
theorem dX12_remember_76 : decode cX12_remember 76 = .ok (.dup, 1) := by decide +kernel
theorem dX12_remember_77 : decode cX12_remember 77 = .ok (.getfield 66, 3) := by decide +kernel
theorem dX12_remember_80 : decode cX12_remember 80 = .ok (.iconst 1, 1) := by decide +kernel
theorem dX12_remember_81 : decode cX12_remember 81 = .ok (.iadd, 1) := by decide +kernel
theorem dX12_remember_82 : decode cX12_remember 82 = .ok (.putfield 66, 3) := by decide +kernel
theorem dX12_remember_85 : decode cX12_remember 85 = .ok (.return_, 1) := by decide +kernel
theorem dX12_outside_0 : decode cX12_outside 0 = .ok (.iload_n 1, 1) := by decide +kernel
theorem dX12_outside_1 : decode cX12_outside 1 = .ok (.iload_n 2, 1) := by decide +kernel
theorem dX12_outside_2 : decode cX12_outside 2 = .ok (.if_icmp .lt 8, 3) := by decide +kernel
theorem dX12_outside_5 : decode cX12_outside 5 = .ok (.iload_n 1, 1) := by decide +kernel
theorem dX12_outside_6 : decode cX12_outside 6 = .ok (.iload_n 3, 1) := by decide +kernel
theorem dX12_outside_7 : decode cX12_outside 7 = .ok (.if_icmp .le 11, 3) := by decide +kernel
theorem dX12_outside_10 : decode cX12_outside 10 = .ok (.aload_n 0, 1) := by decide +kernel
theorem dX12_outside_11 : decode cX12_outside 11 = .ok (.iload 4, 2) := by decide +kernel
theorem dX12_outside_13 : decode cX12_outside 13 = .ok (.putfield 63, 3) := by decide +kernel
theorem dX12_outside_16 : decode cX12_outside 16 = .ok (.iconst 1, 1) := by decide +kernel
theorem dX12_outside_17 : decode cX12_outside 17 = .ok (.ireturn, 1) := by decide +kernel
theorem dX12_outside_18 : decode cX12_outside 18 = .ok (.iconst 0, 1) := by decide +kernel
theorem dX12_outside_19 : decode cX12_outside 19 = .ok (.ireturn, 1) := by decide +kernel
theorem dX12_raise_0 : decode cX12_raise 0 = .ok (.iload_n 1, 1) := by decide +kernel
theorem dX12_raise_1 : decode cX12_raise 1 = .ok (.ifCond .eq 8, 3) := by decide +kernel
theorem dX12_raise_4 : decode cX12_raise 4 = .ok (.aload_n 0, 1) := by decide +kernel
theorem dX12_raise_5 : decode cX12_raise 5 = .ok (.iload_n 2, 1) := by decide +kernel
theorem dX12_raise_6 : decode cX12_raise 6 = .ok (.putfield 63, 3) := by decide +kernel
theorem dX12_raise_9 : decode cX12_raise 9 = .ok (.iload_n 1, 1) := by decide +kernel
theorem dX12_raise_10 : decode cX12_raise 10 = .ok (.ireturn, 1) := by decide +kernel
theorem dX12_noScent_0 : decode cX12_noScent 0 = .ok (.aload_n 0, 1) := by decide +kernel
theorem dX12_noScent_1 : decode cX12_noScent 1 = .ok (.iload_n 1, 1) := by decide +kernel
theorem dX12_noScent_2 : decode cX12_noScent 2 = .ok (.iconst 0, 1) := by decide +kernel
theorem dX12_noScent_3 : decode cX12_noScent 3 = .ok (.aload_n 0, 1) := by decide +kernel
theorem dX12_noScent_4 : decode cX12_noScent 4 = .ok (.getfield 9, 3) := by decide +kernel
theorem dX12_noScent_7 : decode cX12_noScent 7 = .ok (.iconst 0, 1) := by decide +kernel
theorem dX12_noScent_8 : decode cX12_noScent 8 = .ok (.iaload, 1) := by decide +kernel
theorem dX12_noScent_9 : decode cX12_noScent 9 = .ok (.iconst 1, 1) := by decide +kernel
theorem dX12_noScent_10 : decode cX12_noScent 10 = .ok (.isub, 1) := by decide +kernel
theorem dX12_noScent_11 : decode cX12_noScent 11 = .ok (.iconst 1, 1) := by decide +kernel
theorem dX12_noScent_12 : decode cX12_noScent 12 = .ok (.invokevirtual 73, 3) := by decide +kernel
theorem dX12_noScent_15 : decode cX12_noScent 15 = .ok (.ireturn, 1) := by decide +kernel
theorem dX12_noBed_0 : decode cX12_noBed 0 = .ok (.aload_n 0, 1) := by decide +kernel
theorem dX12_noBed_1 : decode cX12_noBed 1 = .ok (.iload_n 1, 1) := by decide +kernel
theorem dX12_noBed_2 : decode cX12_noBed 2 = .ok (.iconst 0, 1) := by decide +kernel
theorem dX12_noBed_3 : decode cX12_noBed 3 = .ok (.aload_n 0, 1) := by decide +kernel
theorem dX12_noBed_4 : decode cX12_noBed 4 = .ok (.getfield 9, 3) := by decide +kernel
theorem dX12_noBed_7 : decode cX12_noBed 7 = .ok (.iconst 1, 1) := by decide +kernel
theorem dX12_noBed_8 : decode cX12_noBed 8 = .ok (.iaload, 1) := by decide +kernel
theorem dX12_noBed_9 : decode cX12_noBed 9 = .ok (.iconst 1, 1) := by decide +kernel
theorem dX12_noBed_10 : decode cX12_noBed 10 = .ok (.isub, 1) := by decide +kernel
theorem dX12_noBed_11 : decode cX12_noBed 11 = .ok (.iconst 1, 1) := by decide +kernel
theorem dX12_noBed_12 : decode cX12_noBed 12 = .ok (.invokevirtual 73, 3) := by decide +kernel
theorem dX12_noBed_15 : decode cX12_noBed 15 = .ok (.ireturn, 1) := by decide +kernel
theorem dX12_noPass_0 : decode cX12_noPass 0 = .ok (.aload_n 0, 1) := by decide +kernel
theorem dX12_noPass_1 : decode cX12_noPass 1 = .ok (.iload_n 1, 1) := by decide +kernel
theorem dX12_noPass_2 : decode cX12_noPass 2 = .ok (.iconst 0, 1) := by decide +kernel
theorem dX12_noPass_3 : decode cX12_noPass 3 = .ok (.aload_n 0, 1) := by decide +kernel
theorem dX12_noPass_4 : decode cX12_noPass 4 = .ok (.getfield 9, 3) := by decide +kernel
theorem dX12_noPass_7 : decode cX12_noPass 7 = .ok (.iconst 2, 1) := by decide +kernel
theorem dX12_noPass_8 : decode cX12_noPass 8 = .ok (.iaload, 1) := by decide +kernel
theorem dX12_noPass_9 : decode cX12_noPass 9 = .ok (.iconst 1, 1) := by decide +kernel
theorem dX12_noPass_10 : decode cX12_noPass 10 = .ok (.isub, 1) := by decide +kernel
theorem dX12_noPass_11 : decode cX12_noPass 11 = .ok (.iconst 1, 1) := by decide +kernel
theorem dX12_noPass_12 : decode cX12_noPass 12 = .ok (.invokevirtual 73, 3) := by decide +kernel
theorem dX12_noPass_15 : decode cX12_noPass 15 = .ok (.ireturn, 1) := by decide +kernel
theorem dX12_noCard_0 : decode cX12_noCard 0 = .ok (.aload_n 0, 1) := by decide +kernel
theorem dX12_noCard_1 : decode cX12_noCard 1 = .ok (.iload_n 1, 1) := by decide +kernel
theorem dX12_noCard_2 : decode cX12_noCard 2 = .ok (.iconst 0, 1) := by decide +kernel
theorem dX12_noCard_3 : decode cX12_noCard 3 = .ok (.aload_n 0, 1) := by decide +kernel
theorem dX12_noCard_4 : decode cX12_noCard 4 = .ok (.getfield 9, 3) := by decide +kernel
theorem dX12_noCard_7 : decode cX12_noCard 7 = .ok (.iconst 3, 1) := by decide +kernel
theorem dX12_noCard_8 : decode cX12_noCard 8 = .ok (.iaload, 1) := by decide +kernel
theorem dX12_noCard_9 : decode cX12_noCard 9 = .ok (.iconst 1, 1) := by decide +kernel
theorem dX12_noCard_10 : decode cX12_noCard 10 = .ok (.isub, 1) := by decide +kernel
theorem dX12_noCard_11 : decode cX12_noCard 11 = .ok (.iconst 1, 1) := by decide +kernel
theorem dX12_noCard_12 : decode cX12_noCard 12 = .ok (.invokevirtual 73, 3) := by decide +kernel
theorem dX12_noCard_15 : decode cX12_noCard 15 = .ok (.ireturn, 1) := by decide +kernel
theorem dX12_ones_0 : decode cX12_ones 0 = .ok (.iconst 0, 1) := by decide +kernel
theorem dX12_ones_1 : decode cX12_ones 1 = .ok (.istore_n 1, 1) := by decide +kernel
theorem dX12_ones_2 : decode cX12_ones 2 = .ok (.iload_n 0, 1) := by decide +kernel
theorem dX12_ones_3 : decode cX12_ones 3 = .ok (.istore_n 2, 1) := by decide +kernel
theorem dX12_ones_4 : decode cX12_ones 4 = .ok (.iload_n 2, 1) := by decide +kernel
theorem dX12_ones_5 : decode cX12_ones 5 = .ok (.ifCond .eq 15, 3) := by decide +kernel
theorem dX12_ones_8 : decode cX12_ones 8 = .ok (.iinc 1 1, 3) := by decide +kernel
theorem dX12_ones_11 : decode cX12_ones 11 = .ok (.iload_n 2, 1) := by decide +kernel
theorem dX12_ones_12 : decode cX12_ones 12 = .ok (.iload_n 2, 1) := by decide +kernel
theorem dX12_ones_13 : decode cX12_ones 13 = .ok (.iconst 1, 1) := by decide +kernel
theorem dX12_ones_14 : decode cX12_ones 14 = .ok (.isub, 1) := by decide +kernel
theorem dX12_ones_15 : decode cX12_ones 15 = .ok (.iand, 1) := by decide +kernel
theorem dX12_ones_16 : decode cX12_ones 16 = .ok (.istore_n 2, 1) := by decide +kernel
theorem dX12_ones_17 : decode cX12_ones 17 = .ok (.goto (-13), 3) := by decide +kernel
theorem dX12_ones_20 : decode cX12_ones 20 = .ok (.iload_n 1, 1) := by decide +kernel
theorem dX12_ones_21 : decode cX12_ones 21 = .ok (.ireturn, 1) := by decide +kernel
theorem dX12_bed_0 : decode cX12_bed 0 = .ok (.aload_n 0, 1) := by decide +kernel
theorem dX12_bed_1 : decode cX12_bed 1 = .ok (.getfield 9, 3) := by decide +kernel
theorem dX12_bed_4 : decode cX12_bed 4 = .ok (.bipush 20, 2) := by decide +kernel
theorem dX12_bed_6 : decode cX12_bed 6 = .ok (.iload_n 1, 1) := by decide +kernel
theorem dX12_bed_7 : decode cX12_bed 7 = .ok (.bipush 7, 2) := by decide +kernel
theorem dX12_bed_9 : decode cX12_bed 9 = .ok (.imul, 1) := by decide +kernel
theorem dX12_bed_10 : decode cX12_bed 10 = .ok (.iadd, 1) := by decide +kernel
theorem dX12_bed_11 : decode cX12_bed 11 = .ok (.iload_n 2, 1) := by decide +kernel
theorem dX12_bed_12 : decode cX12_bed 12 = .ok (.iadd, 1) := by decide +kernel
theorem dX12_bed_13 : decode cX12_bed 13 = .ok (.iaload, 1) := by decide +kernel
theorem dX12_bed_14 : decode cX12_bed 14 = .ok (.ireturn, 1) := by decide +kernel
theorem dX12_putBed_0 : decode cX12_putBed 0 = .ok (.aload_n 0, 1) := by decide +kernel
theorem dX12_putBed_1 : decode cX12_putBed 1 = .ok (.getfield 9, 3) := by decide +kernel
theorem dX12_putBed_4 : decode cX12_putBed 4 = .ok (.bipush 20, 2) := by decide +kernel
theorem dX12_putBed_6 : decode cX12_putBed 6 = .ok (.iload_n 1, 1) := by decide +kernel
theorem dX12_putBed_7 : decode cX12_putBed 7 = .ok (.bipush 7, 2) := by decide +kernel
theorem dX12_putBed_9 : decode cX12_putBed 9 = .ok (.imul, 1) := by decide +kernel
theorem dX12_putBed_10 : decode cX12_putBed 10 = .ok (.iadd, 1) := by decide +kernel
theorem dX12_putBed_11 : decode cX12_putBed 11 = .ok (.iload_n 2, 1) := by decide +kernel
theorem dX12_putBed_12 : decode cX12_putBed 12 = .ok (.iadd, 1) := by decide +kernel
theorem dX12_putBed_13 : decode cX12_putBed 13 = .ok (.iload_n 3, 1) := by decide +kernel
theorem dX12_putBed_14 : decode cX12_putBed 14 = .ok (.iastore, 1) := by decide +kernel
theorem dX12_putBed_15 : decode cX12_putBed 15 = .ok (.return_, 1) := by decide +kernel
theorem dX12_of_0 : decode cX12_of 0 = .ok (.aload_n 0, 1) := by decide +kernel
theorem dX12_of_1 : decode cX12_of 1 = .ok (.getfield 9, 3) := by decide +kernel
theorem dX12_of_4 : decode cX12_of 4 = .ok (.bipush 76, 2) := by decide +kernel
theorem dX12_of_6 : decode cX12_of 6 = .ok (.iload_n 1, 1) := by decide +kernel
theorem dX12_of_7 : decode cX12_of 7 = .ok (.bipush 12, 2) := by decide +kernel
theorem dX12_of_9 : decode cX12_of 9 = .ok (.imul, 1) := by decide +kernel
theorem dX12_of_10 : decode cX12_of 10 = .ok (.iadd, 1) := by decide +kernel
theorem dX12_of_11 : decode cX12_of 11 = .ok (.iload_n 2, 1) := by decide +kernel
theorem dX12_of_12 : decode cX12_of 12 = .ok (.iadd, 1) := by decide +kernel
theorem dX12_of_13 : decode cX12_of 13 = .ok (.iaload, 1) := by decide +kernel
theorem dX12_of_14 : decode cX12_of 14 = .ok (.ireturn, 1) := by decide +kernel
theorem dX12_put_0 : decode cX12_put 0 = .ok (.aload_n 0, 1) := by decide +kernel
theorem dX12_put_1 : decode cX12_put 1 = .ok (.getfield 9, 3) := by decide +kernel
theorem dX12_put_4 : decode cX12_put 4 = .ok (.bipush 76, 2) := by decide +kernel
theorem dX12_put_6 : decode cX12_put 6 = .ok (.iload_n 1, 1) := by decide +kernel
theorem dX12_put_7 : decode cX12_put 7 = .ok (.bipush 12, 2) := by decide +kernel
theorem dX12_put_9 : decode cX12_put 9 = .ok (.imul, 1) := by decide +kernel
theorem dX12_put_10 : decode cX12_put 10 = .ok (.iadd, 1) := by decide +kernel
theorem dX12_put_11 : decode cX12_put 11 = .ok (.iload_n 2, 1) := by decide +kernel
theorem dX12_put_12 : decode cX12_put 12 = .ok (.iadd, 1) := by decide +kernel
theorem dX12_put_13 : decode cX12_put 13 = .ok (.iload_n 3, 1) := by decide +kernel
theorem dX12_put_14 : decode cX12_put 14 = .ok (.iastore, 1) := by decide +kernel
theorem dX12_put_15 : decode cX12_put 15 = .ok (.return_, 1) := by decide +kernel
theorem dX12_passOfCard_0 : decode cX12_passOfCard 0 = .ok (.aload_n 0, 1) := by decide +kernel
theorem dX12_passOfCard_1 : decode cX12_passOfCard 1 = .ok (.getfield 9, 3) := by decide +kernel
theorem dX12_passOfCard_4 : decode cX12_passOfCard 4 = .ok (.sipush 436, 3) := by decide +kernel
theorem dX12_passOfCard_7 : decode cX12_passOfCard 7 = .ok (.iconst 2, 1) := by decide +kernel
theorem dX12_passOfCard_8 : decode cX12_passOfCard 8 = .ok (.iload_n 1, 1) := by decide +kernel
theorem dX12_passOfCard_9 : decode cX12_passOfCard 9 = .ok (.imul, 1) := by decide +kernel
theorem dX12_passOfCard_10 : decode cX12_passOfCard 10 = .ok (.iadd, 1) := by decide +kernel
theorem dX12_passOfCard_11 : decode cX12_passOfCard 11 = .ok (.iaload, 1) := by decide +kernel
theorem dX12_passOfCard_12 : decode cX12_passOfCard 12 = .ok (.ireturn, 1) := by decide +kernel
theorem dX12_blocked_0 : decode cX12_blocked 0 = .ok (.aload_n 0, 1) := by decide +kernel
theorem dX12_blocked_1 : decode cX12_blocked 1 = .ok (.getfield 9, 3) := by decide +kernel
theorem dX12_blocked_4 : decode cX12_blocked 4 = .ok (.sipush 436, 3) := by decide +kernel
theorem dX12_blocked_7 : decode cX12_blocked 7 = .ok (.iconst 2, 1) := by decide +kernel
theorem dX12_blocked_8 : decode cX12_blocked 8 = .ok (.iload_n 1, 1) := by decide +kernel
theorem dX12_blocked_9 : decode cX12_blocked 9 = .ok (.imul, 1) := by decide +kernel
theorem dX12_blocked_10 : decode cX12_blocked 10 = .ok (.iadd, 1) := by decide +kernel
theorem dX12_blocked_11 : decode cX12_blocked 11 = .ok (.iconst 1, 1) := by decide +kernel
theorem dX12_blocked_12 : decode cX12_blocked 12 = .ok (.iadd, 1) := by decide +kernel
theorem dX12_blocked_13 : decode cX12_blocked 13 = .ok (.iaload, 1) := by decide +kernel
theorem dX12_blocked_14 : decode cX12_blocked 14 = .ok (.iconst 1, 1) := by decide +kernel
theorem dX12_blocked_15 : decode cX12_blocked 15 = .ok (.if_icmp .ne 7, 3) := by decide +kernel
theorem dX12_blocked_18 : decode cX12_blocked 18 = .ok (.iconst 1, 1) := by decide +kernel
theorem dX12_blocked_19 : decode cX12_blocked 19 = .ok (.goto 4, 3) := by decide +kernel
theorem dX12_blocked_22 : decode cX12_blocked 22 = .ok (.iconst 0, 1) := by decide +kernel
theorem dX12_blocked_23 : decode cX12_blocked 23 = .ok (.ireturn, 1) := by decide +kernel
theorem dX12_today_0 : decode cX12_today 0 = .ok (.aload_n 0, 1) := by decide +kernel
theorem dX12_today_1 : decode cX12_today 1 = .ok (.getfield 9, 3) := by decide +kernel
theorem dX12_today_4 : decode cX12_today 4 = .ok (.iconst 4, 1) := by decide +kernel
theorem dX12_today_5 : decode cX12_today 5 = .ok (.iaload, 1) := by decide +kernel
theorem dX12_today_6 : decode cX12_today 6 = .ok (.bipush 96, 2) := by decide +kernel
theorem dX12_today_8 : decode cX12_today 8 = .ok (.idiv, 1) := by decide +kernel
theorem dX12_today_9 : decode cX12_today 9 = .ok (.ireturn, 1) := by decide +kernel
theorem dX12_openAt_0 : decode cX12_openAt 0 = .ok (.iload_n 1, 1) := by decide +kernel
theorem dX12_openAt_1 : decode cX12_openAt 1 = .ok (.bipush 32, 2) := by decide +kernel
theorem dX12_openAt_3 : decode cX12_openAt 3 = .ok (.if_icmp .lt 13, 3) := by decide +kernel
theorem dX12_openAt_6 : decode cX12_openAt 6 = .ok (.iload_n 1, 1) := by decide +kernel
theorem dX12_openAt_7 : decode cX12_openAt 7 = .ok (.bipush 67, 2) := by decide +kernel
theorem dX12_openAt_9 : decode cX12_openAt 9 = .ok (.if_icmp .gt 7, 3) := by decide +kernel
theorem dX12_openAt_12 : decode cX12_openAt 12 = .ok (.iconst 1, 1) := by decide +kernel
theorem dX12_openAt_13 : decode cX12_openAt 13 = .ok (.goto 4, 3) := by decide +kernel
theorem dX12_openAt_16 : decode cX12_openAt 16 = .ok (.iconst 0, 1) := by decide +kernel
theorem dX12_openAt_17 : decode cX12_openAt 17 = .ok (.istore_n 2, 1) := by decide +kernel
theorem dX12_openAt_18 : decode cX12_openAt 18 = .ok (.iload_n 2, 1) := by decide +kernel
theorem dX12_openAt_19 : decode cX12_openAt 19 = .ok (.ifCond .eq 29, 3) := by decide +kernel
theorem dX12_openAt_22 : decode cX12_openAt 22 = .ok (.iload_n 1, 1) := by decide +kernel
theorem dX12_openAt_23 : decode cX12_openAt 23 = .ok (.aload_n 0, 1) := by decide +kernel
theorem dX12_openAt_24 : decode cX12_openAt 24 = .ok (.getfield 9, 3) := by decide +kernel
theorem dX12_openAt_27 : decode cX12_openAt 27 = .ok (.bipush 7, 2) := by decide +kernel
theorem dX12_openAt_29 : decode cX12_openAt 29 = .ok (.iaload, 1) := by decide +kernel
theorem dX12_openAt_30 : decode cX12_openAt 30 = .ok (.if_icmp .lt 14, 3) := by decide +kernel
theorem dX12_openAt_33 : decode cX12_openAt 33 = .ok (.iload_n 1, 1) := by decide +kernel
theorem dX12_openAt_34 : decode cX12_openAt 34 = .ok (.aload_n 0, 1) := by decide +kernel
theorem dX12_openAt_35 : decode cX12_openAt 35 = .ok (.getfield 9, 3) := by decide +kernel
theorem dX12_openAt_38 : decode cX12_openAt 38 = .ok (.bipush 8, 2) := by decide +kernel
theorem dX12_openAt_40 : decode cX12_openAt 40 = .ok (.iaload, 1) := by decide +kernel
theorem dX12_openAt_41 : decode cX12_openAt 41 = .ok (.if_icmp .le 7, 3) := by decide +kernel
theorem dX12_openAt_44 : decode cX12_openAt 44 = .ok (.iconst 1, 1) := by decide +kernel
theorem dX12_openAt_45 : decode cX12_openAt 45 = .ok (.goto 4, 3) := by decide +kernel
theorem dX12_openAt_48 : decode cX12_openAt 48 = .ok (.iconst 0, 1) := by decide +kernel
theorem dX12_openAt_49 : decode cX12_openAt 49 = .ok (.ireturn, 1) := by decide +kernel
theorem dX12_openTicks_0 : decode cX12_openTicks 0 = .ok (.iconst 0, 1) := by decide +kernel
theorem dX12_openTicks_1 : decode cX12_openTicks 1 = .ok (.istore_n 1, 1) := by decide +kernel
theorem dX12_openTicks_2 : decode cX12_openTicks 2 = .ok (.iconst 0, 1) := by decide +kernel
theorem dX12_openTicks_3 : decode cX12_openTicks 3 = .ok (.istore_n 2, 1) := by decide +kernel
theorem dX12_openTicks_4 : decode cX12_openTicks 4 = .ok (.iload_n 2, 1) := by decide +kernel
theorem dX12_openTicks_5 : decode cX12_openTicks 5 = .ok (.bipush 96, 2) := by decide +kernel
theorem dX12_openTicks_7 : decode cX12_openTicks 7 = .ok (.if_icmp .ge 25, 3) := by decide +kernel
theorem dX12_openTicks_10 : decode cX12_openTicks 10 = .ok (.iload_n 1, 1) := by decide +kernel
theorem dX12_openTicks_11 : decode cX12_openTicks 11 = .ok (.aload_n 0, 1) := by decide +kernel
theorem dX12_openTicks_12 : decode cX12_openTicks 12 = .ok (.iload_n 2, 1) := by decide +kernel
theorem dX12_openTicks_13 : decode cX12_openTicks 13 = .ok (.invokevirtual 77, 3) := by decide +kernel
theorem dX12_openTicks_16 : decode cX12_openTicks 16 = .ok (.ifCond .eq 7, 3) := by decide +kernel
theorem dX12_openTicks_19 : decode cX12_openTicks 19 = .ok (.iconst 1, 1) := by decide +kernel
theorem dX12_openTicks_20 : decode cX12_openTicks 20 = .ok (.goto 4, 3) := by decide +kernel
theorem dX12_openTicks_23 : decode cX12_openTicks 23 = .ok (.iconst 0, 1) := by decide +kernel
theorem dX12_openTicks_24 : decode cX12_openTicks 24 = .ok (.iadd, 1) := by decide +kernel
theorem dX12_openTicks_25 : decode cX12_openTicks 25 = .ok (.istore_n 1, 1) := by decide +kernel
theorem dX12_openTicks_26 : decode cX12_openTicks 26 = .ok (.iinc 2 1, 3) := by decide +kernel
theorem dX12_openTicks_29 : decode cX12_openTicks 29 = .ok (.goto (-25), 3) := by decide +kernel
theorem dX12_openTicks_32 : decode cX12_openTicks 32 = .ok (.iload_n 1, 1) := by decide +kernel
theorem dX12_openTicks_33 : decode cX12_openTicks 33 = .ok (.ireturn, 1) := by decide +kernel
theorem dX12_inSeason_0 : decode cX12_inSeason 0 = .ok (.aload_n 0, 1) := by decide +kernel
theorem dX12_inSeason_1 : decode cX12_inSeason 1 = .ok (.invokevirtual 81, 3) := by decide +kernel
theorem dX12_inSeason_4 : decode cX12_inSeason 4 = .ok (.aload_n 0, 1) := by decide +kernel
theorem dX12_inSeason_5 : decode cX12_inSeason 5 = .ok (.iload_n 1, 1) := by decide +kernel
theorem dX12_inSeason_6 : decode cX12_inSeason 6 = .ok (.iconst 2, 1) := by decide +kernel
theorem dX12_inSeason_7 : decode cX12_inSeason 7 = .ok (.invokevirtual 85, 3) := by decide +kernel
theorem dX12_inSeason_10 : decode cX12_inSeason 10 = .ok (.if_icmp .lt 20, 3) := by decide +kernel
theorem dX12_inSeason_13 : decode cX12_inSeason 13 = .ok (.aload_n 0, 1) := by decide +kernel
theorem dX12_inSeason_14 : decode cX12_inSeason 14 = .ok (.invokevirtual 81, 3) := by decide +kernel
theorem dX12_inSeason_17 : decode cX12_inSeason 17 = .ok (.aload_n 0, 1) := by decide +kernel
theorem dX12_inSeason_18 : decode cX12_inSeason 18 = .ok (.iload_n 1, 1) := by decide +kernel
theorem dX12_inSeason_19 : decode cX12_inSeason 19 = .ok (.iconst 3, 1) := by decide +kernel
theorem dX12_inSeason_20 : decode cX12_inSeason 20 = .ok (.invokevirtual 85, 3) := by decide +kernel
theorem dX12_inSeason_23 : decode cX12_inSeason 23 = .ok (.if_icmp .gt 7, 3) := by decide +kernel
theorem dX12_inSeason_26 : decode cX12_inSeason 26 = .ok (.iconst 1, 1) := by decide +kernel
theorem dX12_inSeason_27 : decode cX12_inSeason 27 = .ok (.goto 4, 3) := by decide +kernel
theorem dX12_inSeason_30 : decode cX12_inSeason 30 = .ok (.iconst 0, 1) := by decide +kernel
theorem dX12_inSeason_31 : decode cX12_inSeason 31 = .ok (.ireturn, 1) := by decide +kernel
theorem dX12_priceFor_0 : decode cX12_priceFor 0 = .ok (.iconst 0, 1) := by decide +kernel
theorem dX12_priceFor_1 : decode cX12_priceFor 1 = .ok (.istore 4, 2) := by decide +kernel
theorem dX12_priceFor_3 : decode cX12_priceFor 3 = .ok (.iconst 0, 1) := by decide +kernel
theorem dX12_priceFor_4 : decode cX12_priceFor 4 = .ok (.istore 5, 2) := by decide +kernel
theorem dX12_priceFor_6 : decode cX12_priceFor 6 = .ok (.iload 5, 2) := by decide +kernel
theorem dX12_priceFor_8 : decode cX12_priceFor 8 = .ok (.aload_n 0, 1) := by decide +kernel
theorem dX12_priceFor_9 : decode cX12_priceFor 9 = .ok (.getfield 9, 3) := by decide +kernel
theorem dX12_priceFor_12 : decode cX12_priceFor 12 = .ok (.iconst 0, 1) := by decide +kernel
theorem dX12_priceFor_13 : decode cX12_priceFor 13 = .ok (.iaload, 1) := by decide +kernel
theorem dX12_priceFor_14 : decode cX12_priceFor 14 = .ok (.if_icmp .ge 38, 3) := by decide +kernel
theorem dX12_priceFor_17 : decode cX12_priceFor 17 = .ok (.iload 4, 2) := by decide +kernel
theorem dX12_priceFor_19 : decode cX12_priceFor 19 = .ok (.iload_n 1, 1) := by decide +kernel
theorem dX12_priceFor_20 : decode cX12_priceFor 20 = .ok (.iload 5, 2) := by decide +kernel
theorem dX12_priceFor_22 : decode cX12_priceFor 22 = .ok (.ishr, 1) := by decide +kernel
theorem dX12_priceFor_23 : decode cX12_priceFor 23 = .ok (.iconst 1, 1) := by decide +kernel
theorem dX12_priceFor_24 : decode cX12_priceFor 24 = .ok (.iand, 1) := by decide +kernel
theorem dX12_priceFor_25 : decode cX12_priceFor 25 = .ok (.iconst 1, 1) := by decide +kernel
theorem dX12_priceFor_26 : decode cX12_priceFor 26 = .ok (.if_icmp .ne 16, 3) := by decide +kernel
theorem dX12_priceFor_29 : decode cX12_priceFor 29 = .ok (.aload_n 0, 1) := by decide +kernel
theorem dX12_priceFor_30 : decode cX12_priceFor 30 = .ok (.getfield 9, 3) := by decide +kernel
theorem dX12_priceFor_33 : decode cX12_priceFor 33 = .ok (.bipush 15, 2) := by decide +kernel
theorem dX12_priceFor_35 : decode cX12_priceFor 35 = .ok (.iload 5, 2) := by decide +kernel
theorem dX12_priceFor_37 : decode cX12_priceFor 37 = .ok (.iadd, 1) := by decide +kernel
theorem dX12_priceFor_38 : decode cX12_priceFor 38 = .ok (.iaload, 1) := by decide +kernel
theorem dX12_priceFor_39 : decode cX12_priceFor 39 = .ok (.goto 4, 3) := by decide +kernel
theorem dX12_priceFor_42 : decode cX12_priceFor 42 = .ok (.iconst 0, 1) := by decide +kernel
theorem dX12_priceFor_43 : decode cX12_priceFor 43 = .ok (.iadd, 1) := by decide +kernel
theorem dX12_priceFor_44 : decode cX12_priceFor 44 = .ok (.istore 4, 2) := by decide +kernel
theorem dX12_priceFor_46 : decode cX12_priceFor 46 = .ok (.iinc 5 1, 3) := by decide +kernel
theorem dX12_priceFor_49 : decode cX12_priceFor 49 = .ok (.goto (-43), 3) := by decide +kernel
theorem dX12_priceFor_52 : decode cX12_priceFor 52 = .ok (.iload_n 2, 1) := by decide +kernel
theorem dX12_priceFor_53 : decode cX12_priceFor 53 = .ok (.bipush 6, 2) := by decide +kernel
theorem dX12_priceFor_55 : decode cX12_priceFor 55 = .ok (.if_icmp .lt 8, 3) := by decide +kernel
theorem dX12_priceFor_58 : decode cX12_priceFor 58 = .ok (.bipush 80, 2) := by decide +kernel
theorem dX12_priceFor_60 : decode cX12_priceFor 60 = .ok (.goto 15, 3) := by decide +kernel
theorem dX12_priceFor_63 : decode cX12_priceFor 63 = .ok (.iload_n 2, 1) := by decide +kernel
theorem dX12_priceFor_64 : decode cX12_priceFor 64 = .ok (.iconst 3, 1) := by decide +kernel
theorem dX12_priceFor_65 : decode cX12_priceFor 65 = .ok (.if_icmp .lt 8, 3) := by decide +kernel
theorem dX12_priceFor_68 : decode cX12_priceFor 68 = .ok (.bipush 90, 2) := by decide +kernel
theorem dX12_priceFor_70 : decode cX12_priceFor 70 = .ok (.goto 5, 3) := by decide +kernel
theorem dX12_priceFor_73 : decode cX12_priceFor 73 = .ok (.bipush 100, 2) := by decide +kernel
theorem dX12_priceFor_75 : decode cX12_priceFor 75 = .ok (.istore 5, 2) := by decide +kernel
theorem dX12_priceFor_77 : decode cX12_priceFor 77 = .ok (.iload 4, 2) := by decide +kernel
theorem dX12_priceFor_79 : decode cX12_priceFor 79 = .ok (.iload_n 2, 1) := by decide +kernel
theorem dX12_priceFor_80 : decode cX12_priceFor 80 = .ok (.imul, 1) := by decide +kernel
theorem dX12_priceFor_81 : decode cX12_priceFor 81 = .ok (.iload_n 3, 1) := by decide +kernel
theorem dX12_priceFor_82 : decode cX12_priceFor 82 = .ok (.ifCond .ne 8, 3) := by decide +kernel
theorem dX12_priceFor_85 : decode cX12_priceFor 85 = .ok (.bipush 100, 2) := by decide +kernel
theorem dX12_priceFor_87 : decode cX12_priceFor 87 = .ok (.goto 5, 3) := by decide +kernel
theorem dX12_priceFor_90 : decode cX12_priceFor 90 = .ok (.bipush 60, 2) := by decide +kernel
theorem dX12_priceFor_92 : decode cX12_priceFor 92 = .ok (.imul, 1) := by decide +kernel
theorem dX12_priceFor_93 : decode cX12_priceFor 93 = .ok (.iload 5, 2) := by decide +kernel
theorem dX12_priceFor_95 : decode cX12_priceFor 95 = .ok (.imul, 1) := by decide +kernel
theorem dX12_priceFor_96 : decode cX12_priceFor 96 = .ok (.sipush 10000, 3) := by decide +kernel
theorem dX12_priceFor_99 : decode cX12_priceFor 99 = .ok (.idiv, 1) := by decide +kernel
theorem dX12_priceFor_100 : decode cX12_priceFor 100 = .ok (.ireturn, 1) := by decide +kernel
theorem dX12_lastOf_0 : decode cX12_lastOf 0 = .ok (.aload_n 0, 1) := by decide +kernel
theorem dX12_lastOf_1 : decode cX12_lastOf 1 = .ok (.iload_n 1, 1) := by decide +kernel
theorem dX12_lastOf_2 : decode cX12_lastOf 2 = .ok (.iconst 1, 1) := by decide +kernel
theorem dX12_lastOf_3 : decode cX12_lastOf 3 = .ok (.invokevirtual 88, 3) := by decide +kernel
theorem dX12_lastOf_6 : decode cX12_lastOf 6 = .ok (.aload_n 0, 1) := by decide +kernel
theorem dX12_lastOf_7 : decode cX12_lastOf 7 = .ok (.iload_n 1, 1) := by decide +kernel
theorem dX12_lastOf_8 : decode cX12_lastOf 8 = .ok (.iconst 2, 1) := by decide +kernel
theorem dX12_lastOf_9 : decode cX12_lastOf 9 = .ok (.invokevirtual 88, 3) := by decide +kernel
theorem dX12_lastOf_12 : decode cX12_lastOf 12 = .ok (.iadd, 1) := by decide +kernel
theorem dX12_lastOf_13 : decode cX12_lastOf 13 = .ok (.iconst 1, 1) := by decide +kernel
theorem dX12_lastOf_14 : decode cX12_lastOf 14 = .ok (.isub, 1) := by decide +kernel
theorem dX12_lastOf_15 : decode cX12_lastOf 15 = .ok (.ireturn, 1) := by decide +kernel
theorem dX12_fine_0 : decode cX12_fine 0 = .ok (.iload_n 2, 1) := by decide +kernel
theorem dX12_fine_1 : decode cX12_fine 1 = .ok (.aload_n 0, 1) := by decide +kernel
theorem dX12_fine_2 : decode cX12_fine 2 = .ok (.getfield 9, 3) := by decide +kernel
theorem dX12_fine_5 : decode cX12_fine 5 = .ok (.iconst 5, 1) := by decide +kernel
theorem dX12_fine_6 : decode cX12_fine 6 = .ok (.iaload, 1) := by decide +kernel
theorem dX12_fine_7 : decode cX12_fine 7 = .ok (.imul, 1) := by decide +kernel
theorem dX12_fine_8 : decode cX12_fine 8 = .ok (.aload_n 0, 1) := by decide +kernel
theorem dX12_fine_9 : decode cX12_fine 9 = .ok (.iload_n 1, 1) := by decide +kernel
theorem dX12_fine_10 : decode cX12_fine 10 = .ok (.invokevirtual 91, 3) := by decide +kernel
theorem dX12_fine_13 : decode cX12_fine 13 = .ok (.ifCond .eq 7, 3) := by decide +kernel
theorem dX12_fine_16 : decode cX12_fine 16 = .ok (.iconst 2, 1) := by decide +kernel
theorem dX12_fine_17 : decode cX12_fine 17 = .ok (.goto 4, 3) := by decide +kernel
theorem dX12_fine_20 : decode cX12_fine 20 = .ok (.iconst 1, 1) := by decide +kernel
theorem dX12_fine_21 : decode cX12_fine 21 = .ok (.imul, 1) := by decide +kernel
theorem dX12_fine_22 : decode cX12_fine 22 = .ok (.ireturn, 1) := by decide +kernel
theorem dX12_refund_0 : decode cX12_refund 0 = .ok (.aload_n 0, 1) := by decide +kernel
theorem dX12_refund_1 : decode cX12_refund 1 = .ok (.iload_n 1, 1) := by decide +kernel
theorem dX12_refund_2 : decode cX12_refund 2 = .ok (.bipush 6, 2) := by decide +kernel
theorem dX12_refund_4 : decode cX12_refund 4 = .ok (.invokevirtual 88, 3) := by decide +kernel
theorem dX12_refund_7 : decode cX12_refund 7 = .ok (.iconst 1, 1) := by decide +kernel
theorem dX12_refund_8 : decode cX12_refund 8 = .ok (.if_icmp .ne 5, 3) := by decide +kernel
theorem dX12_refund_11 : decode cX12_refund 11 = .ok (.iconst 0, 1) := by decide +kernel
theorem dX12_refund_12 : decode cX12_refund 12 = .ok (.ireturn, 1) := by decide +kernel
theorem dX12_refund_13 : decode cX12_refund 13 = .ok (.iconst 0, 1) := by decide +kernel
theorem dX12_refund_14 : decode cX12_refund 14 = .ok (.istore_n 2, 1) := by decide +kernel
theorem dX12_refund_15 : decode cX12_refund 15 = .ok (.iconst 0, 1) := by decide +kernel
theorem dX12_refund_16 : decode cX12_refund 16 = .ok (.istore_n 3, 1) := by decide +kernel
theorem dX12_refund_17 : decode cX12_refund 17 = .ok (.iload_n 3, 1) := by decide +kernel
theorem dX12_refund_18 : decode cX12_refund 18 = .ok (.aload_n 0, 1) := by decide +kernel
theorem dX12_refund_19 : decode cX12_refund 19 = .ok (.iload_n 1, 1) := by decide +kernel
theorem dX12_refund_20 : decode cX12_refund 20 = .ok (.iconst 2, 1) := by decide +kernel
theorem dX12_refund_21 : decode cX12_refund 21 = .ok (.invokevirtual 88, 3) := by decide +kernel
theorem dX12_refund_24 : decode cX12_refund 24 = .ok (.if_icmp .ge 58, 3) := by decide +kernel
theorem dX12_refund_27 : decode cX12_refund 27 = .ok (.aload_n 0, 1) := by decide +kernel
theorem dX12_refund_28 : decode cX12_refund 28 = .ok (.iload_n 1, 1) := by decide +kernel
theorem dX12_refund_29 : decode cX12_refund 29 = .ok (.bipush 7, 2) := by decide +kernel
theorem dX12_refund_31 : decode cX12_refund 31 = .ok (.invokevirtual 88, 3) := by decide +kernel
theorem dX12_refund_34 : decode cX12_refund 34 = .ok (.iload_n 3, 1) := by decide +kernel
theorem dX12_refund_35 : decode cX12_refund 35 = .ok (.ishr, 1) := by decide +kernel
theorem dX12_refund_36 : decode cX12_refund 36 = .ok (.iconst 1, 1) := by decide +kernel
theorem dX12_refund_37 : decode cX12_refund 37 = .ok (.iand, 1) := by decide +kernel
theorem dX12_refund_38 : decode cX12_refund 38 = .ok (.ifCond .ne 7, 3) := by decide +kernel
theorem dX12_refund_41 : decode cX12_refund 41 = .ok (.iconst 1, 1) := by decide +kernel
theorem dX12_refund_42 : decode cX12_refund 42 = .ok (.goto 4, 3) := by decide +kernel
theorem dX12_refund_45 : decode cX12_refund 45 = .ok (.iconst 0, 1) := by decide +kernel
theorem dX12_refund_46 : decode cX12_refund 46 = .ok (.istore 4, 2) := by decide +kernel
theorem dX12_refund_48 : decode cX12_refund 48 = .ok (.iload_n 2, 1) := by decide +kernel
theorem dX12_refund_49 : decode cX12_refund 49 = .ok (.iload 4, 2) := by decide +kernel
theorem dX12_refund_51 : decode cX12_refund 51 = .ok (.ifCond .eq 22, 3) := by decide +kernel
theorem dX12_refund_54 : decode cX12_refund 54 = .ok (.aload_n 0, 1) := by decide +kernel
theorem dX12_refund_55 : decode cX12_refund 55 = .ok (.iload_n 1, 1) := by decide +kernel
theorem dX12_refund_56 : decode cX12_refund 56 = .ok (.iconst 1, 1) := by decide +kernel
theorem dX12_refund_57 : decode cX12_refund 57 = .ok (.invokevirtual 88, 3) := by decide +kernel
theorem dX12_refund_60 : decode cX12_refund 60 = .ok (.iload_n 3, 1) := by decide +kernel
theorem dX12_refund_61 : decode cX12_refund 61 = .ok (.iadd, 1) := by decide +kernel
theorem dX12_refund_62 : decode cX12_refund 62 = .ok (.aload_n 0, 1) := by decide +kernel
theorem dX12_refund_63 : decode cX12_refund 63 = .ok (.invokevirtual 81, 3) := by decide +kernel
theorem dX12_refund_66 : decode cX12_refund 66 = .ok (.if_icmp .lt 7, 3) := by decide +kernel
theorem dX12_refund_69 : decode cX12_refund 69 = .ok (.iconst 1, 1) := by decide +kernel
theorem dX12_refund_70 : decode cX12_refund 70 = .ok (.goto 4, 3) := by decide +kernel
theorem dX12_refund_73 : decode cX12_refund 73 = .ok (.iconst 0, 1) := by decide +kernel
theorem dX12_refund_74 : decode cX12_refund 74 = .ok (.iadd, 1) := by decide +kernel
theorem dX12_refund_75 : decode cX12_refund 75 = .ok (.istore_n 2, 1) := by decide +kernel
theorem dX12_refund_76 : decode cX12_refund 76 = .ok (.iinc 3 1, 3) := by decide +kernel
theorem dX12_refund_79 : decode cX12_refund 79 = .ok (.goto (-62), 3) := by decide +kernel
theorem dX12_refund_82 : decode cX12_refund 82 = .ok (.aload_n 0, 1) := by decide +kernel
theorem dX12_refund_83 : decode cX12_refund 83 = .ok (.iload_n 1, 1) := by decide +kernel
theorem dX12_refund_84 : decode cX12_refund 84 = .ok (.iconst 4, 1) := by decide +kernel
theorem dX12_refund_85 : decode cX12_refund 85 = .ok (.invokevirtual 88, 3) := by decide +kernel
theorem dX12_refund_88 : decode cX12_refund 88 = .ok (.iload_n 2, 1) := by decide +kernel
theorem dX12_refund_89 : decode cX12_refund 89 = .ok (.imul, 1) := by decide +kernel
theorem dX12_refund_90 : decode cX12_refund 90 = .ok (.aload_n 0, 1) := by decide +kernel
theorem dX12_refund_91 : decode cX12_refund 91 = .ok (.iload_n 1, 1) := by decide +kernel
theorem dX12_refund_92 : decode cX12_refund 92 = .ok (.iconst 2, 1) := by decide +kernel
theorem dX12_refund_93 : decode cX12_refund 93 = .ok (.invokevirtual 88, 3) := by decide +kernel
theorem dX12_refund_96 : decode cX12_refund 96 = .ok (.idiv, 1) := by decide +kernel
theorem dX12_refund_97 : decode cX12_refund 97 = .ok (.iconst 2, 1) := by decide +kernel
theorem dX12_refund_98 : decode cX12_refund 98 = .ok (.idiv, 1) := by decide +kernel
theorem dX12_refund_99 : decode cX12_refund 99 = .ok (.ireturn, 1) := by decide +kernel
theorem dX12_addScentAt_0 : decode cX12_addScentAt 0 = .ok (.aload_n 0, 1) := by decide +kernel
theorem dX12_addScentAt_1 : decode cX12_addScentAt 1 = .ok (.getfield 9, 3) := by decide +kernel
theorem dX12_addScentAt_4 : decode cX12_addScentAt 4 = .ok (.bipush 15, 2) := by decide +kernel
theorem dX12_addScentAt_6 : decode cX12_addScentAt 6 = .ok (.aload_n 0, 1) := by decide +kernel
theorem dX12_addScentAt_7 : decode cX12_addScentAt 7 = .ok (.getfield 9, 3) := by decide +kernel
theorem dX12_addScentAt_10 : decode cX12_addScentAt 10 = .ok (.iconst 0, 1) := by decide +kernel
theorem dX12_addScentAt_11 : decode cX12_addScentAt 11 = .ok (.iaload, 1) := by decide +kernel
theorem dX12_addScentAt_12 : decode cX12_addScentAt 12 = .ok (.iadd, 1) := by decide +kernel
theorem dX12_addScentAt_13 : decode cX12_addScentAt 13 = .ok (.iload_n 1, 1) := by decide +kernel
theorem dX12_addScentAt_14 : decode cX12_addScentAt 14 = .ok (.iastore, 1) := by decide +kernel
theorem dX12_addScentAt_15 : decode cX12_addScentAt 15 = .ok (.aload_n 0, 1) := by decide +kernel
theorem dX12_addScentAt_16 : decode cX12_addScentAt 16 = .ok (.getfield 9, 3) := by decide +kernel
theorem dX12_addScentAt_19 : decode cX12_addScentAt 19 = .ok (.iconst 0, 1) := by decide +kernel
theorem dX12_addScentAt_20 : decode cX12_addScentAt 20 = .ok (.dup2, 1) := by decide +kernel
theorem dX12_addScentAt_21 : decode cX12_addScentAt 21 = .ok (.iaload, 1) := by decide +kernel
theorem dX12_addScentAt_22 : decode cX12_addScentAt 22 = .ok (.iconst 1, 1) := by decide +kernel
theorem dX12_addScentAt_23 : decode cX12_addScentAt 23 = .ok (.iadd, 1) := by decide +kernel
theorem dX12_addScentAt_24 : decode cX12_addScentAt 24 = .ok (.iastore, 1) := by decide +kernel
theorem dX12_addScentAt_25 : decode cX12_addScentAt 25 = .ok (.return_, 1) := by decide +kernel
theorem dX12_makeBed_0 : decode cX12_makeBed 0 = .ok (.aload_n 0, 1) := by decide +kernel
theorem dX12_makeBed_1 : decode cX12_makeBed 1 = .ok (.getfield 9, 3) := by decide +kernel
theorem dX12_makeBed_4 : decode cX12_makeBed 4 = .ok (.iconst 1, 1) := by decide +kernel
theorem dX12_makeBed_5 : decode cX12_makeBed 5 = .ok (.iaload, 1) := by decide +kernel
theorem dX12_makeBed_6 : decode cX12_makeBed 6 = .ok (.istore 5, 2) := by decide +kernel
theorem dX12_makeBed_8 : decode cX12_makeBed 8 = .ok (.aload_n 0, 1) := by decide +kernel
theorem dX12_makeBed_9 : decode cX12_makeBed 9 = .ok (.getfield 9, 3) := by decide +kernel
theorem dX12_makeBed_12 : decode cX12_makeBed 12 = .ok (.iconst 1, 1) := by decide +kernel
theorem dX12_makeBed_13 : decode cX12_makeBed 13 = .ok (.dup2, 1) := by decide +kernel
theorem dX12_makeBed_14 : decode cX12_makeBed 14 = .ok (.iaload, 1) := by decide +kernel
theorem dX12_makeBed_15 : decode cX12_makeBed 15 = .ok (.iconst 1, 1) := by decide +kernel
theorem dX12_makeBed_16 : decode cX12_makeBed 16 = .ok (.iadd, 1) := by decide +kernel
theorem dX12_makeBed_17 : decode cX12_makeBed 17 = .ok (.iastore, 1) := by decide +kernel
theorem dX12_makeBed_18 : decode cX12_makeBed 18 = .ok (.aload_n 0, 1) := by decide +kernel
theorem dX12_makeBed_19 : decode cX12_makeBed 19 = .ok (.iload 5, 2) := by decide +kernel
theorem dX12_makeBed_21 : decode cX12_makeBed 21 = .ok (.iconst 0, 1) := by decide +kernel
theorem dX12_makeBed_22 : decode cX12_makeBed 22 = .ok (.iload_n 1, 1) := by decide +kernel
theorem dX12_makeBed_23 : decode cX12_makeBed 23 = .ok (.invokevirtual 94, 3) := by decide +kernel
theorem dX12_makeBed_26 : decode cX12_makeBed 26 = .ok (.aload_n 0, 1) := by decide +kernel
theorem dX12_makeBed_27 : decode cX12_makeBed 27 = .ok (.iload 5, 2) := by decide +kernel
theorem dX12_makeBed_29 : decode cX12_makeBed 29 = .ok (.iconst 1, 1) := by decide +kernel
theorem dX12_makeBed_30 : decode cX12_makeBed 30 = .ok (.iload_n 2, 1) := by decide +kernel
theorem dX12_makeBed_31 : decode cX12_makeBed 31 = .ok (.invokevirtual 94, 3) := by decide +kernel
theorem dX12_makeBed_34 : decode cX12_makeBed 34 = .ok (.aload_n 0, 1) := by decide +kernel
theorem dX12_makeBed_35 : decode cX12_makeBed 35 = .ok (.iload 5, 2) := by decide +kernel
theorem dX12_makeBed_37 : decode cX12_makeBed 37 = .ok (.iconst 2, 1) := by decide +kernel
theorem dX12_makeBed_38 : decode cX12_makeBed 38 = .ok (.iload_n 3, 1) := by decide +kernel
theorem dX12_makeBed_39 : decode cX12_makeBed 39 = .ok (.invokevirtual 94, 3) := by decide +kernel
theorem dX12_makeBed_42 : decode cX12_makeBed 42 = .ok (.aload_n 0, 1) := by decide +kernel
theorem dX12_makeBed_43 : decode cX12_makeBed 43 = .ok (.iload 5, 2) := by decide +kernel
theorem dX12_makeBed_45 : decode cX12_makeBed 45 = .ok (.iconst 3, 1) := by decide +kernel
theorem dX12_makeBed_46 : decode cX12_makeBed 46 = .ok (.iload 4, 2) := by decide +kernel
theorem dX12_makeBed_48 : decode cX12_makeBed 48 = .ok (.invokevirtual 94, 3) := by decide +kernel
theorem dX12_makeBed_51 : decode cX12_makeBed 51 = .ok (.aload_n 0, 1) := by decide +kernel
theorem dX12_makeBed_52 : decode cX12_makeBed 52 = .ok (.iload 5, 2) := by decide +kernel
theorem dX12_makeBed_54 : decode cX12_makeBed 54 = .ok (.iconst 4, 1) := by decide +kernel
theorem dX12_makeBed_55 : decode cX12_makeBed 55 = .ok (.bipush 20, 2) := by decide +kernel
theorem dX12_makeBed_57 : decode cX12_makeBed 57 = .ok (.invokevirtual 94, 3) := by decide +kernel
theorem dX12_makeBed_60 : decode cX12_makeBed 60 = .ok (.aload_n 0, 1) := by decide +kernel
theorem dX12_makeBed_61 : decode cX12_makeBed 61 = .ok (.iload 5, 2) := by decide +kernel
theorem dX12_makeBed_63 : decode cX12_makeBed 63 = .ok (.iconst 5, 1) := by decide +kernel
theorem dX12_makeBed_64 : decode cX12_makeBed 64 = .ok (.iconst 0, 1) := by decide +kernel
theorem dX12_makeBed_65 : decode cX12_makeBed 65 = .ok (.invokevirtual 94, 3) := by decide +kernel
theorem dX12_makeBed_68 : decode cX12_makeBed 68 = .ok (.aload_n 0, 1) := by decide +kernel
theorem dX12_makeBed_69 : decode cX12_makeBed 69 = .ok (.iload 5, 2) := by decide +kernel
theorem dX12_makeBed_71 : decode cX12_makeBed 71 = .ok (.bipush 6, 2) := by decide +kernel
theorem dX12_makeBed_73 : decode cX12_makeBed 73 = .ok (.iconst 0, 1) := by decide +kernel
theorem dX12_makeBed_74 : decode cX12_makeBed 74 = .ok (.invokevirtual 94, 3) := by decide +kernel
theorem dX12_makeBed_77 : decode cX12_makeBed 77 = .ok (.iload 5, 2) := by decide +kernel
theorem dX12_makeBed_79 : decode cX12_makeBed 79 = .ok (.ireturn, 1) := by decide +kernel
theorem dX12_makeCard_0 : decode cX12_makeCard 0 = .ok (.aload_n 0, 1) := by decide +kernel
theorem dX12_makeCard_1 : decode cX12_makeCard 1 = .ok (.getfield 9, 3) := by decide +kernel
theorem dX12_makeCard_4 : decode cX12_makeCard 4 = .ok (.iconst 3, 1) := by decide +kernel
theorem dX12_makeCard_5 : decode cX12_makeCard 5 = .ok (.iaload, 1) := by decide +kernel
theorem dX12_makeCard_6 : decode cX12_makeCard 6 = .ok (.istore_n 2, 1) := by decide +kernel
theorem dX12_makeCard_7 : decode cX12_makeCard 7 = .ok (.aload_n 0, 1) := by decide +kernel
theorem dX12_makeCard_8 : decode cX12_makeCard 8 = .ok (.getfield 9, 3) := by decide +kernel
theorem dX12_makeCard_11 : decode cX12_makeCard 11 = .ok (.iconst 3, 1) := by decide +kernel
theorem dX12_makeCard_12 : decode cX12_makeCard 12 = .ok (.dup2, 1) := by decide +kernel
theorem dX12_makeCard_13 : decode cX12_makeCard 13 = .ok (.iaload, 1) := by decide +kernel
theorem dX12_makeCard_14 : decode cX12_makeCard 14 = .ok (.iconst 1, 1) := by decide +kernel
theorem dX12_makeCard_15 : decode cX12_makeCard 15 = .ok (.iadd, 1) := by decide +kernel
theorem dX12_makeCard_16 : decode cX12_makeCard 16 = .ok (.iastore, 1) := by decide +kernel
theorem dX12_makeCard_17 : decode cX12_makeCard 17 = .ok (.aload_n 0, 1) := by decide +kernel
theorem dX12_makeCard_18 : decode cX12_makeCard 18 = .ok (.getfield 9, 3) := by decide +kernel
theorem dX12_makeCard_21 : decode cX12_makeCard 21 = .ok (.sipush 436, 3) := by decide +kernel
theorem dX12_makeCard_24 : decode cX12_makeCard 24 = .ok (.iconst 2, 1) := by decide +kernel
theorem dX12_makeCard_25 : decode cX12_makeCard 25 = .ok (.iload_n 2, 1) := by decide +kernel
theorem dX12_makeCard_26 : decode cX12_makeCard 26 = .ok (.imul, 1) := by decide +kernel
theorem dX12_makeCard_27 : decode cX12_makeCard 27 = .ok (.iadd, 1) := by decide +kernel
theorem dX12_makeCard_28 : decode cX12_makeCard 28 = .ok (.iload_n 1, 1) := by decide +kernel
theorem dX12_makeCard_29 : decode cX12_makeCard 29 = .ok (.iastore, 1) := by decide +kernel
theorem dX12_makeCard_30 : decode cX12_makeCard 30 = .ok (.aload_n 0, 1) := by decide +kernel
theorem dX12_makeCard_31 : decode cX12_makeCard 31 = .ok (.getfield 9, 3) := by decide +kernel
theorem dX12_makeCard_34 : decode cX12_makeCard 34 = .ok (.sipush 436, 3) := by decide +kernel
theorem dX12_makeCard_37 : decode cX12_makeCard 37 = .ok (.iconst 2, 1) := by decide +kernel
theorem dX12_makeCard_38 : decode cX12_makeCard 38 = .ok (.iload_n 2, 1) := by decide +kernel
theorem dX12_makeCard_39 : decode cX12_makeCard 39 = .ok (.imul, 1) := by decide +kernel
theorem dX12_makeCard_40 : decode cX12_makeCard 40 = .ok (.iadd, 1) := by decide +kernel
theorem dX12_makeCard_41 : decode cX12_makeCard 41 = .ok (.iconst 1, 1) := by decide +kernel
theorem dX12_makeCard_42 : decode cX12_makeCard 42 = .ok (.iadd, 1) := by decide +kernel
theorem dX12_makeCard_43 : decode cX12_makeCard 43 = .ok (.iconst 0, 1) := by decide +kernel
theorem dX12_makeCard_44 : decode cX12_makeCard 44 = .ok (.iastore, 1) := by decide +kernel
theorem dX12_makeCard_45 : decode cX12_makeCard 45 = .ok (.aload_n 0, 1) := by decide +kernel
theorem dX12_makeCard_46 : decode cX12_makeCard 46 = .ok (.iload_n 1, 1) := by decide +kernel
theorem dX12_makeCard_47 : decode cX12_makeCard 47 = .ok (.iconst 5, 1) := by decide +kernel
theorem dX12_makeCard_48 : decode cX12_makeCard 48 = .ok (.iload_n 2, 1) := by decide +kernel
theorem dX12_makeCard_49 : decode cX12_makeCard 49 = .ok (.invokevirtual 98, 3) := by decide +kernel
theorem dX12_makeCard_52 : decode cX12_makeCard 52 = .ok (.iload_n 2, 1) := by decide +kernel
theorem dX12_makeCard_53 : decode cX12_makeCard 53 = .ok (.ireturn, 1) := by decide +kernel
theorem dX12_makePass_0 : decode cX12_makePass 0 = .ok (.aload_n 0, 1) := by decide +kernel
theorem dX12_makePass_1 : decode cX12_makePass 1 = .ok (.getfield 9, 3) := by decide +kernel
theorem dX12_makePass_4 : decode cX12_makePass 4 = .ok (.iconst 2, 1) := by decide +kernel
theorem dX12_makePass_5 : decode cX12_makePass 5 = .ok (.iaload, 1) := by decide +kernel
theorem dX12_makePass_6 : decode cX12_makePass 6 = .ok (.istore 5, 2) := by decide +kernel
theorem dX12_makePass_8 : decode cX12_makePass 8 = .ok (.aload_n 0, 1) := by decide +kernel
theorem dX12_makePass_9 : decode cX12_makePass 9 = .ok (.getfield 9, 3) := by decide +kernel
theorem dX12_makePass_12 : decode cX12_makePass 12 = .ok (.iconst 2, 1) := by decide +kernel
theorem dX12_makePass_13 : decode cX12_makePass 13 = .ok (.dup2, 1) := by decide +kernel
theorem dX12_makePass_14 : decode cX12_makePass 14 = .ok (.iaload, 1) := by decide +kernel
theorem dX12_makePass_15 : decode cX12_makePass 15 = .ok (.iconst 1, 1) := by decide +kernel
theorem dX12_makePass_16 : decode cX12_makePass 16 = .ok (.iadd, 1) := by decide +kernel
theorem dX12_makePass_17 : decode cX12_makePass 17 = .ok (.iastore, 1) := by decide +kernel
theorem dX12_makePass_18 : decode cX12_makePass 18 = .ok (.aload_n 0, 1) := by decide +kernel
theorem dX12_makePass_19 : decode cX12_makePass 19 = .ok (.iload_n 1, 1) := by decide +kernel
theorem dX12_makePass_20 : decode cX12_makePass 20 = .ok (.iload_n 3, 1) := by decide +kernel
theorem dX12_makePass_21 : decode cX12_makePass 21 = .ok (.iload 4, 2) := by decide +kernel
theorem dX12_makePass_23 : decode cX12_makePass 23 = .ok (.invokevirtual 101, 3) := by decide +kernel
theorem dX12_makePass_26 : decode cX12_makePass 26 = .ok (.istore 6, 2) := by decide +kernel
theorem dX12_makePass_28 : decode cX12_makePass 28 = .ok (.aload_n 0, 1) := by decide +kernel
theorem dX12_makePass_29 : decode cX12_makePass 29 = .ok (.iload 5, 2) := by decide +kernel
theorem dX12_makePass_31 : decode cX12_makePass 31 = .ok (.iconst 0, 1) := by decide +kernel
theorem dX12_makePass_32 : decode cX12_makePass 32 = .ok (.iload_n 1, 1) := by decide +kernel
theorem dX12_makePass_33 : decode cX12_makePass 33 = .ok (.invokevirtual 98, 3) := by decide +kernel
theorem dX12_makePass_36 : decode cX12_makePass 36 = .ok (.aload_n 0, 1) := by decide +kernel
theorem dX12_makePass_37 : decode cX12_makePass 37 = .ok (.iload 5, 2) := by decide +kernel
theorem dX12_makePass_39 : decode cX12_makePass 39 = .ok (.iconst 1, 1) := by decide +kernel
theorem dX12_makePass_40 : decode cX12_makePass 40 = .ok (.iload_n 2, 1) := by decide +kernel
theorem dX12_makePass_41 : decode cX12_makePass 41 = .ok (.invokevirtual 98, 3) := by decide +kernel
theorem dX12_makePass_44 : decode cX12_makePass 44 = .ok (.aload_n 0, 1) := by decide +kernel
theorem dX12_makePass_45 : decode cX12_makePass 45 = .ok (.iload 5, 2) := by decide +kernel
theorem dX12_makePass_47 : decode cX12_makePass 47 = .ok (.iconst 2, 1) := by decide +kernel
theorem dX12_makePass_48 : decode cX12_makePass 48 = .ok (.iload_n 3, 1) := by decide +kernel
theorem dX12_makePass_49 : decode cX12_makePass 49 = .ok (.invokevirtual 98, 3) := by decide +kernel
theorem dX12_makePass_52 : decode cX12_makePass 52 = .ok (.aload_n 0, 1) := by decide +kernel
theorem dX12_makePass_53 : decode cX12_makePass 53 = .ok (.iload 5, 2) := by decide +kernel
theorem dX12_makePass_55 : decode cX12_makePass 55 = .ok (.iconst 3, 1) := by decide +kernel
theorem dX12_makePass_56 : decode cX12_makePass 56 = .ok (.iload 4, 2) := by decide +kernel
theorem dX12_makePass_58 : decode cX12_makePass 58 = .ok (.invokevirtual 98, 3) := by decide +kernel
theorem dX12_makePass_61 : decode cX12_makePass 61 = .ok (.aload_n 0, 1) := by decide +kernel
theorem dX12_makePass_62 : decode cX12_makePass 62 = .ok (.iload 5, 2) := by decide +kernel
theorem dX12_makePass_64 : decode cX12_makePass 64 = .ok (.iconst 4, 1) := by decide +kernel
theorem dX12_makePass_65 : decode cX12_makePass 65 = .ok (.iload 6, 2) := by decide +kernel
theorem dX12_makePass_67 : decode cX12_makePass 67 = .ok (.invokevirtual 98, 3) := by decide +kernel
theorem dX12_makePass_70 : decode cX12_makePass 70 = .ok (.aload_n 0, 1) := by decide +kernel
theorem dX12_makePass_71 : decode cX12_makePass 71 = .ok (.iload 5, 2) := by decide +kernel
theorem dX12_makePass_73 : decode cX12_makePass 73 = .ok (.bipush 6, 2) := by decide +kernel
theorem dX12_makePass_75 : decode cX12_makePass 75 = .ok (.iconst 0, 1) := by decide +kernel
theorem dX12_makePass_76 : decode cX12_makePass 76 = .ok (.invokevirtual 98, 3) := by decide +kernel
theorem dX12_makePass_79 : decode cX12_makePass 79 = .ok (.aload_n 0, 1) := by decide +kernel
theorem dX12_makePass_80 : decode cX12_makePass 80 = .ok (.iload 5, 2) := by decide +kernel
theorem dX12_makePass_82 : decode cX12_makePass 82 = .ok (.bipush 7, 2) := by decide +kernel
theorem dX12_makePass_84 : decode cX12_makePass 84 = .ok (.iconst 0, 1) := by decide +kernel
theorem dX12_makePass_85 : decode cX12_makePass 85 = .ok (.invokevirtual 98, 3) := by decide +kernel
theorem dX12_makePass_88 : decode cX12_makePass 88 = .ok (.aload_n 0, 1) := by decide +kernel
theorem dX12_makePass_89 : decode cX12_makePass 89 = .ok (.iload 5, 2) := by decide +kernel
theorem dX12_makePass_91 : decode cX12_makePass 91 = .ok (.bipush 8, 2) := by decide +kernel
theorem dX12_makePass_93 : decode cX12_makePass 93 = .ok (.iconst 0, 1) := by decide +kernel
theorem dX12_makePass_94 : decode cX12_makePass 94 = .ok (.invokevirtual 98, 3) := by decide +kernel
theorem dX12_makePass_97 : decode cX12_makePass 97 = .ok (.aload_n 0, 1) := by decide +kernel
theorem dX12_makePass_98 : decode cX12_makePass 98 = .ok (.iload 5, 2) := by decide +kernel
theorem dX12_makePass_100 : decode cX12_makePass 100 = .ok (.bipush 9, 2) := by decide +kernel
theorem dX12_makePass_102 : decode cX12_makePass 102 = .ok (.iconst (-1), 1) := by decide +kernel
theorem dX12_makePass_103 : decode cX12_makePass 103 = .ok (.invokevirtual 98, 3) := by decide +kernel
theorem dX12_makePass_106 : decode cX12_makePass 106 = .ok (.aload_n 0, 1) := by decide +kernel
theorem dX12_makePass_107 : decode cX12_makePass 107 = .ok (.iload 5, 2) := by decide +kernel
theorem dX12_makePass_109 : decode cX12_makePass 109 = .ok (.bipush 10, 2) := by decide +kernel
theorem dX12_makePass_111 : decode cX12_makePass 111 = .ok (.iconst (-1), 1) := by decide +kernel
theorem dX12_makePass_112 : decode cX12_makePass 112 = .ok (.invokevirtual 98, 3) := by decide +kernel
theorem dX12_makePass_115 : decode cX12_makePass 115 = .ok (.aload_n 0, 1) := by decide +kernel
theorem dX12_makePass_116 : decode cX12_makePass 116 = .ok (.iload 5, 2) := by decide +kernel
theorem dX12_makePass_118 : decode cX12_makePass 118 = .ok (.bipush 11, 2) := by decide +kernel
theorem dX12_makePass_120 : decode cX12_makePass 120 = .ok (.iconst 0, 1) := by decide +kernel
theorem dX12_makePass_121 : decode cX12_makePass 121 = .ok (.invokevirtual 98, 3) := by decide +kernel
theorem dX12_makePass_124 : decode cX12_makePass 124 = .ok (.aload_n 0, 1) := by decide +kernel
theorem dX12_makePass_125 : decode cX12_makePass 125 = .ok (.iload 5, 2) := by decide +kernel
theorem dX12_makePass_127 : decode cX12_makePass 127 = .ok (.invokevirtual 105, 3) := by decide +kernel
theorem dX12_makePass_130 : decode cX12_makePass 130 = .ok (.istore 7, 2) := by decide +kernel
theorem dX12_makePass_132 : decode cX12_makePass 132 = .ok (.aload_n 0, 1) := by decide +kernel
theorem dX12_makePass_133 : decode cX12_makePass 133 = .ok (.getfield 9, 3) := by decide +kernel
theorem dX12_makePass_136 : decode cX12_makePass 136 = .ok (.bipush 9, 2) := by decide +kernel
theorem dX12_makePass_138 : decode cX12_makePass 138 = .ok (.dup2, 1) := by decide +kernel
theorem dX12_makePass_139 : decode cX12_makePass 139 = .ok (.iaload, 1) := by decide +kernel
theorem dX12_makePass_140 : decode cX12_makePass 140 = .ok (.iload 6, 2) := by decide +kernel
theorem dX12_makePass_142 : decode cX12_makePass 142 = .ok (.iadd, 1) := by decide +kernel
theorem dX12_makePass_143 : decode cX12_makePass 143 = .ok (.iastore, 1) := by decide +kernel
theorem dX12_makePass_144 : decode cX12_makePass 144 = .ok (.iload 7, 2) := by decide +kernel
theorem dX12_makePass_146 : decode cX12_makePass 146 = .ok (.ifCond .ge 7, 3) := by decide +kernel
theorem dX12_makePass_149 : decode cX12_makePass 149 = .ok (.iconst (-1), 1) := by decide +kernel
theorem dX12_makePass_150 : decode cX12_makePass 150 = .ok (.goto 5, 3) := by decide +kernel
theorem dX12_makePass_153 : decode cX12_makePass 153 = .ok (.iload 5, 2) := by decide +kernel
theorem dX12_makePass_155 : decode cX12_makePass 155 = .ok (.ireturn, 1) := by decide +kernel
theorem dX12_soldOut_0 : decode cX12_soldOut 0 = .ok (.aload_n 0, 1) := by decide +kernel
theorem dX12_soldOut_1 : decode cX12_soldOut 1 = .ok (.getfield 9, 3) := by decide +kernel
theorem dX12_soldOut_4 : decode cX12_soldOut 4 = .ok (.iconst 2, 1) := by decide +kernel
theorem dX12_soldOut_5 : decode cX12_soldOut 5 = .ok (.iaload, 1) := by decide +kernel
theorem dX12_soldOut_6 : decode cX12_soldOut 6 = .ok (.bipush 30, 2) := by decide +kernel
theorem dX12_soldOut_8 : decode cX12_soldOut 8 = .ok (.if_icmp .eq 14, 3) := by decide +kernel
theorem dX12_soldOut_11 : decode cX12_soldOut 11 = .ok (.aload_n 0, 1) := by decide +kernel
theorem dX12_soldOut_12 : decode cX12_soldOut 12 = .ok (.getfield 9, 3) := by decide +kernel
theorem dX12_soldOut_15 : decode cX12_soldOut 15 = .ok (.iconst 3, 1) := by decide +kernel
theorem dX12_soldOut_16 : decode cX12_soldOut 16 = .ok (.iaload, 1) := by decide +kernel
theorem dX12_soldOut_17 : decode cX12_soldOut 17 = .ok (.bipush 50, 2) := by decide +kernel
theorem dX12_soldOut_19 : decode cX12_soldOut 19 = .ok (.if_icmp .ne 7, 3) := by decide +kernel
theorem dX12_soldOut_22 : decode cX12_soldOut 22 = .ok (.iconst 1, 1) := by decide +kernel
theorem dX12_soldOut_23 : decode cX12_soldOut 23 = .ok (.goto 4, 3) := by decide +kernel
theorem dX12_soldOut_26 : decode cX12_soldOut 26 = .ok (.iconst 0, 1) := by decide +kernel
theorem dX12_soldOut_27 : decode cX12_soldOut 27 = .ok (.ireturn, 1) := by decide +kernel
theorem dX12_refusal_0 : decode cX12_refusal 0 = .ok (.aload_n 0, 1) := by decide +kernel
theorem dX12_refusal_1 : decode cX12_refusal 1 = .ok (.iload_n 1, 1) := by decide +kernel
theorem dX12_refusal_2 : decode cX12_refusal 2 = .ok (.invokevirtual 108, 3) := by decide +kernel
theorem dX12_refusal_5 : decode cX12_refusal 5 = .ok (.istore_n 3, 1) := by decide +kernel
theorem dX12_refusal_6 : decode cX12_refusal 6 = .ok (.aload_n 0, 1) := by decide +kernel
theorem dX12_refusal_7 : decode cX12_refusal 7 = .ok (.aload_n 0, 1) := by decide +kernel
theorem dX12_refusal_8 : decode cX12_refusal 8 = .ok (.getfield 9, 3) := by decide +kernel
theorem dX12_refusal_11 : decode cX12_refusal 11 = .ok (.iconst 4, 1) := by decide +kernel
theorem dX12_refusal_12 : decode cX12_refusal 12 = .ok (.iaload, 1) := by decide +kernel
theorem dX12_refusal_13 : decode cX12_refusal 13 = .ok (.bipush 96, 2) := by decide +kernel
theorem dX12_refusal_15 : decode cX12_refusal 15 = .ok (.irem, 1) := by decide +kernel
theorem dX12_refusal_16 : decode cX12_refusal 16 = .ok (.invokevirtual 77, 3) := by decide +kernel
theorem dX12_refusal_19 : decode cX12_refusal 19 = .ok (.ifCond .ne 5, 3) := by decide +kernel
theorem dX12_refusal_22 : decode cX12_refusal 22 = .ok (.iconst 1, 1) := by decide +kernel
theorem dX12_refusal_23 : decode cX12_refusal 23 = .ok (.ireturn, 1) := by decide +kernel
theorem dX12_refusal_24 : decode cX12_refusal 24 = .ok (.aload_n 0, 1) := by decide +kernel
theorem dX12_refusal_25 : decode cX12_refusal 25 = .ok (.iload_n 1, 1) := by decide +kernel
theorem dX12_refusal_26 : decode cX12_refusal 26 = .ok (.invokevirtual 111, 3) := by decide +kernel
theorem dX12_refusal_29 : decode cX12_refusal 29 = .ok (.ifCond .eq 5, 3) := by decide +kernel
theorem dX12_refusal_32 : decode cX12_refusal 32 = .ok (.iconst 2, 1) := by decide +kernel
theorem dX12_refusal_33 : decode cX12_refusal 33 = .ok (.ireturn, 1) := by decide +kernel
theorem dX12_refusal_34 : decode cX12_refusal 34 = .ok (.aload_n 0, 1) := by decide +kernel
theorem dX12_refusal_35 : decode cX12_refusal 35 = .ok (.invokevirtual 81, 3) := by decide +kernel
theorem dX12_refusal_38 : decode cX12_refusal 38 = .ok (.aload_n 0, 1) := by decide +kernel
theorem dX12_refusal_39 : decode cX12_refusal 39 = .ok (.iload_n 3, 1) := by decide +kernel
theorem dX12_refusal_40 : decode cX12_refusal 40 = .ok (.iconst 1, 1) := by decide +kernel
theorem dX12_refusal_41 : decode cX12_refusal 41 = .ok (.invokevirtual 88, 3) := by decide +kernel
theorem dX12_refusal_44 : decode cX12_refusal 44 = .ok (.if_icmp .lt 15, 3) := by decide +kernel
theorem dX12_refusal_47 : decode cX12_refusal 47 = .ok (.aload_n 0, 1) := by decide +kernel
theorem dX12_refusal_48 : decode cX12_refusal 48 = .ok (.invokevirtual 81, 3) := by decide +kernel
theorem dX12_refusal_51 : decode cX12_refusal 51 = .ok (.aload_n 0, 1) := by decide +kernel
theorem dX12_refusal_52 : decode cX12_refusal 52 = .ok (.iload_n 3, 1) := by decide +kernel
theorem dX12_refusal_53 : decode cX12_refusal 53 = .ok (.invokevirtual 114, 3) := by decide +kernel
theorem dX12_refusal_56 : decode cX12_refusal 56 = .ok (.if_icmp .le 5, 3) := by decide +kernel
theorem dX12_refusal_59 : decode cX12_refusal 59 = .ok (.iconst 3, 1) := by decide +kernel
theorem dX12_refusal_60 : decode cX12_refusal 60 = .ok (.ireturn, 1) := by decide +kernel
theorem dX12_refusal_61 : decode cX12_refusal 61 = .ok (.aload_n 0, 1) := by decide +kernel
theorem dX12_refusal_62 : decode cX12_refusal 62 = .ok (.iload_n 3, 1) := by decide +kernel
theorem dX12_refusal_63 : decode cX12_refusal 63 = .ok (.iconst 0, 1) := by decide +kernel
theorem dX12_refusal_64 : decode cX12_refusal 64 = .ok (.invokevirtual 88, 3) := by decide +kernel
theorem dX12_refusal_67 : decode cX12_refusal 67 = .ok (.aload_n 0, 1) := by decide +kernel
theorem dX12_refusal_68 : decode cX12_refusal 68 = .ok (.iload_n 2, 1) := by decide +kernel
theorem dX12_refusal_69 : decode cX12_refusal 69 = .ok (.iconst 0, 1) := by decide +kernel
theorem dX12_refusal_70 : decode cX12_refusal 70 = .ok (.invokevirtual 85, 3) := by decide +kernel
theorem dX12_refusal_73 : decode cX12_refusal 73 = .ok (.ishr, 1) := by decide +kernel
theorem dX12_refusal_74 : decode cX12_refusal 74 = .ok (.iconst 1, 1) := by decide +kernel
theorem dX12_refusal_75 : decode cX12_refusal 75 = .ok (.iand, 1) := by decide +kernel
theorem dX12_refusal_76 : decode cX12_refusal 76 = .ok (.ifCond .ne 5, 3) := by decide +kernel
theorem dX12_refusal_79 : decode cX12_refusal 79 = .ok (.iconst 4, 1) := by decide +kernel
theorem dX12_refusal_80 : decode cX12_refusal 80 = .ok (.ireturn, 1) := by decide +kernel
theorem dX12_refusal_81 : decode cX12_refusal 81 = .ok (.aload_n 0, 1) := by decide +kernel
theorem dX12_refusal_82 : decode cX12_refusal 82 = .ok (.iload_n 3, 1) := by decide +kernel
theorem dX12_refusal_83 : decode cX12_refusal 83 = .ok (.bipush 11, 2) := by decide +kernel
theorem dX12_refusal_85 : decode cX12_refusal 85 = .ok (.invokevirtual 88, 3) := by decide +kernel
theorem dX12_refusal_88 : decode cX12_refusal 88 = .ok (.bipush 30, 2) := by decide +kernel
theorem dX12_refusal_90 : decode cX12_refusal 90 = .ok (.if_icmp .le 5, 3) := by decide +kernel
theorem dX12_refusal_93 : decode cX12_refusal 93 = .ok (.iconst 5, 1) := by decide +kernel
theorem dX12_refusal_94 : decode cX12_refusal 94 = .ok (.ireturn, 1) := by decide +kernel
theorem dX12_refusal_95 : decode cX12_refusal 95 = .ok (.aload_n 0, 1) := by decide +kernel
theorem dX12_refusal_96 : decode cX12_refusal 96 = .ok (.iload_n 3, 1) := by decide +kernel
theorem dX12_refusal_97 : decode cX12_refusal 97 = .ok (.bipush 9, 2) := by decide +kernel
theorem dX12_refusal_99 : decode cX12_refusal 99 = .ok (.invokevirtual 88, 3) := by decide +kernel
theorem dX12_refusal_102 : decode cX12_refusal 102 = .ok (.iconst (-1), 1) := by decide +kernel
theorem dX12_refusal_103 : decode cX12_refusal 103 = .ok (.if_icmp .eq 30, 3) := by decide +kernel
theorem dX12_refusal_106 : decode cX12_refusal 106 = .ok (.aload_n 0, 1) := by decide +kernel
theorem dX12_refusal_107 : decode cX12_refusal 107 = .ok (.getfield 9, 3) := by decide +kernel
theorem dX12_refusal_110 : decode cX12_refusal 110 = .ok (.iconst 4, 1) := by decide +kernel
theorem dX12_refusal_111 : decode cX12_refusal 111 = .ok (.iaload, 1) := by decide +kernel
theorem dX12_refusal_112 : decode cX12_refusal 112 = .ok (.aload_n 0, 1) := by decide +kernel
theorem dX12_refusal_113 : decode cX12_refusal 113 = .ok (.iload_n 3, 1) := by decide +kernel
theorem dX12_refusal_114 : decode cX12_refusal 114 = .ok (.bipush 9, 2) := by decide +kernel
theorem dX12_refusal_116 : decode cX12_refusal 116 = .ok (.invokevirtual 88, 3) := by decide +kernel
theorem dX12_refusal_119 : decode cX12_refusal 119 = .ok (.isub, 1) := by decide +kernel
theorem dX12_refusal_120 : decode cX12_refusal 120 = .ok (.aload_n 0, 1) := by decide +kernel
theorem dX12_refusal_121 : decode cX12_refusal 121 = .ok (.getfield 9, 3) := by decide +kernel
theorem dX12_refusal_124 : decode cX12_refusal 124 = .ok (.bipush 6, 2) := by decide +kernel
theorem dX12_refusal_126 : decode cX12_refusal 126 = .ok (.iaload, 1) := by decide +kernel
theorem dX12_refusal_127 : decode cX12_refusal 127 = .ok (.if_icmp .ge 6, 3) := by decide +kernel
theorem dX12_refusal_130 : decode cX12_refusal 130 = .ok (.bipush 6, 2) := by decide +kernel
theorem dX12_refusal_132 : decode cX12_refusal 132 = .ok (.ireturn, 1) := by decide +kernel
theorem dX12_refusal_133 : decode cX12_refusal 133 = .ok (.aload_n 0, 1) := by decide +kernel
theorem dX12_refusal_134 : decode cX12_refusal 134 = .ok (.iload_n 2, 1) := by decide +kernel
theorem dX12_refusal_135 : decode cX12_refusal 135 = .ok (.iconst 5, 1) := by decide +kernel
theorem dX12_refusal_136 : decode cX12_refusal 136 = .ok (.invokevirtual 85, 3) := by decide +kernel
theorem dX12_refusal_139 : decode cX12_refusal 139 = .ok (.aload_n 0, 1) := by decide +kernel
theorem dX12_refusal_140 : decode cX12_refusal 140 = .ok (.iload_n 2, 1) := by decide +kernel
theorem dX12_refusal_141 : decode cX12_refusal 141 = .ok (.iconst 1, 1) := by decide +kernel
theorem dX12_refusal_142 : decode cX12_refusal 142 = .ok (.invokevirtual 85, 3) := by decide +kernel
theorem dX12_refusal_145 : decode cX12_refusal 145 = .ok (.if_icmp .lt 8, 3) := by decide +kernel
theorem dX12_refusal_148 : decode cX12_refusal 148 = .ok (.bipush 7, 2) := by decide +kernel
theorem dX12_refusal_150 : decode cX12_refusal 150 = .ok (.goto 4, 3) := by decide +kernel
theorem dX12_refusal_153 : decode cX12_refusal 153 = .ok (.iconst 0, 1) := by decide +kernel
theorem dX12_refusal_154 : decode cX12_refusal 154 = .ok (.ireturn, 1) := by decide +kernel
theorem dX12_show_0 : decode cX12_show 0 = .ok (.aload_n 0, 1) := by decide +kernel
theorem dX12_show_1 : decode cX12_show 1 = .ok (.iload_n 1, 1) := by decide +kernel
theorem dX12_show_2 : decode cX12_show 2 = .ok (.iload_n 2, 1) := by decide +kernel
theorem dX12_show_3 : decode cX12_show 3 = .ok (.invokevirtual 117, 3) := by decide +kernel
theorem dX12_show_6 : decode cX12_show 6 = .ok (.istore_n 3, 1) := by decide +kernel
theorem dX12_show_7 : decode cX12_show 7 = .ok (.aload_n 0, 1) := by decide +kernel
theorem dX12_show_8 : decode cX12_show 8 = .ok (.getfield 9, 3) := by decide +kernel
theorem dX12_show_11 : decode cX12_show 11 = .ok (.bipush 13, 2) := by decide +kernel
theorem dX12_show_13 : decode cX12_show 13 = .ok (.dup2, 1) := by decide +kernel
theorem dX12_show_14 : decode cX12_show 14 = .ok (.iaload, 1) := by decide +kernel
theorem dX12_show_15 : decode cX12_show 15 = .ok (.iload_n 3, 1) := by decide +kernel
theorem dX12_show_16 : decode cX12_show 16 = .ok (.iconst 2, 1) := by decide +kernel
theorem dX12_show_17 : decode cX12_show 17 = .ok (.if_icmp .ne 7, 3) := by decide +kernel
theorem dX12_show_20 : decode cX12_show 20 = .ok (.iconst 1, 1) := by decide +kernel
theorem dX12_show_21 : decode cX12_show 21 = .ok (.goto 4, 3) := by decide +kernel
theorem dX12_show_24 : decode cX12_show 24 = .ok (.iconst 0, 1) := by decide +kernel
theorem dX12_show_25 : decode cX12_show 25 = .ok (.iadd, 1) := by decide +kernel
theorem dX12_show_26 : decode cX12_show 26 = .ok (.iastore, 1) := by decide +kernel
theorem dX12_show_27 : decode cX12_show 27 = .ok (.iload_n 3, 1) := by decide +kernel
theorem dX12_show_28 : decode cX12_show 28 = .ok (.ifCond .ne 112, 3) := by decide +kernel
theorem dX12_show_31 : decode cX12_show 31 = .ok (.aload_n 0, 1) := by decide +kernel
theorem dX12_show_32 : decode cX12_show 32 = .ok (.iload_n 1, 1) := by decide +kernel
theorem dX12_show_33 : decode cX12_show 33 = .ok (.invokevirtual 108, 3) := by decide +kernel
theorem dX12_show_36 : decode cX12_show 36 = .ok (.istore 4, 2) := by decide +kernel
theorem dX12_show_38 : decode cX12_show 38 = .ok (.aload_n 0, 1) := by decide +kernel
theorem dX12_show_39 : decode cX12_show 39 = .ok (.iload 4, 2) := by decide +kernel
theorem dX12_show_41 : decode cX12_show 41 = .ok (.bipush 7, 2) := by decide +kernel
theorem dX12_show_43 : decode cX12_show 43 = .ok (.aload_n 0, 1) := by decide +kernel
theorem dX12_show_44 : decode cX12_show 44 = .ok (.iload 4, 2) := by decide +kernel
theorem dX12_show_46 : decode cX12_show 46 = .ok (.bipush 7, 2) := by decide +kernel
theorem dX12_show_48 : decode cX12_show 48 = .ok (.invokevirtual 88, 3) := by decide +kernel
theorem dX12_show_51 : decode cX12_show 51 = .ok (.iconst 1, 1) := by decide +kernel
theorem dX12_show_52 : decode cX12_show 52 = .ok (.aload_n 0, 1) := by decide +kernel
theorem dX12_show_53 : decode cX12_show 53 = .ok (.invokevirtual 81, 3) := by decide +kernel
theorem dX12_show_56 : decode cX12_show 56 = .ok (.aload_n 0, 1) := by decide +kernel
theorem dX12_show_57 : decode cX12_show 57 = .ok (.iload 4, 2) := by decide +kernel
theorem dX12_show_59 : decode cX12_show 59 = .ok (.iconst 1, 1) := by decide +kernel
theorem dX12_show_60 : decode cX12_show 60 = .ok (.invokevirtual 88, 3) := by decide +kernel
theorem dX12_show_63 : decode cX12_show 63 = .ok (.isub, 1) := by decide +kernel
theorem dX12_show_64 : decode cX12_show 64 = .ok (.ishl, 1) := by decide +kernel
theorem dX12_show_65 : decode cX12_show 65 = .ok (.ior, 1) := by decide +kernel
theorem dX12_show_66 : decode cX12_show 66 = .ok (.invokevirtual 98, 3) := by decide +kernel
theorem dX12_show_69 : decode cX12_show 69 = .ok (.aload_n 0, 1) := by decide +kernel
theorem dX12_show_70 : decode cX12_show 70 = .ok (.iload 4, 2) := by decide +kernel
theorem dX12_show_72 : decode cX12_show 72 = .ok (.bipush 8, 2) := by decide +kernel
theorem dX12_show_74 : decode cX12_show 74 = .ok (.aload_n 0, 1) := by decide +kernel
theorem dX12_show_75 : decode cX12_show 75 = .ok (.iload 4, 2) := by decide +kernel
theorem dX12_show_77 : decode cX12_show 77 = .ok (.bipush 8, 2) := by decide +kernel
theorem dX12_show_79 : decode cX12_show 79 = .ok (.invokevirtual 88, 3) := by decide +kernel
theorem dX12_show_82 : decode cX12_show 82 = .ok (.iconst 1, 1) := by decide +kernel
theorem dX12_show_83 : decode cX12_show 83 = .ok (.iadd, 1) := by decide +kernel
theorem dX12_show_84 : decode cX12_show 84 = .ok (.invokevirtual 98, 3) := by decide +kernel
theorem dX12_show_87 : decode cX12_show 87 = .ok (.aload_n 0, 1) := by decide +kernel
theorem dX12_show_88 : decode cX12_show 88 = .ok (.iload 4, 2) := by decide +kernel
theorem dX12_show_90 : decode cX12_show 90 = .ok (.bipush 9, 2) := by decide +kernel
theorem dX12_show_92 : decode cX12_show 92 = .ok (.aload_n 0, 1) := by decide +kernel
theorem dX12_show_93 : decode cX12_show 93 = .ok (.getfield 9, 3) := by decide +kernel
theorem dX12_show_96 : decode cX12_show 96 = .ok (.iconst 4, 1) := by decide +kernel
theorem dX12_show_97 : decode cX12_show 97 = .ok (.iaload, 1) := by decide +kernel
theorem dX12_show_98 : decode cX12_show 98 = .ok (.invokevirtual 98, 3) := by decide +kernel
theorem dX12_show_101 : decode cX12_show 101 = .ok (.aload_n 0, 1) := by decide +kernel
theorem dX12_show_102 : decode cX12_show 102 = .ok (.iload 4, 2) := by decide +kernel
theorem dX12_show_104 : decode cX12_show 104 = .ok (.bipush 10, 2) := by decide +kernel
theorem dX12_show_106 : decode cX12_show 106 = .ok (.iload_n 2, 1) := by decide +kernel
theorem dX12_show_107 : decode cX12_show 107 = .ok (.invokevirtual 98, 3) := by decide +kernel
theorem dX12_show_110 : decode cX12_show 110 = .ok (.aload_n 0, 1) := by decide +kernel
theorem dX12_show_111 : decode cX12_show 111 = .ok (.iload_n 2, 1) := by decide +kernel
theorem dX12_show_112 : decode cX12_show 112 = .ok (.iconst 5, 1) := by decide +kernel
theorem dX12_show_113 : decode cX12_show 113 = .ok (.aload_n 0, 1) := by decide +kernel
theorem dX12_show_114 : decode cX12_show 114 = .ok (.iload_n 2, 1) := by decide +kernel
theorem dX12_show_115 : decode cX12_show 115 = .ok (.iconst 5, 1) := by decide +kernel
theorem dX12_show_116 : decode cX12_show 116 = .ok (.invokevirtual 85, 3) := by decide +kernel
theorem dX12_show_119 : decode cX12_show 119 = .ok (.iconst 1, 1) := by decide +kernel
theorem dX12_show_120 : decode cX12_show 120 = .ok (.iadd, 1) := by decide +kernel
theorem dX12_show_121 : decode cX12_show 121 = .ok (.invokevirtual 94, 3) := by decide +kernel
theorem dX12_show_124 : decode cX12_show 124 = .ok (.aload_n 0, 1) := by decide +kernel
theorem dX12_show_125 : decode cX12_show 125 = .ok (.iload_n 2, 1) := by decide +kernel
theorem dX12_show_126 : decode cX12_show 126 = .ok (.bipush 6, 2) := by decide +kernel
theorem dX12_show_128 : decode cX12_show 128 = .ok (.aload_n 0, 1) := by decide +kernel
theorem dX12_show_129 : decode cX12_show 129 = .ok (.iload_n 2, 1) := by decide +kernel
theorem dX12_show_130 : decode cX12_show 130 = .ok (.bipush 6, 2) := by decide +kernel
theorem dX12_show_132 : decode cX12_show 132 = .ok (.invokevirtual 85, 3) := by decide +kernel
theorem dX12_show_135 : decode cX12_show 135 = .ok (.iconst 1, 1) := by decide +kernel
theorem dX12_show_136 : decode cX12_show 136 = .ok (.iadd, 1) := by decide +kernel
theorem dX12_show_137 : decode cX12_show 137 = .ok (.invokevirtual 94, 3) := by decide +kernel
theorem dX12_show_140 : decode cX12_show 140 = .ok (.iload_n 3, 1) := by decide +kernel
theorem dX12_show_141 : decode cX12_show 141 = .ok (.ireturn, 1) := by decide +kernel
theorem dX12_cannotPluck_0 : decode cX12_cannotPluck 0 = .ok (.aload_n 0, 1) := by decide +kernel
theorem dX12_cannotPluck_1 : decode cX12_cannotPluck 1 = .ok (.iload_n 1, 1) := by decide +kernel
theorem dX12_cannotPluck_2 : decode cX12_cannotPluck 2 = .ok (.invokevirtual 108, 3) := by decide +kernel
theorem dX12_cannotPluck_5 : decode cX12_cannotPluck 5 = .ok (.istore_n 3, 1) := by decide +kernel
theorem dX12_cannotPluck_6 : decode cX12_cannotPluck 6 = .ok (.aload_n 0, 1) := by decide +kernel
theorem dX12_cannotPluck_7 : decode cX12_cannotPluck 7 = .ok (.iload_n 1, 1) := by decide +kernel
theorem dX12_cannotPluck_8 : decode cX12_cannotPluck 8 = .ok (.invokevirtual 111, 3) := by decide +kernel
theorem dX12_cannotPluck_11 : decode cX12_cannotPluck 11 = .ok (.ifCond .ne 19, 3) := by decide +kernel
theorem dX12_cannotPluck_14 : decode cX12_cannotPluck 14 = .ok (.aload_n 0, 1) := by decide +kernel
theorem dX12_cannotPluck_15 : decode cX12_cannotPluck 15 = .ok (.iload_n 3, 1) := by decide +kernel
theorem dX12_cannotPluck_16 : decode cX12_cannotPluck 16 = .ok (.bipush 9, 2) := by decide +kernel
theorem dX12_cannotPluck_18 : decode cX12_cannotPluck 18 = .ok (.invokevirtual 88, 3) := by decide +kernel
theorem dX12_cannotPluck_21 : decode cX12_cannotPluck 21 = .ok (.aload_n 0, 1) := by decide +kernel
theorem dX12_cannotPluck_22 : decode cX12_cannotPluck 22 = .ok (.getfield 9, 3) := by decide +kernel
theorem dX12_cannotPluck_25 : decode cX12_cannotPluck 25 = .ok (.iconst 4, 1) := by decide +kernel
theorem dX12_cannotPluck_26 : decode cX12_cannotPluck 26 = .ok (.iaload, 1) := by decide +kernel
theorem dX12_cannotPluck_27 : decode cX12_cannotPluck 27 = .ok (.if_icmp .eq 5, 3) := by decide +kernel
theorem dX12_cannotPluck_30 : decode cX12_cannotPluck 30 = .ok (.iconst 1, 1) := by decide +kernel
theorem dX12_cannotPluck_31 : decode cX12_cannotPluck 31 = .ok (.ireturn, 1) := by decide +kernel
theorem dX12_cannotPluck_32 : decode cX12_cannotPluck 32 = .ok (.aload_n 0, 1) := by decide +kernel
theorem dX12_cannotPluck_33 : decode cX12_cannotPluck 33 = .ok (.aload_n 0, 1) := by decide +kernel
theorem dX12_cannotPluck_34 : decode cX12_cannotPluck 34 = .ok (.iload_n 3, 1) := by decide +kernel
theorem dX12_cannotPluck_35 : decode cX12_cannotPluck 35 = .ok (.bipush 10, 2) := by decide +kernel
theorem dX12_cannotPluck_37 : decode cX12_cannotPluck 37 = .ok (.invokevirtual 88, 3) := by decide +kernel
theorem dX12_cannotPluck_40 : decode cX12_cannotPluck 40 = .ok (.iconst 4, 1) := by decide +kernel
theorem dX12_cannotPluck_41 : decode cX12_cannotPluck 41 = .ok (.invokevirtual 85, 3) := by decide +kernel
theorem dX12_cannotPluck_44 : decode cX12_cannotPluck 44 = .ok (.iload_n 2, 1) := by decide +kernel
theorem dX12_cannotPluck_45 : decode cX12_cannotPluck 45 = .ok (.if_icmp .ge 7, 3) := by decide +kernel
theorem dX12_cannotPluck_48 : decode cX12_cannotPluck 48 = .ok (.iconst 1, 1) := by decide +kernel
theorem dX12_cannotPluck_49 : decode cX12_cannotPluck 49 = .ok (.goto 4, 3) := by decide +kernel
theorem dX12_cannotPluck_52 : decode cX12_cannotPluck 52 = .ok (.iconst 0, 1) := by decide +kernel
theorem dX12_cannotPluck_53 : decode cX12_cannotPluck 53 = .ok (.ireturn, 1) := by decide +kernel
theorem dX12_take_0 : decode cX12_take 0 = .ok (.aload_n 0, 1) := by decide +kernel
theorem dX12_take_1 : decode cX12_take 1 = .ok (.iload_n 1, 1) := by decide +kernel
theorem dX12_take_2 : decode cX12_take 2 = .ok (.invokevirtual 108, 3) := by decide +kernel
theorem dX12_take_5 : decode cX12_take 5 = .ok (.istore_n 3, 1) := by decide +kernel
theorem dX12_take_6 : decode cX12_take 6 = .ok (.aload_n 0, 1) := by decide +kernel
theorem dX12_take_7 : decode cX12_take 7 = .ok (.iload_n 3, 1) := by decide +kernel
theorem dX12_take_8 : decode cX12_take 8 = .ok (.bipush 10, 2) := by decide +kernel
theorem dX12_take_10 : decode cX12_take 10 = .ok (.invokevirtual 88, 3) := by decide +kernel
theorem dX12_take_13 : decode cX12_take 13 = .ok (.istore 4, 2) := by decide +kernel
theorem dX12_take_15 : decode cX12_take 15 = .ok (.aload_n 0, 1) := by decide +kernel
theorem dX12_take_16 : decode cX12_take 16 = .ok (.iload 4, 2) := by decide +kernel
theorem dX12_take_18 : decode cX12_take 18 = .ok (.iload_n 2, 1) := by decide +kernel
theorem dX12_take_19 : decode cX12_take 19 = .ok (.invokevirtual 120, 3) := by decide +kernel
theorem dX12_take_22 : decode cX12_take 22 = .ok (.istore 5, 2) := by decide +kernel
theorem dX12_take_24 : decode cX12_take 24 = .ok (.aload_n 0, 1) := by decide +kernel
theorem dX12_take_25 : decode cX12_take 25 = .ok (.iload 4, 2) := by decide +kernel
theorem dX12_take_27 : decode cX12_take 27 = .ok (.iconst 4, 1) := by decide +kernel
theorem dX12_take_28 : decode cX12_take 28 = .ok (.aload_n 0, 1) := by decide +kernel
theorem dX12_take_29 : decode cX12_take 29 = .ok (.iload 4, 2) := by decide +kernel
theorem dX12_take_31 : decode cX12_take 31 = .ok (.iconst 4, 1) := by decide +kernel
theorem dX12_take_32 : decode cX12_take 32 = .ok (.invokevirtual 85, 3) := by decide +kernel
theorem dX12_take_35 : decode cX12_take 35 = .ok (.iload_n 2, 1) := by decide +kernel
theorem dX12_take_36 : decode cX12_take 36 = .ok (.isub, 1) := by decide +kernel
theorem dX12_take_37 : decode cX12_take 37 = .ok (.invokevirtual 94, 3) := by decide +kernel
theorem dX12_take_40 : decode cX12_take 40 = .ok (.aload_n 0, 1) := by decide +kernel
theorem dX12_take_41 : decode cX12_take 41 = .ok (.iload_n 3, 1) := by decide +kernel
theorem dX12_take_42 : decode cX12_take 42 = .ok (.bipush 11, 2) := by decide +kernel
theorem dX12_take_44 : decode cX12_take 44 = .ok (.aload_n 0, 1) := by decide +kernel
theorem dX12_take_45 : decode cX12_take 45 = .ok (.iload_n 3, 1) := by decide +kernel
theorem dX12_take_46 : decode cX12_take 46 = .ok (.bipush 11, 2) := by decide +kernel
theorem dX12_take_48 : decode cX12_take 48 = .ok (.invokevirtual 88, 3) := by decide +kernel
theorem dX12_take_51 : decode cX12_take 51 = .ok (.iload 5, 2) := by decide +kernel
theorem dX12_take_53 : decode cX12_take 53 = .ok (.iadd, 1) := by decide +kernel
theorem dX12_take_54 : decode cX12_take 54 = .ok (.invokevirtual 98, 3) := by decide +kernel
theorem dX12_take_57 : decode cX12_take 57 = .ok (.aload_n 0, 1) := by decide +kernel
theorem dX12_take_58 : decode cX12_take 58 = .ok (.getfield 9, 3) := by decide +kernel
theorem dX12_take_61 : decode cX12_take 61 = .ok (.bipush 12, 2) := by decide +kernel
theorem dX12_take_63 : decode cX12_take 63 = .ok (.dup2, 1) := by decide +kernel
theorem dX12_take_64 : decode cX12_take 64 = .ok (.iaload, 1) := by decide +kernel
theorem dX12_take_65 : decode cX12_take 65 = .ok (.iload_n 2, 1) := by decide +kernel
theorem dX12_take_66 : decode cX12_take 66 = .ok (.iadd, 1) := by decide +kernel
theorem dX12_take_67 : decode cX12_take 67 = .ok (.iastore, 1) := by decide +kernel
theorem dX12_take_68 : decode cX12_take 68 = .ok (.aload_n 0, 1) := by decide +kernel
theorem dX12_take_69 : decode cX12_take 69 = .ok (.getfield 9, 3) := by decide +kernel
theorem dX12_take_72 : decode cX12_take 72 = .ok (.bipush 14, 2) := by decide +kernel
theorem dX12_take_74 : decode cX12_take 74 = .ok (.dup2, 1) := by decide +kernel
theorem dX12_take_75 : decode cX12_take 75 = .ok (.iaload, 1) := by decide +kernel
theorem dX12_take_76 : decode cX12_take 76 = .ok (.iload 5, 2) := by decide +kernel
theorem dX12_take_78 : decode cX12_take 78 = .ok (.iadd, 1) := by decide +kernel
theorem dX12_take_79 : decode cX12_take 79 = .ok (.iastore, 1) := by decide +kernel
theorem dX12_take_80 : decode cX12_take 80 = .ok (.iload 5, 2) := by decide +kernel
theorem dX12_take_82 : decode cX12_take 82 = .ok (.ireturn, 1) := by decide +kernel
theorem dX12_lose_0 : decode cX12_lose 0 = .ok (.aload_n 0, 1) := by decide +kernel
theorem dX12_lose_1 : decode cX12_lose 1 = .ok (.iload_n 1, 1) := by decide +kernel
theorem dX12_lose_2 : decode cX12_lose 2 = .ok (.iconst 5, 1) := by decide +kernel
theorem dX12_lose_3 : decode cX12_lose 3 = .ok (.invokevirtual 88, 3) := by decide +kernel
theorem dX12_lose_6 : decode cX12_lose 6 = .ok (.istore_n 2, 1) := by decide +kernel
theorem dX12_lose_7 : decode cX12_lose 7 = .ok (.aload_n 0, 1) := by decide +kernel
theorem dX12_lose_8 : decode cX12_lose 8 = .ok (.getfield 9, 3) := by decide +kernel
theorem dX12_lose_11 : decode cX12_lose 11 = .ok (.sipush 436, 3) := by decide +kernel
theorem dX12_lose_14 : decode cX12_lose 14 = .ok (.iconst 2, 1) := by decide +kernel
theorem dX12_lose_15 : decode cX12_lose 15 = .ok (.iload_n 2, 1) := by decide +kernel
theorem dX12_lose_16 : decode cX12_lose 16 = .ok (.imul, 1) := by decide +kernel
theorem dX12_lose_17 : decode cX12_lose 17 = .ok (.iadd, 1) := by decide +kernel
theorem dX12_lose_18 : decode cX12_lose 18 = .ok (.iconst 1, 1) := by decide +kernel
theorem dX12_lose_19 : decode cX12_lose 19 = .ok (.iadd, 1) := by decide +kernel
theorem dX12_lose_20 : decode cX12_lose 20 = .ok (.iconst 1, 1) := by decide +kernel
theorem dX12_lose_21 : decode cX12_lose 21 = .ok (.iastore, 1) := by decide +kernel
theorem dX12_lose_22 : decode cX12_lose 22 = .ok (.aload_n 0, 1) := by decide +kernel
theorem dX12_lose_23 : decode cX12_lose 23 = .ok (.iload_n 1, 1) := by decide +kernel
theorem dX12_lose_24 : decode cX12_lose 24 = .ok (.iconst 5, 1) := by decide +kernel
theorem dX12_lose_25 : decode cX12_lose 25 = .ok (.iconst (-1), 1) := by decide +kernel
theorem dX12_lose_26 : decode cX12_lose 26 = .ok (.invokevirtual 98, 3) := by decide +kernel
theorem dX12_lose_29 : decode cX12_lose 29 = .ok (.iload_n 2, 1) := by decide +kernel
theorem dX12_lose_30 : decode cX12_lose 30 = .ok (.ireturn, 1) := by decide +kernel
theorem dX12_cannotReplace_0 : decode cX12_cannotReplace 0 = .ok (.aload_n 0, 1) := by decide +kernel
theorem dX12_cannotReplace_1 : decode cX12_cannotReplace 1 = .ok (.iload_n 1, 1) := by decide +kernel
theorem dX12_cannotReplace_2 : decode cX12_cannotReplace 2 = .ok (.iconst 5, 1) := by decide +kernel
theorem dX12_cannotReplace_3 : decode cX12_cannotReplace 3 = .ok (.invokevirtual 88, 3) := by decide +kernel
theorem dX12_cannotReplace_6 : decode cX12_cannotReplace 6 = .ok (.iconst (-1), 1) := by decide +kernel
theorem dX12_cannotReplace_7 : decode cX12_cannotReplace 7 = .ok (.if_icmp .ne 25, 3) := by decide +kernel
theorem dX12_cannotReplace_10 : decode cX12_cannotReplace 10 = .ok (.aload_n 0, 1) := by decide +kernel
theorem dX12_cannotReplace_11 : decode cX12_cannotReplace 11 = .ok (.iload_n 1, 1) := by decide +kernel
theorem dX12_cannotReplace_12 : decode cX12_cannotReplace 12 = .ok (.bipush 6, 2) := by decide +kernel
theorem dX12_cannotReplace_14 : decode cX12_cannotReplace 14 = .ok (.invokevirtual 88, 3) := by decide +kernel
theorem dX12_cannotReplace_17 : decode cX12_cannotReplace 17 = .ok (.iconst 1, 1) := by decide +kernel
theorem dX12_cannotReplace_18 : decode cX12_cannotReplace 18 = .ok (.if_icmp .eq 14, 3) := by decide +kernel
theorem dX12_cannotReplace_21 : decode cX12_cannotReplace 21 = .ok (.aload_n 0, 1) := by decide +kernel
theorem dX12_cannotReplace_22 : decode cX12_cannotReplace 22 = .ok (.getfield 9, 3) := by decide +kernel
theorem dX12_cannotReplace_25 : decode cX12_cannotReplace 25 = .ok (.iconst 3, 1) := by decide +kernel
theorem dX12_cannotReplace_26 : decode cX12_cannotReplace 26 = .ok (.iaload, 1) := by decide +kernel
theorem dX12_cannotReplace_27 : decode cX12_cannotReplace 27 = .ok (.bipush 50, 2) := by decide +kernel
theorem dX12_cannotReplace_29 : decode cX12_cannotReplace 29 = .ok (.if_icmp .ne 7, 3) := by decide +kernel
theorem dX12_cannotReplace_32 : decode cX12_cannotReplace 32 = .ok (.iconst 1, 1) := by decide +kernel
theorem dX12_cannotReplace_33 : decode cX12_cannotReplace 33 = .ok (.goto 4, 3) := by decide +kernel
theorem dX12_cannotReplace_36 : decode cX12_cannotReplace 36 = .ok (.iconst 0, 1) := by decide +kernel
theorem dX12_cannotReplace_37 : decode cX12_cannotReplace 37 = .ok (.ireturn, 1) := by decide +kernel
theorem dX12_replaceIt_0 : decode cX12_replaceIt 0 = .ok (.aload_n 0, 1) := by decide +kernel
theorem dX12_replaceIt_1 : decode cX12_replaceIt 1 = .ok (.getfield 9, 3) := by decide +kernel
theorem dX12_replaceIt_4 : decode cX12_replaceIt 4 = .ok (.bipush 9, 2) := by decide +kernel
theorem dX12_replaceIt_6 : decode cX12_replaceIt 6 = .ok (.dup2, 1) := by decide +kernel
theorem dX12_replaceIt_7 : decode cX12_replaceIt 7 = .ok (.iaload, 1) := by decide +kernel
theorem dX12_replaceIt_8 : decode cX12_replaceIt 8 = .ok (.iconst 5, 1) := by decide +kernel
theorem dX12_replaceIt_9 : decode cX12_replaceIt 9 = .ok (.iadd, 1) := by decide +kernel
theorem dX12_replaceIt_10 : decode cX12_replaceIt 10 = .ok (.iastore, 1) := by decide +kernel
theorem dX12_replaceIt_11 : decode cX12_replaceIt 11 = .ok (.aload_n 0, 1) := by decide +kernel
theorem dX12_replaceIt_12 : decode cX12_replaceIt 12 = .ok (.iload_n 1, 1) := by decide +kernel
theorem dX12_replaceIt_13 : decode cX12_replaceIt 13 = .ok (.invokevirtual 105, 3) := by decide +kernel
theorem dX12_replaceIt_16 : decode cX12_replaceIt 16 = .ok (.ireturn, 1) := by decide +kernel
theorem dX12_receive_0 : decode cX12_receive 0 = .ok (.aload_n 0, 1) := by decide +kernel
theorem dX12_receive_1 : decode cX12_receive 1 = .ok (.iload_n 1, 1) := by decide +kernel
theorem dX12_receive_2 : decode cX12_receive 2 = .ok (.bipush 11, 2) := by decide +kernel
theorem dX12_receive_4 : decode cX12_receive 4 = .ok (.aload_n 0, 1) := by decide +kernel
theorem dX12_receive_5 : decode cX12_receive 5 = .ok (.iload_n 1, 1) := by decide +kernel
theorem dX12_receive_6 : decode cX12_receive 6 = .ok (.bipush 11, 2) := by decide +kernel
theorem dX12_receive_8 : decode cX12_receive 8 = .ok (.invokevirtual 88, 3) := by decide +kernel
theorem dX12_receive_11 : decode cX12_receive 11 = .ok (.iload_n 2, 1) := by decide +kernel
theorem dX12_receive_12 : decode cX12_receive 12 = .ok (.isub, 1) := by decide +kernel
theorem dX12_receive_13 : decode cX12_receive 13 = .ok (.invokevirtual 98, 3) := by decide +kernel
theorem dX12_receive_16 : decode cX12_receive 16 = .ok (.aload_n 0, 1) := by decide +kernel
theorem dX12_receive_17 : decode cX12_receive 17 = .ok (.getfield 9, 3) := by decide +kernel
theorem dX12_receive_20 : decode cX12_receive 20 = .ok (.bipush 11, 2) := by decide +kernel
theorem dX12_receive_22 : decode cX12_receive 22 = .ok (.dup2, 1) := by decide +kernel
theorem dX12_receive_23 : decode cX12_receive 23 = .ok (.iaload, 1) := by decide +kernel
theorem dX12_receive_24 : decode cX12_receive 24 = .ok (.iload_n 2, 1) := by decide +kernel
theorem dX12_receive_25 : decode cX12_receive 25 = .ok (.iadd, 1) := by decide +kernel
theorem dX12_receive_26 : decode cX12_receive 26 = .ok (.iastore, 1) := by decide +kernel
theorem dX12_receive_27 : decode cX12_receive 27 = .ok (.aload_n 0, 1) := by decide +kernel
theorem dX12_receive_28 : decode cX12_receive 28 = .ok (.getfield 9, 3) := by decide +kernel
theorem dX12_receive_31 : decode cX12_receive 31 = .ok (.bipush 9, 2) := by decide +kernel
theorem dX12_receive_33 : decode cX12_receive 33 = .ok (.dup2, 1) := by decide +kernel
theorem dX12_receive_34 : decode cX12_receive 34 = .ok (.iaload, 1) := by decide +kernel
theorem dX12_receive_35 : decode cX12_receive 35 = .ok (.iload_n 2, 1) := by decide +kernel
theorem dX12_receive_36 : decode cX12_receive 36 = .ok (.iadd, 1) := by decide +kernel
theorem dX12_receive_37 : decode cX12_receive 37 = .ok (.iastore, 1) := by decide +kernel
theorem dX12_receive_38 : decode cX12_receive 38 = .ok (.aload_n 0, 1) := by decide +kernel
theorem dX12_receive_39 : decode cX12_receive 39 = .ok (.iload_n 1, 1) := by decide +kernel
theorem dX12_receive_40 : decode cX12_receive 40 = .ok (.bipush 11, 2) := by decide +kernel
theorem dX12_receive_42 : decode cX12_receive 42 = .ok (.invokevirtual 88, 3) := by decide +kernel
theorem dX12_receive_45 : decode cX12_receive 45 = .ok (.ireturn, 1) := by decide +kernel
theorem dX12_giveBack_0 : decode cX12_giveBack 0 = .ok (.aload_n 0, 1) := by decide +kernel
theorem dX12_giveBack_1 : decode cX12_giveBack 1 = .ok (.iload_n 1, 1) := by decide +kernel
theorem dX12_giveBack_2 : decode cX12_giveBack 2 = .ok (.invokevirtual 123, 3) := by decide +kernel
theorem dX12_giveBack_5 : decode cX12_giveBack 5 = .ok (.istore_n 2, 1) := by decide +kernel
theorem dX12_giveBack_6 : decode cX12_giveBack 6 = .ok (.aload_n 0, 1) := by decide +kernel
theorem dX12_giveBack_7 : decode cX12_giveBack 7 = .ok (.iload_n 1, 1) := by decide +kernel
theorem dX12_giveBack_8 : decode cX12_giveBack 8 = .ok (.bipush 11, 2) := by decide +kernel
theorem dX12_giveBack_10 : decode cX12_giveBack 10 = .ok (.invokevirtual 88, 3) := by decide +kernel
theorem dX12_giveBack_13 : decode cX12_giveBack 13 = .ok (.iload_n 2, 1) := by decide +kernel
theorem dX12_giveBack_14 : decode cX12_giveBack 14 = .ok (.if_icmp .ge 13, 3) := by decide +kernel
theorem dX12_giveBack_17 : decode cX12_giveBack 17 = .ok (.aload_n 0, 1) := by decide +kernel
theorem dX12_giveBack_18 : decode cX12_giveBack 18 = .ok (.iload_n 1, 1) := by decide +kernel
theorem dX12_giveBack_19 : decode cX12_giveBack 19 = .ok (.bipush 11, 2) := by decide +kernel
theorem dX12_giveBack_21 : decode cX12_giveBack 21 = .ok (.invokevirtual 88, 3) := by decide +kernel
theorem dX12_giveBack_24 : decode cX12_giveBack 24 = .ok (.goto 4, 3) := by decide +kernel
theorem dX12_giveBack_27 : decode cX12_giveBack 27 = .ok (.iload_n 2, 1) := by decide +kernel
theorem dX12_giveBack_28 : decode cX12_giveBack 28 = .ok (.istore_n 3, 1) := by decide +kernel
theorem dX12_giveBack_29 : decode cX12_giveBack 29 = .ok (.aload_n 0, 1) := by decide +kernel
theorem dX12_giveBack_30 : decode cX12_giveBack 30 = .ok (.iload_n 1, 1) := by decide +kernel
theorem dX12_giveBack_31 : decode cX12_giveBack 31 = .ok (.iload_n 3, 1) := by decide +kernel
theorem dX12_giveBack_32 : decode cX12_giveBack 32 = .ok (.invokevirtual 126, 3) := by decide +kernel
theorem dX12_giveBack_35 : decode cX12_giveBack 35 = .ok (.istore 4, 2) := by decide +kernel
theorem dX12_giveBack_37 : decode cX12_giveBack 37 = .ok (.aload_n 0, 1) := by decide +kernel
theorem dX12_giveBack_38 : decode cX12_giveBack 38 = .ok (.getfield 9, 3) := by decide +kernel
theorem dX12_giveBack_41 : decode cX12_giveBack 41 = .ok (.bipush 10, 2) := by decide +kernel
theorem dX12_giveBack_43 : decode cX12_giveBack 43 = .ok (.dup2, 1) := by decide +kernel
theorem dX12_giveBack_44 : decode cX12_giveBack 44 = .ok (.iaload, 1) := by decide +kernel
theorem dX12_giveBack_45 : decode cX12_giveBack 45 = .ok (.iload_n 2, 1) := by decide +kernel
theorem dX12_giveBack_46 : decode cX12_giveBack 46 = .ok (.iadd, 1) := by decide +kernel
theorem dX12_giveBack_47 : decode cX12_giveBack 47 = .ok (.iastore, 1) := by decide +kernel
theorem dX12_giveBack_48 : decode cX12_giveBack 48 = .ok (.aload_n 0, 1) := by decide +kernel
theorem dX12_giveBack_49 : decode cX12_giveBack 49 = .ok (.getfield 9, 3) := by decide +kernel
theorem dX12_giveBack_52 : decode cX12_giveBack 52 = .ok (.bipush 9, 2) := by decide +kernel
theorem dX12_giveBack_54 : decode cX12_giveBack 54 = .ok (.dup2, 1) := by decide +kernel
theorem dX12_giveBack_55 : decode cX12_giveBack 55 = .ok (.iaload, 1) := by decide +kernel
theorem dX12_giveBack_56 : decode cX12_giveBack 56 = .ok (.iload_n 2, 1) := by decide +kernel
theorem dX12_giveBack_57 : decode cX12_giveBack 57 = .ok (.isub, 1) := by decide +kernel
theorem dX12_giveBack_58 : decode cX12_giveBack 58 = .ok (.iastore, 1) := by decide +kernel
theorem dX12_giveBack_59 : decode cX12_giveBack 59 = .ok (.aload_n 0, 1) := by decide +kernel
theorem dX12_giveBack_60 : decode cX12_giveBack 60 = .ok (.iload_n 1, 1) := by decide +kernel
theorem dX12_giveBack_61 : decode cX12_giveBack 61 = .ok (.iconst 5, 1) := by decide +kernel
theorem dX12_giveBack_62 : decode cX12_giveBack 62 = .ok (.invokevirtual 88, 3) := by decide +kernel
theorem dX12_giveBack_65 : decode cX12_giveBack 65 = .ok (.iconst (-1), 1) := by decide +kernel
theorem dX12_giveBack_66 : decode cX12_giveBack 66 = .ok (.if_icmp .eq 10, 3) := by decide +kernel
theorem dX12_giveBack_69 : decode cX12_giveBack 69 = .ok (.aload_n 0, 1) := by decide +kernel
theorem dX12_giveBack_70 : decode cX12_giveBack 70 = .ok (.iload_n 1, 1) := by decide +kernel
theorem dX12_giveBack_71 : decode cX12_giveBack 71 = .ok (.invokevirtual 59, 3) := by decide +kernel
theorem dX12_giveBack_74 : decode cX12_giveBack 74 = .ok (.istore 5, 2) := by decide +kernel
theorem dX12_giveBack_76 : decode cX12_giveBack 76 = .ok (.aload_n 0, 1) := by decide +kernel
theorem dX12_giveBack_77 : decode cX12_giveBack 77 = .ok (.iload_n 1, 1) := by decide +kernel
theorem dX12_giveBack_78 : decode cX12_giveBack 78 = .ok (.bipush 6, 2) := by decide +kernel
theorem dX12_giveBack_80 : decode cX12_giveBack 80 = .ok (.iconst 1, 1) := by decide +kernel
theorem dX12_giveBack_81 : decode cX12_giveBack 81 = .ok (.invokevirtual 98, 3) := by decide +kernel
theorem dX12_giveBack_84 : decode cX12_giveBack 84 = .ok (.iload 4, 2) := by decide +kernel
theorem dX12_giveBack_86 : decode cX12_giveBack 86 = .ok (.ifCond .ge 7, 3) := by decide +kernel
theorem dX12_giveBack_89 : decode cX12_giveBack 89 = .ok (.iconst (-1), 1) := by decide +kernel
theorem dX12_giveBack_90 : decode cX12_giveBack 90 = .ok (.goto 6, 3) := by decide +kernel
theorem dX12_giveBack_93 : decode cX12_giveBack 93 = .ok (.iload_n 2, 1) := by decide +kernel
theorem dX12_giveBack_94 : decode cX12_giveBack 94 = .ok (.iload_n 3, 1) := by decide +kernel
theorem dX12_giveBack_95 : decode cX12_giveBack 95 = .ok (.isub, 1) := by decide +kernel
theorem dX12_giveBack_96 : decode cX12_giveBack 96 = .ok (.ireturn, 1) := by decide +kernel
theorem dX12_renew_0 : decode cX12_renew 0 = .ok (.aload_n 0, 1) := by decide +kernel
theorem dX12_renew_1 : decode cX12_renew 1 = .ok (.iload_n 2, 1) := by decide +kernel
theorem dX12_renew_2 : decode cX12_renew 2 = .ok (.iload_n 3, 1) := by decide +kernel
theorem dX12_renew_3 : decode cX12_renew 3 = .ok (.aload_n 0, 1) := by decide +kernel
theorem dX12_renew_4 : decode cX12_renew 4 = .ok (.iload_n 1, 1) := by decide +kernel
theorem dX12_renew_5 : decode cX12_renew 5 = .ok (.iconst 3, 1) := by decide +kernel
theorem dX12_renew_6 : decode cX12_renew 6 = .ok (.invokevirtual 88, 3) := by decide +kernel
theorem dX12_renew_9 : decode cX12_renew 9 = .ok (.invokevirtual 101, 3) := by decide +kernel
theorem dX12_renew_12 : decode cX12_renew 12 = .ok (.istore 4, 2) := by decide +kernel
theorem dX12_renew_14 : decode cX12_renew 14 = .ok (.iload 4, 2) := by decide +kernel
theorem dX12_renew_16 : decode cX12_renew 16 = .ok (.aload_n 0, 1) := by decide +kernel
theorem dX12_renew_17 : decode cX12_renew 17 = .ok (.iload_n 1, 1) := by decide +kernel
theorem dX12_renew_18 : decode cX12_renew 18 = .ok (.iconst 4, 1) := by decide +kernel
theorem dX12_renew_19 : decode cX12_renew 19 = .ok (.invokevirtual 88, 3) := by decide +kernel
theorem dX12_renew_22 : decode cX12_renew 22 = .ok (.if_icmp .le 15, 3) := by decide +kernel
theorem dX12_renew_25 : decode cX12_renew 25 = .ok (.iload 4, 2) := by decide +kernel
theorem dX12_renew_27 : decode cX12_renew 27 = .ok (.aload_n 0, 1) := by decide +kernel
theorem dX12_renew_28 : decode cX12_renew 28 = .ok (.iload_n 1, 1) := by decide +kernel
theorem dX12_renew_29 : decode cX12_renew 29 = .ok (.iconst 4, 1) := by decide +kernel
theorem dX12_renew_30 : decode cX12_renew 30 = .ok (.invokevirtual 88, 3) := by decide +kernel
theorem dX12_renew_33 : decode cX12_renew 33 = .ok (.isub, 1) := by decide +kernel
theorem dX12_renew_34 : decode cX12_renew 34 = .ok (.goto 4, 3) := by decide +kernel
theorem dX12_renew_37 : decode cX12_renew 37 = .ok (.iconst 0, 1) := by decide +kernel
theorem dX12_renew_38 : decode cX12_renew 38 = .ok (.istore 5, 2) := by decide +kernel
theorem dX12_renew_40 : decode cX12_renew 40 = .ok (.aload_n 0, 1) := by decide +kernel
theorem dX12_renew_41 : decode cX12_renew 41 = .ok (.iload_n 1, 1) := by decide +kernel
theorem dX12_renew_42 : decode cX12_renew 42 = .ok (.iconst 0, 1) := by decide +kernel
theorem dX12_renew_43 : decode cX12_renew 43 = .ok (.iload_n 2, 1) := by decide +kernel
theorem dX12_renew_44 : decode cX12_renew 44 = .ok (.invokevirtual 98, 3) := by decide +kernel
theorem dX12_renew_47 : decode cX12_renew 47 = .ok (.aload_n 0, 1) := by decide +kernel
theorem dX12_renew_48 : decode cX12_renew 48 = .ok (.iload_n 1, 1) := by decide +kernel
theorem dX12_renew_49 : decode cX12_renew 49 = .ok (.iconst 2, 1) := by decide +kernel
theorem dX12_renew_50 : decode cX12_renew 50 = .ok (.iload_n 3, 1) := by decide +kernel
theorem dX12_renew_51 : decode cX12_renew 51 = .ok (.invokevirtual 98, 3) := by decide +kernel
theorem dX12_renew_54 : decode cX12_renew 54 = .ok (.aload_n 0, 1) := by decide +kernel
theorem dX12_renew_55 : decode cX12_renew 55 = .ok (.iload_n 1, 1) := by decide +kernel
theorem dX12_renew_56 : decode cX12_renew 56 = .ok (.iconst 4, 1) := by decide +kernel
theorem dX12_renew_57 : decode cX12_renew 57 = .ok (.aload_n 0, 1) := by decide +kernel
theorem dX12_renew_58 : decode cX12_renew 58 = .ok (.iload_n 1, 1) := by decide +kernel
theorem dX12_renew_59 : decode cX12_renew 59 = .ok (.iconst 4, 1) := by decide +kernel
theorem dX12_renew_60 : decode cX12_renew 60 = .ok (.invokevirtual 88, 3) := by decide +kernel
theorem dX12_renew_63 : decode cX12_renew 63 = .ok (.iload 5, 2) := by decide +kernel
theorem dX12_renew_65 : decode cX12_renew 65 = .ok (.iadd, 1) := by decide +kernel
theorem dX12_renew_66 : decode cX12_renew 66 = .ok (.invokevirtual 98, 3) := by decide +kernel
theorem dX12_renew_69 : decode cX12_renew 69 = .ok (.aload_n 0, 1) := by decide +kernel
theorem dX12_renew_70 : decode cX12_renew 70 = .ok (.getfield 9, 3) := by decide +kernel
theorem dX12_renew_73 : decode cX12_renew 73 = .ok (.bipush 9, 2) := by decide +kernel
theorem dX12_renew_75 : decode cX12_renew 75 = .ok (.dup2, 1) := by decide +kernel
theorem dX12_renew_76 : decode cX12_renew 76 = .ok (.iaload, 1) := by decide +kernel
theorem dX12_renew_77 : decode cX12_renew 77 = .ok (.iload 5, 2) := by decide +kernel
theorem dX12_renew_79 : decode cX12_renew 79 = .ok (.iadd, 1) := by decide +kernel
theorem dX12_renew_80 : decode cX12_renew 80 = .ok (.iastore, 1) := by decide +kernel
theorem dX12_renew_81 : decode cX12_renew 81 = .ok (.iload 5, 2) := by decide +kernel
theorem dX12_renew_83 : decode cX12_renew 83 = .ok (.ireturn, 1) := by decide +kernel
theorem dX12_isOver_0 : decode cX12_isOver 0 = .ok (.aload_n 0, 1) := by decide +kernel
theorem dX12_isOver_1 : decode cX12_isOver 1 = .ok (.iload_n 1, 1) := by decide +kernel
theorem dX12_isOver_2 : decode cX12_isOver 2 = .ok (.bipush 6, 2) := by decide +kernel
theorem dX12_isOver_4 : decode cX12_isOver 4 = .ok (.invokevirtual 88, 3) := by decide +kernel
theorem dX12_isOver_7 : decode cX12_isOver 7 = .ok (.iconst 1, 1) := by decide +kernel
theorem dX12_isOver_8 : decode cX12_isOver 8 = .ok (.if_icmp .eq 15, 3) := by decide +kernel
theorem dX12_isOver_11 : decode cX12_isOver 11 = .ok (.aload_n 0, 1) := by decide +kernel
theorem dX12_isOver_12 : decode cX12_isOver 12 = .ok (.iload_n 1, 1) := by decide +kernel
theorem dX12_isOver_13 : decode cX12_isOver 13 = .ok (.invokevirtual 114, 3) := by decide +kernel
theorem dX12_isOver_16 : decode cX12_isOver 16 = .ok (.aload_n 0, 1) := by decide +kernel
theorem dX12_isOver_17 : decode cX12_isOver 17 = .ok (.invokevirtual 81, 3) := by decide +kernel
theorem dX12_isOver_20 : decode cX12_isOver 20 = .ok (.if_icmp .ge 7, 3) := by decide +kernel
theorem dX12_isOver_23 : decode cX12_isOver 23 = .ok (.iconst 1, 1) := by decide +kernel
theorem dX12_isOver_24 : decode cX12_isOver 24 = .ok (.goto 4, 3) := by decide +kernel
theorem dX12_isOver_27 : decode cX12_isOver 27 = .ok (.iconst 0, 1) := by decide +kernel
theorem dX12_isOver_28 : decode cX12_isOver 28 = .ok (.ireturn, 1) := by decide +kernel
theorem dX12_passOne_0 : decode cX12_passOne 0 = .ok (.aload_n 0, 1) := by decide +kernel
theorem dX12_passOne_1 : decode cX12_passOne 1 = .ok (.getfield 9, 3) := by decide +kernel
theorem dX12_passOne_4 : decode cX12_passOne 4 = .ok (.iconst 4, 1) := by decide +kernel
theorem dX12_passOne_5 : decode cX12_passOne 5 = .ok (.dup2, 1) := by decide +kernel
theorem dX12_passOne_6 : decode cX12_passOne 6 = .ok (.iaload, 1) := by decide +kernel
theorem dX12_passOne_7 : decode cX12_passOne 7 = .ok (.iconst 1, 1) := by decide +kernel
theorem dX12_passOne_8 : decode cX12_passOne 8 = .ok (.iadd, 1) := by decide +kernel
theorem dX12_passOne_9 : decode cX12_passOne 9 = .ok (.iastore, 1) := by decide +kernel
theorem dX12_passOne_10 : decode cX12_passOne 10 = .ok (.iconst 0, 1) := by decide +kernel
theorem dX12_passOne_11 : decode cX12_passOne 11 = .ok (.istore_n 1, 1) := by decide +kernel
theorem dX12_passOne_12 : decode cX12_passOne 12 = .ok (.iload_n 1, 1) := by decide +kernel
theorem dX12_passOne_13 : decode cX12_passOne 13 = .ok (.aload_n 0, 1) := by decide +kernel
theorem dX12_passOne_14 : decode cX12_passOne 14 = .ok (.getfield 9, 3) := by decide +kernel
theorem dX12_passOne_17 : decode cX12_passOne 17 = .ok (.iconst 1, 1) := by decide +kernel
theorem dX12_passOne_18 : decode cX12_passOne 18 = .ok (.iaload, 1) := by decide +kernel
theorem dX12_passOne_19 : decode cX12_passOne 19 = .ok (.if_icmp .ge 68, 3) := by decide +kernel
theorem dX12_passOne_22 : decode cX12_passOne 22 = .ok (.aload_n 0, 1) := by decide +kernel
theorem dX12_passOne_23 : decode cX12_passOne 23 = .ok (.iload_n 1, 1) := by decide +kernel
theorem dX12_passOne_24 : decode cX12_passOne 24 = .ok (.iconst 5, 1) := by decide +kernel
theorem dX12_passOne_25 : decode cX12_passOne 25 = .ok (.iconst 0, 1) := by decide +kernel
theorem dX12_passOne_26 : decode cX12_passOne 26 = .ok (.invokevirtual 94, 3) := by decide +kernel
theorem dX12_passOne_29 : decode cX12_passOne 29 = .ok (.aload_n 0, 1) := by decide +kernel
theorem dX12_passOne_30 : decode cX12_passOne 30 = .ok (.getfield 9, 3) := by decide +kernel
theorem dX12_passOne_33 : decode cX12_passOne 33 = .ok (.iconst 4, 1) := by decide +kernel
theorem dX12_passOne_34 : decode cX12_passOne 34 = .ok (.iaload, 1) := by decide +kernel
theorem dX12_passOne_35 : decode cX12_passOne 35 = .ok (.bipush 96, 2) := by decide +kernel
theorem dX12_passOne_37 : decode cX12_passOne 37 = .ok (.irem, 1) := by decide +kernel
theorem dX12_passOne_38 : decode cX12_passOne 38 = .ok (.ifCond .ne 43, 3) := by decide +kernel
theorem dX12_passOne_41 : decode cX12_passOne 41 = .ok (.aload_n 0, 1) := by decide +kernel
theorem dX12_passOne_42 : decode cX12_passOne 42 = .ok (.iload_n 1, 1) := by decide +kernel
theorem dX12_passOne_43 : decode cX12_passOne 43 = .ok (.invokevirtual 91, 3) := by decide +kernel
theorem dX12_passOne_46 : decode cX12_passOne 46 = .ok (.ifCond .eq 35, 3) := by decide +kernel
theorem dX12_passOne_49 : decode cX12_passOne 49 = .ok (.aload_n 0, 1) := by decide +kernel
theorem dX12_passOne_50 : decode cX12_passOne 50 = .ok (.iload_n 1, 1) := by decide +kernel
theorem dX12_passOne_51 : decode cX12_passOne 51 = .ok (.iconst 4, 1) := by decide +kernel
theorem dX12_passOne_52 : decode cX12_passOne 52 = .ok (.aload_n 0, 1) := by decide +kernel
theorem dX12_passOne_53 : decode cX12_passOne 53 = .ok (.iload_n 1, 1) := by decide +kernel
theorem dX12_passOne_54 : decode cX12_passOne 54 = .ok (.iconst 4, 1) := by decide +kernel
theorem dX12_passOne_55 : decode cX12_passOne 55 = .ok (.invokevirtual 85, 3) := by decide +kernel
theorem dX12_passOne_58 : decode cX12_passOne 58 = .ok (.iconst 3, 1) := by decide +kernel
theorem dX12_passOne_59 : decode cX12_passOne 59 = .ok (.iadd, 1) := by decide +kernel
theorem dX12_passOne_60 : decode cX12_passOne 60 = .ok (.bipush 50, 2) := by decide +kernel
theorem dX12_passOne_62 : decode cX12_passOne 62 = .ok (.if_icmp .ge 14, 3) := by decide +kernel
theorem dX12_passOne_65 : decode cX12_passOne 65 = .ok (.aload_n 0, 1) := by decide +kernel
theorem dX12_passOne_66 : decode cX12_passOne 66 = .ok (.iload_n 1, 1) := by decide +kernel
theorem dX12_passOne_67 : decode cX12_passOne 67 = .ok (.iconst 4, 1) := by decide +kernel
theorem dX12_passOne_68 : decode cX12_passOne 68 = .ok (.invokevirtual 85, 3) := by decide +kernel
theorem dX12_passOne_71 : decode cX12_passOne 71 = .ok (.iconst 3, 1) := by decide +kernel
theorem dX12_passOne_72 : decode cX12_passOne 72 = .ok (.iadd, 1) := by decide +kernel
theorem dX12_passOne_73 : decode cX12_passOne 73 = .ok (.goto 5, 3) := by decide +kernel
theorem dX12_passOne_76 : decode cX12_passOne 76 = .ok (.bipush 50, 2) := by decide +kernel
theorem dX12_passOne_78 : decode cX12_passOne 78 = .ok (.invokevirtual 94, 3) := by decide +kernel
theorem dX12_passOne_81 : decode cX12_passOne 81 = .ok (.iinc 1 1, 3) := by decide +kernel
theorem dX12_passOne_84 : decode cX12_passOne 84 = .ok (.goto (-72), 3) := by decide +kernel
theorem dX12_passOne_87 : decode cX12_passOne 87 = .ok (.return_, 1) := by decide +kernel
theorem dX12_passAll_0 : decode cX12_passAll 0 = .ok (.iconst 0, 1) := by decide +kernel
theorem dX12_passAll_1 : decode cX12_passAll 1 = .ok (.istore_n 2, 1) := by decide +kernel
theorem dX12_passAll_2 : decode cX12_passAll 2 = .ok (.iload_n 2, 1) := by decide +kernel
theorem dX12_passAll_3 : decode cX12_passAll 3 = .ok (.iload_n 1, 1) := by decide +kernel
theorem dX12_passAll_4 : decode cX12_passAll 4 = .ok (.if_icmp .ge 13, 3) := by decide +kernel
theorem dX12_passAll_7 : decode cX12_passAll 7 = .ok (.aload_n 0, 1) := by decide +kernel
theorem dX12_passAll_8 : decode cX12_passAll 8 = .ok (.invokevirtual 129, 3) := by decide +kernel
theorem dX12_passAll_11 : decode cX12_passAll 11 = .ok (.iinc 2 1, 3) := by decide +kernel
theorem dX12_passAll_14 : decode cX12_passAll 14 = .ok (.goto (-12), 3) := by decide +kernel
theorem dX12_passAll_17 : decode cX12_passAll 17 = .ok (.return_, 1) := by decide +kernel
theorem dX12_change_0 : decode cX12_change 0 = .ok (.aload_n 0, 1) := by decide +kernel
theorem dX12_change_1 : decode cX12_change 1 = .ok (.aload_n 0, 1) := by decide +kernel
theorem dX12_change_2 : decode cX12_change 2 = .ok (.getfield 9, 3) := by decide +kernel
theorem dX12_change_5 : decode cX12_change 5 = .ok (.invokevirtual 132, 3) := by decide +kernel
theorem dX12_change_8 : decode cX12_change 8 = .ok (.aload_n 0, 1) := by decide +kernel
theorem dX12_change_9 : decode cX12_change 9 = .ok (.getfield 9, 3) := by decide +kernel
theorem dX12_change_12 : decode cX12_change 12 = .ok (.iload_n 1, 1) := by decide +kernel
theorem dX12_change_13 : decode cX12_change 13 = .ok (.iaload, 1) := by decide +kernel
theorem dX12_change_14 : decode cX12_change 14 = .ok (.istore_n 3, 1) := by decide +kernel
theorem dX12_change_15 : decode cX12_change 15 = .ok (.aload_n 0, 1) := by decide +kernel
theorem dX12_change_16 : decode cX12_change 16 = .ok (.getfield 9, 3) := by decide +kernel
theorem dX12_change_19 : decode cX12_change 19 = .ok (.iload_n 1, 1) := by decide +kernel
theorem dX12_change_20 : decode cX12_change 20 = .ok (.iload_n 2, 1) := by decide +kernel
theorem dX12_change_21 : decode cX12_change 21 = .ok (.iastore, 1) := by decide +kernel
theorem dX12_change_22 : decode cX12_change 22 = .ok (.iload_n 3, 1) := by decide +kernel
theorem dX12_change_23 : decode cX12_change 23 = .ok (.ireturn, 1) := by decide +kernel
theorem dX12_setPrice_0 : decode cX12_setPrice 0 = .ok (.aload_n 0, 1) := by decide +kernel
theorem dX12_setPrice_1 : decode cX12_setPrice 1 = .ok (.iconst 0, 1) := by decide +kernel
theorem dX12_setPrice_2 : decode cX12_setPrice 2 = .ok (.putfield 63, 3) := by decide +kernel
theorem dX12_setPrice_5 : decode cX12_setPrice 5 = .ok (.aload_n 0, 1) := by decide +kernel
theorem dX12_setPrice_6 : decode cX12_setPrice 6 = .ok (.iload_n 1, 1) := by decide +kernel
theorem dX12_setPrice_7 : decode cX12_setPrice 7 = .ok (.invokevirtual 136, 3) := by decide +kernel
theorem dX12_setPrice_10 : decode cX12_setPrice 10 = .ok (.ifCond .ne 15, 3) := by decide +kernel
theorem dX12_setPrice_13 : decode cX12_setPrice 13 = .ok (.aload_n 0, 1) := by decide +kernel
theorem dX12_setPrice_14 : decode cX12_setPrice 14 = .ok (.iload_n 2, 1) := by decide +kernel
theorem dX12_setPrice_15 : decode cX12_setPrice 15 = .ok (.iconst 1, 1) := by decide +kernel
theorem dX12_setPrice_16 : decode cX12_setPrice 16 = .ok (.bipush 99, 2) := by decide +kernel
theorem dX12_setPrice_18 : decode cX12_setPrice 18 = .ok (.iconst 2, 1) := by decide +kernel
theorem dX12_setPrice_19 : decode cX12_setPrice 19 = .ok (.invokevirtual 73, 3) := by decide +kernel
theorem dX12_setPrice_22 : decode cX12_setPrice 22 = .ok (.ifCond .eq 7, 3) := by decide +kernel
theorem dX12_setPrice_25 : decode cX12_setPrice 25 = .ok (.iconst 0, 1) := by decide +kernel
theorem dX12_setPrice_26 : decode cX12_setPrice 26 = .ok (.goto 12, 3) := by decide +kernel
theorem dX12_setPrice_29 : decode cX12_setPrice 29 = .ok (.aload_n 0, 1) := by decide +kernel
theorem dX12_setPrice_30 : decode cX12_setPrice 30 = .ok (.bipush 15, 2) := by decide +kernel
theorem dX12_setPrice_32 : decode cX12_setPrice 32 = .ok (.iload_n 1, 1) := by decide +kernel
theorem dX12_setPrice_33 : decode cX12_setPrice 33 = .ok (.iadd, 1) := by decide +kernel
theorem dX12_setPrice_34 : decode cX12_setPrice 34 = .ok (.iload_n 2, 1) := by decide +kernel
theorem dX12_setPrice_35 : decode cX12_setPrice 35 = .ok (.invokevirtual 139, 3) := by decide +kernel
theorem dX12_setPrice_38 : decode cX12_setPrice 38 = .ok (.ireturn, 1) := by decide +kernel
theorem dX12_setRate_0 : decode cX12_setRate 0 = .ok (.aload_n 0, 1) := by decide +kernel
theorem dX12_setRate_1 : decode cX12_setRate 1 = .ok (.iconst 0, 1) := by decide +kernel
theorem dX12_setRate_2 : decode cX12_setRate 2 = .ok (.putfield 63, 3) := by decide +kernel
theorem dX12_setRate_5 : decode cX12_setRate 5 = .ok (.aload_n 0, 1) := by decide +kernel
theorem dX12_setRate_6 : decode cX12_setRate 6 = .ok (.iload_n 1, 1) := by decide +kernel
theorem dX12_setRate_7 : decode cX12_setRate 7 = .ok (.iconst 1, 1) := by decide +kernel
theorem dX12_setRate_8 : decode cX12_setRate 8 = .ok (.bipush 20, 2) := by decide +kernel
theorem dX12_setRate_10 : decode cX12_setRate 10 = .ok (.iconst 1, 1) := by decide +kernel
theorem dX12_setRate_11 : decode cX12_setRate 11 = .ok (.invokevirtual 73, 3) := by decide +kernel
theorem dX12_setRate_14 : decode cX12_setRate 14 = .ok (.ifCond .eq 7, 3) := by decide +kernel
theorem dX12_setRate_17 : decode cX12_setRate 17 = .ok (.iconst 0, 1) := by decide +kernel
theorem dX12_setRate_18 : decode cX12_setRate 18 = .ok (.goto 9, 3) := by decide +kernel
theorem dX12_setRate_21 : decode cX12_setRate 21 = .ok (.aload_n 0, 1) := by decide +kernel
theorem dX12_setRate_22 : decode cX12_setRate 22 = .ok (.iconst 5, 1) := by decide +kernel
theorem dX12_setRate_23 : decode cX12_setRate 23 = .ok (.iload_n 1, 1) := by decide +kernel
theorem dX12_setRate_24 : decode cX12_setRate 24 = .ok (.invokevirtual 139, 3) := by decide +kernel
theorem dX12_setRate_27 : decode cX12_setRate 27 = .ok (.ireturn, 1) := by decide +kernel
theorem dX12_badBed_0 : decode cX12_badBed 0 = .ok (.aload_n 0, 1) := by decide +kernel
theorem dX12_badBed_1 : decode cX12_badBed 1 = .ok (.iload_n 1, 1) := by decide +kernel
theorem dX12_badBed_2 : decode cX12_badBed 2 = .ok (.iconst 1, 1) := by decide +kernel
theorem dX12_badBed_3 : decode cX12_badBed 3 = .ok (.bipush 20, 2) := by decide +kernel
theorem dX12_badBed_5 : decode cX12_badBed 5 = .ok (.iconst 2, 1) := by decide +kernel
theorem dX12_badBed_6 : decode cX12_badBed 6 = .ok (.invokevirtual 73, 3) := by decide +kernel
theorem dX12_badBed_9 : decode cX12_badBed 9 = .ok (.ifCond .ne 27, 3) := by decide +kernel
theorem dX12_badBed_12 : decode cX12_badBed 12 = .ok (.aload_n 0, 1) := by decide +kernel
theorem dX12_badBed_13 : decode cX12_badBed 13 = .ok (.iload_n 2, 1) := by decide +kernel
theorem dX12_badBed_14 : decode cX12_badBed 14 = .ok (.iconst 0, 1) := by decide +kernel
theorem dX12_badBed_15 : decode cX12_badBed 15 = .ok (.bipush 99, 2) := by decide +kernel
theorem dX12_badBed_17 : decode cX12_badBed 17 = .ok (.iconst 2, 1) := by decide +kernel
theorem dX12_badBed_18 : decode cX12_badBed 18 = .ok (.invokevirtual 73, 3) := by decide +kernel
theorem dX12_badBed_21 : decode cX12_badBed 21 = .ok (.ifCond .ne 15, 3) := by decide +kernel
theorem dX12_badBed_24 : decode cX12_badBed 24 = .ok (.aload_n 0, 1) := by decide +kernel
theorem dX12_badBed_25 : decode cX12_badBed 25 = .ok (.iload_n 3, 1) := by decide +kernel
theorem dX12_badBed_26 : decode cX12_badBed 26 = .ok (.iload_n 2, 1) := by decide +kernel
theorem dX12_badBed_27 : decode cX12_badBed 27 = .ok (.bipush 99, 2) := by decide +kernel
theorem dX12_badBed_29 : decode cX12_badBed 29 = .ok (.iconst 2, 1) := by decide +kernel
theorem dX12_badBed_30 : decode cX12_badBed 30 = .ok (.invokevirtual 73, 3) := by decide +kernel
theorem dX12_badBed_33 : decode cX12_badBed 33 = .ok (.ifCond .eq 7, 3) := by decide +kernel
theorem dX12_badBed_36 : decode cX12_badBed 36 = .ok (.iconst 1, 1) := by decide +kernel
theorem dX12_badBed_37 : decode cX12_badBed 37 = .ok (.goto 4, 3) := by decide +kernel
theorem dX12_badBed_40 : decode cX12_badBed 40 = .ok (.iconst 0, 1) := by decide +kernel
theorem dX12_badBed_41 : decode cX12_badBed 41 = .ok (.ireturn, 1) := by decide +kernel
theorem dX12_layBed_0 : decode cX12_layBed 0 = .ok (.aload_n 0, 1) := by decide +kernel
theorem dX12_layBed_1 : decode cX12_layBed 1 = .ok (.iconst 0, 1) := by decide +kernel
theorem dX12_layBed_2 : decode cX12_layBed 2 = .ok (.putfield 63, 3) := by decide +kernel
theorem dX12_layBed_5 : decode cX12_layBed 5 = .ok (.aload_n 0, 1) := by decide +kernel
theorem dX12_layBed_6 : decode cX12_layBed 6 = .ok (.iload_n 1, 1) := by decide +kernel
theorem dX12_layBed_7 : decode cX12_layBed 7 = .ok (.invokevirtual 136, 3) := by decide +kernel
theorem dX12_layBed_10 : decode cX12_layBed 10 = .ok (.ifCond .ne 38, 3) := by decide +kernel
theorem dX12_layBed_13 : decode cX12_layBed 13 = .ok (.aload_n 0, 1) := by decide +kernel
theorem dX12_layBed_14 : decode cX12_layBed 14 = .ok (.iload_n 2, 1) := by decide +kernel
theorem dX12_layBed_15 : decode cX12_layBed 15 = .ok (.iload_n 3, 1) := by decide +kernel
theorem dX12_layBed_16 : decode cX12_layBed 16 = .ok (.iload 4, 2) := by decide +kernel
theorem dX12_layBed_18 : decode cX12_layBed 18 = .ok (.invokevirtual 142, 3) := by decide +kernel
theorem dX12_layBed_21 : decode cX12_layBed 21 = .ok (.ifCond .ne 27, 3) := by decide +kernel
theorem dX12_layBed_24 : decode cX12_layBed 24 = .ok (.aload_n 0, 1) := by decide +kernel
theorem dX12_layBed_25 : decode cX12_layBed 25 = .ok (.aload_n 0, 1) := by decide +kernel
theorem dX12_layBed_26 : decode cX12_layBed 26 = .ok (.getfield 9, 3) := by decide +kernel
theorem dX12_layBed_29 : decode cX12_layBed 29 = .ok (.iconst 1, 1) := by decide +kernel
theorem dX12_layBed_30 : decode cX12_layBed 30 = .ok (.iaload, 1) := by decide +kernel
theorem dX12_layBed_31 : decode cX12_layBed 31 = .ok (.bipush 8, 2) := by decide +kernel
theorem dX12_layBed_33 : decode cX12_layBed 33 = .ok (.if_icmp .ne 7, 3) := by decide +kernel
theorem dX12_layBed_36 : decode cX12_layBed 36 = .ok (.iconst 1, 1) := by decide +kernel
theorem dX12_layBed_37 : decode cX12_layBed 37 = .ok (.goto 4, 3) := by decide +kernel
theorem dX12_layBed_40 : decode cX12_layBed 40 = .ok (.iconst 0, 1) := by decide +kernel
theorem dX12_layBed_41 : decode cX12_layBed 41 = .ok (.iconst 3, 1) := by decide +kernel
theorem dX12_layBed_42 : decode cX12_layBed 42 = .ok (.invokevirtual 146, 3) := by decide +kernel
theorem dX12_layBed_45 : decode cX12_layBed 45 = .ok (.ifCond .eq 5, 3) := by decide +kernel
theorem dX12_layBed_48 : decode cX12_layBed 48 = .ok (.iconst 0, 1) := by decide +kernel
theorem dX12_layBed_49 : decode cX12_layBed 49 = .ok (.ireturn, 1) := by decide +kernel
theorem dX12_layBed_50 : decode cX12_layBed 50 = .ok (.aload_n 0, 1) := by decide +kernel
theorem dX12_layBed_51 : decode cX12_layBed 51 = .ok (.aload_n 0, 1) := by decide +kernel
theorem dX12_layBed_52 : decode cX12_layBed 52 = .ok (.getfield 9, 3) := by decide +kernel
theorem dX12_layBed_55 : decode cX12_layBed 55 = .ok (.invokevirtual 132, 3) := by decide +kernel
theorem dX12_layBed_58 : decode cX12_layBed 58 = .ok (.aload_n 0, 1) := by decide +kernel
theorem dX12_layBed_59 : decode cX12_layBed 59 = .ok (.iload_n 1, 1) := by decide +kernel
theorem dX12_layBed_60 : decode cX12_layBed 60 = .ok (.iload_n 2, 1) := by decide +kernel
theorem dX12_layBed_61 : decode cX12_layBed 61 = .ok (.iload_n 3, 1) := by decide +kernel
theorem dX12_layBed_62 : decode cX12_layBed 62 = .ok (.iload 4, 2) := by decide +kernel
theorem dX12_layBed_64 : decode cX12_layBed 64 = .ok (.invokevirtual 42, 3) := by decide +kernel
theorem dX12_layBed_67 : decode cX12_layBed 67 = .ok (.ireturn, 1) := by decide +kernel
theorem dX12_setPeacocks_0 : decode cX12_setPeacocks 0 = .ok (.aload_n 0, 1) := by decide +kernel
theorem dX12_setPeacocks_1 : decode cX12_setPeacocks 1 = .ok (.iconst 0, 1) := by decide +kernel
theorem dX12_setPeacocks_2 : decode cX12_setPeacocks 2 = .ok (.putfield 63, 3) := by decide +kernel
theorem dX12_setPeacocks_5 : decode cX12_setPeacocks 5 = .ok (.aload_n 0, 1) := by decide +kernel
theorem dX12_setPeacocks_6 : decode cX12_setPeacocks 6 = .ok (.iload_n 1, 1) := by decide +kernel
theorem dX12_setPeacocks_7 : decode cX12_setPeacocks 7 = .ok (.iconst 0, 1) := by decide +kernel
theorem dX12_setPeacocks_8 : decode cX12_setPeacocks 8 = .ok (.bipush 95, 2) := by decide +kernel
theorem dX12_setPeacocks_10 : decode cX12_setPeacocks 10 = .ok (.iconst 1, 1) := by decide +kernel
theorem dX12_setPeacocks_11 : decode cX12_setPeacocks 11 = .ok (.invokevirtual 73, 3) := by decide +kernel
theorem dX12_setPeacocks_14 : decode cX12_setPeacocks 14 = .ok (.ifCond .ne 15, 3) := by decide +kernel
theorem dX12_setPeacocks_17 : decode cX12_setPeacocks 17 = .ok (.aload_n 0, 1) := by decide +kernel
theorem dX12_setPeacocks_18 : decode cX12_setPeacocks 18 = .ok (.iload_n 2, 1) := by decide +kernel
theorem dX12_setPeacocks_19 : decode cX12_setPeacocks 19 = .ok (.iload_n 1, 1) := by decide +kernel
theorem dX12_setPeacocks_20 : decode cX12_setPeacocks 20 = .ok (.bipush 95, 2) := by decide +kernel
theorem dX12_setPeacocks_22 : decode cX12_setPeacocks 22 = .ok (.iconst 1, 1) := by decide +kernel
theorem dX12_setPeacocks_23 : decode cX12_setPeacocks 23 = .ok (.invokevirtual 73, 3) := by decide +kernel
theorem dX12_setPeacocks_26 : decode cX12_setPeacocks 26 = .ok (.ifCond .eq 5, 3) := by decide +kernel
theorem dX12_setPeacocks_29 : decode cX12_setPeacocks 29 = .ok (.iconst 0, 1) := by decide +kernel
theorem dX12_setPeacocks_30 : decode cX12_setPeacocks 30 = .ok (.ireturn, 1) := by decide +kernel
theorem dX12_setPeacocks_31 : decode cX12_setPeacocks 31 = .ok (.aload_n 0, 1) := by decide +kernel
theorem dX12_setPeacocks_32 : decode cX12_setPeacocks 32 = .ok (.aload_n 0, 1) := by decide +kernel
theorem dX12_setPeacocks_33 : decode cX12_setPeacocks 33 = .ok (.getfield 9, 3) := by decide +kernel
theorem dX12_setPeacocks_36 : decode cX12_setPeacocks 36 = .ok (.invokevirtual 132, 3) := by decide +kernel
theorem dX12_setPeacocks_39 : decode cX12_setPeacocks 39 = .ok (.aload_n 0, 1) := by decide +kernel
theorem dX12_setPeacocks_40 : decode cX12_setPeacocks 40 = .ok (.getfield 9, 3) := by decide +kernel
theorem dX12_setPeacocks_43 : decode cX12_setPeacocks 43 = .ok (.bipush 7, 2) := by decide +kernel
theorem dX12_setPeacocks_45 : decode cX12_setPeacocks 45 = .ok (.iload_n 1, 1) := by decide +kernel
theorem dX12_setPeacocks_46 : decode cX12_setPeacocks 46 = .ok (.iastore, 1) := by decide +kernel
theorem dX12_setPeacocks_47 : decode cX12_setPeacocks 47 = .ok (.aload_n 0, 1) := by decide +kernel
theorem dX12_setPeacocks_48 : decode cX12_setPeacocks 48 = .ok (.getfield 9, 3) := by decide +kernel
theorem dX12_setPeacocks_51 : decode cX12_setPeacocks 51 = .ok (.bipush 8, 2) := by decide +kernel
theorem dX12_setPeacocks_53 : decode cX12_setPeacocks 53 = .ok (.iload_n 2, 1) := by decide +kernel
theorem dX12_setPeacocks_54 : decode cX12_setPeacocks 54 = .ok (.iastore, 1) := by decide +kernel
theorem dX12_setPeacocks_55 : decode cX12_setPeacocks 55 = .ok (.aload_n 0, 1) := by decide +kernel
theorem dX12_setPeacocks_56 : decode cX12_setPeacocks 56 = .ok (.invokevirtual 150, 3) := by decide +kernel
theorem dX12_setPeacocks_59 : decode cX12_setPeacocks 59 = .ok (.ireturn, 1) := by decide +kernel
theorem dX12_setPause_0 : decode cX12_setPause 0 = .ok (.aload_n 0, 1) := by decide +kernel
theorem dX12_setPause_1 : decode cX12_setPause 1 = .ok (.iconst 0, 1) := by decide +kernel
theorem dX12_setPause_2 : decode cX12_setPause 2 = .ok (.putfield 63, 3) := by decide +kernel
theorem dX12_setPause_5 : decode cX12_setPause 5 = .ok (.aload_n 0, 1) := by decide +kernel
theorem dX12_setPause_6 : decode cX12_setPause 6 = .ok (.iload_n 1, 1) := by decide +kernel
theorem dX12_setPause_7 : decode cX12_setPause 7 = .ok (.iconst 0, 1) := by decide +kernel
theorem dX12_setPause_8 : decode cX12_setPause 8 = .ok (.bipush 8, 2) := by decide +kernel
theorem dX12_setPause_10 : decode cX12_setPause 10 = .ok (.iconst 1, 1) := by decide +kernel
theorem dX12_setPause_11 : decode cX12_setPause 11 = .ok (.invokevirtual 73, 3) := by decide +kernel
theorem dX12_setPause_14 : decode cX12_setPause 14 = .ok (.ifCond .eq 7, 3) := by decide +kernel
theorem dX12_setPause_17 : decode cX12_setPause 17 = .ok (.iconst 0, 1) := by decide +kernel
theorem dX12_setPause_18 : decode cX12_setPause 18 = .ok (.goto 10, 3) := by decide +kernel
theorem dX12_setPause_21 : decode cX12_setPause 21 = .ok (.aload_n 0, 1) := by decide +kernel
theorem dX12_setPause_22 : decode cX12_setPause 22 = .ok (.bipush 6, 2) := by decide +kernel
theorem dX12_setPause_24 : decode cX12_setPause 24 = .ok (.iload_n 1, 1) := by decide +kernel
theorem dX12_setPause_25 : decode cX12_setPause 25 = .ok (.invokevirtual 139, 3) := by decide +kernel
theorem dX12_setPause_28 : decode cX12_setPause 28 = .ok (.ireturn, 1) := by decide +kernel
theorem dX12_allScents_0 : decode cX12_allScents 0 = .ok (.iconst 1, 1) := by decide +kernel
theorem dX12_allScents_1 : decode cX12_allScents 1 = .ok (.aload_n 0, 1) := by decide +kernel
theorem dX12_allScents_2 : decode cX12_allScents 2 = .ok (.getfield 9, 3) := by decide +kernel
theorem dX12_allScents_5 : decode cX12_allScents 5 = .ok (.iconst 0, 1) := by decide +kernel
theorem dX12_allScents_6 : decode cX12_allScents 6 = .ok (.iaload, 1) := by decide +kernel
theorem dX12_allScents_7 : decode cX12_allScents 7 = .ok (.ishl, 1) := by decide +kernel
theorem dX12_allScents_8 : decode cX12_allScents 8 = .ok (.iconst 1, 1) := by decide +kernel
theorem dX12_allScents_9 : decode cX12_allScents 9 = .ok (.isub, 1) := by decide +kernel
theorem dX12_allScents_10 : decode cX12_allScents 10 = .ok (.ireturn, 1) := by decide +kernel
theorem dX12_badPass_0 : decode cX12_badPass 0 = .ok (.aload_n 0, 1) := by decide +kernel
theorem dX12_badPass_1 : decode cX12_badPass 1 = .ok (.iload_n 1, 1) := by decide +kernel
theorem dX12_badPass_2 : decode cX12_badPass 2 = .ok (.iconst 1, 1) := by decide +kernel
theorem dX12_badPass_3 : decode cX12_badPass 3 = .ok (.aload_n 0, 1) := by decide +kernel
theorem dX12_badPass_4 : decode cX12_badPass 4 = .ok (.invokevirtual 153, 3) := by decide +kernel
theorem dX12_badPass_7 : decode cX12_badPass 7 = .ok (.iconst 1, 1) := by decide +kernel
theorem dX12_badPass_8 : decode cX12_badPass 8 = .ok (.invokevirtual 73, 3) := by decide +kernel
theorem dX12_badPass_11 : decode cX12_badPass 11 = .ok (.ifCond .ne 26, 3) := by decide +kernel
theorem dX12_badPass_14 : decode cX12_badPass 14 = .ok (.aload_n 0, 1) := by decide +kernel
theorem dX12_badPass_15 : decode cX12_badPass 15 = .ok (.iload_n 2, 1) := by decide +kernel
theorem dX12_badPass_16 : decode cX12_badPass 16 = .ok (.iconst 1, 1) := by decide +kernel
theorem dX12_badPass_17 : decode cX12_badPass 17 = .ok (.bipush 14, 2) := by decide +kernel
theorem dX12_badPass_19 : decode cX12_badPass 19 = .ok (.iconst 1, 1) := by decide +kernel
theorem dX12_badPass_20 : decode cX12_badPass 20 = .ok (.invokevirtual 73, 3) := by decide +kernel
theorem dX12_badPass_23 : decode cX12_badPass 23 = .ok (.ifCond .ne 14, 3) := by decide +kernel
theorem dX12_badPass_26 : decode cX12_badPass 26 = .ok (.aload_n 0, 1) := by decide +kernel
theorem dX12_badPass_27 : decode cX12_badPass 27 = .ok (.iload_n 3, 1) := by decide +kernel
theorem dX12_badPass_28 : decode cX12_badPass 28 = .ok (.iconst 0, 1) := by decide +kernel
theorem dX12_badPass_29 : decode cX12_badPass 29 = .ok (.iconst 1, 1) := by decide +kernel
theorem dX12_badPass_30 : decode cX12_badPass 30 = .ok (.iconst 1, 1) := by decide +kernel
theorem dX12_badPass_31 : decode cX12_badPass 31 = .ok (.invokevirtual 73, 3) := by decide +kernel
theorem dX12_badPass_34 : decode cX12_badPass 34 = .ok (.ifCond .eq 7, 3) := by decide +kernel
theorem dX12_badPass_37 : decode cX12_badPass 37 = .ok (.iconst 1, 1) := by decide +kernel
theorem dX12_badPass_38 : decode cX12_badPass 38 = .ok (.goto 4, 3) := by decide +kernel
theorem dX12_badPass_41 : decode cX12_badPass 41 = .ok (.iconst 0, 1) := by decide +kernel
theorem dX12_badPass_42 : decode cX12_badPass 42 = .ok (.ireturn, 1) := by decide +kernel
theorem dX12_sell_0 : decode cX12_sell 0 = .ok (.aload_n 0, 1) := by decide +kernel
theorem dX12_sell_1 : decode cX12_sell 1 = .ok (.iconst 0, 1) := by decide +kernel
theorem dX12_sell_2 : decode cX12_sell 2 = .ok (.putfield 63, 3) := by decide +kernel
theorem dX12_sell_5 : decode cX12_sell 5 = .ok (.aload_n 0, 1) := by decide +kernel
theorem dX12_sell_6 : decode cX12_sell 6 = .ok (.iload_n 1, 1) := by decide +kernel
theorem dX12_sell_7 : decode cX12_sell 7 = .ok (.iload_n 3, 1) := by decide +kernel
theorem dX12_sell_8 : decode cX12_sell 8 = .ok (.iload 4, 2) := by decide +kernel
theorem dX12_sell_10 : decode cX12_sell 10 = .ok (.invokevirtual 156, 3) := by decide +kernel
theorem dX12_sell_13 : decode cX12_sell 13 = .ok (.ifCond .ne 30, 3) := by decide +kernel
theorem dX12_sell_16 : decode cX12_sell 16 = .ok (.aload_n 0, 1) := by decide +kernel
theorem dX12_sell_17 : decode cX12_sell 17 = .ok (.iload_n 2, 1) := by decide +kernel
theorem dX12_sell_18 : decode cX12_sell 18 = .ok (.aload_n 0, 1) := by decide +kernel
theorem dX12_sell_19 : decode cX12_sell 19 = .ok (.invokevirtual 81, 3) := by decide +kernel
theorem dX12_sell_22 : decode cX12_sell 22 = .ok (.bipush 99, 2) := by decide +kernel
theorem dX12_sell_24 : decode cX12_sell 24 = .ok (.iconst 1, 1) := by decide +kernel
theorem dX12_sell_25 : decode cX12_sell 25 = .ok (.invokevirtual 73, 3) := by decide +kernel
theorem dX12_sell_28 : decode cX12_sell 28 = .ok (.ifCond .ne 15, 3) := by decide +kernel
theorem dX12_sell_31 : decode cX12_sell 31 = .ok (.aload_n 0, 1) := by decide +kernel
theorem dX12_sell_32 : decode cX12_sell 32 = .ok (.aload_n 0, 1) := by decide +kernel
theorem dX12_sell_33 : decode cX12_sell 33 = .ok (.invokevirtual 159, 3) := by decide +kernel
theorem dX12_sell_36 : decode cX12_sell 36 = .ok (.iconst 2, 1) := by decide +kernel
theorem dX12_sell_37 : decode cX12_sell 37 = .ok (.invokevirtual 146, 3) := by decide +kernel
theorem dX12_sell_40 : decode cX12_sell 40 = .ok (.ifCond .eq 5, 3) := by decide +kernel
theorem dX12_sell_43 : decode cX12_sell 43 = .ok (.iconst 0, 1) := by decide +kernel
theorem dX12_sell_44 : decode cX12_sell 44 = .ok (.ireturn, 1) := by decide +kernel
theorem dX12_sell_45 : decode cX12_sell 45 = .ok (.aload_n 0, 1) := by decide +kernel
theorem dX12_sell_46 : decode cX12_sell 46 = .ok (.aload_n 0, 1) := by decide +kernel
theorem dX12_sell_47 : decode cX12_sell 47 = .ok (.getfield 9, 3) := by decide +kernel
theorem dX12_sell_50 : decode cX12_sell 50 = .ok (.invokevirtual 132, 3) := by decide +kernel
theorem dX12_sell_53 : decode cX12_sell 53 = .ok (.aload_n 0, 1) := by decide +kernel
theorem dX12_sell_54 : decode cX12_sell 54 = .ok (.iload_n 1, 1) := by decide +kernel
theorem dX12_sell_55 : decode cX12_sell 55 = .ok (.iload_n 2, 1) := by decide +kernel
theorem dX12_sell_56 : decode cX12_sell 56 = .ok (.iload_n 3, 1) := by decide +kernel
theorem dX12_sell_57 : decode cX12_sell 57 = .ok (.iload 4, 2) := by decide +kernel
theorem dX12_sell_59 : decode cX12_sell 59 = .ok (.invokevirtual 46, 3) := by decide +kernel
theorem dX12_sell_62 : decode cX12_sell 62 = .ok (.ireturn, 1) := by decide +kernel
theorem dX12_extend_0 : decode cX12_extend 0 = .ok (.aload_n 0, 1) := by decide +kernel
theorem dX12_extend_1 : decode cX12_extend 1 = .ok (.iconst 0, 1) := by decide +kernel
theorem dX12_extend_2 : decode cX12_extend 2 = .ok (.putfield 63, 3) := by decide +kernel
theorem dX12_extend_5 : decode cX12_extend 5 = .ok (.aload_n 0, 1) := by decide +kernel
theorem dX12_extend_6 : decode cX12_extend 6 = .ok (.iload_n 1, 1) := by decide +kernel
theorem dX12_extend_7 : decode cX12_extend 7 = .ok (.invokevirtual 163, 3) := by decide +kernel
theorem dX12_extend_10 : decode cX12_extend 10 = .ok (.ifCond .ne 49, 3) := by decide +kernel
theorem dX12_extend_13 : decode cX12_extend 13 = .ok (.aload_n 0, 1) := by decide +kernel
theorem dX12_extend_14 : decode cX12_extend 14 = .ok (.iload_n 2, 1) := by decide +kernel
theorem dX12_extend_15 : decode cX12_extend 15 = .ok (.iconst 1, 1) := by decide +kernel
theorem dX12_extend_16 : decode cX12_extend 16 = .ok (.bipush 13, 2) := by decide +kernel
theorem dX12_extend_18 : decode cX12_extend 18 = .ok (.iconst 2, 1) := by decide +kernel
theorem dX12_extend_19 : decode cX12_extend 19 = .ok (.invokevirtual 73, 3) := by decide +kernel
theorem dX12_extend_22 : decode cX12_extend 22 = .ok (.ifCond .ne 37, 3) := by decide +kernel
theorem dX12_extend_25 : decode cX12_extend 25 = .ok (.aload_n 0, 1) := by decide +kernel
theorem dX12_extend_26 : decode cX12_extend 26 = .ok (.aload_n 0, 1) := by decide +kernel
theorem dX12_extend_27 : decode cX12_extend 27 = .ok (.iload_n 1, 1) := by decide +kernel
theorem dX12_extend_28 : decode cX12_extend 28 = .ok (.invokevirtual 166, 3) := by decide +kernel
theorem dX12_extend_31 : decode cX12_extend 31 = .ok (.ifCond .ne 16, 3) := by decide +kernel
theorem dX12_extend_34 : decode cX12_extend 34 = .ok (.aload_n 0, 1) := by decide +kernel
theorem dX12_extend_35 : decode cX12_extend 35 = .ok (.iload_n 1, 1) := by decide +kernel
theorem dX12_extend_36 : decode cX12_extend 36 = .ok (.iconst 2, 1) := by decide +kernel
theorem dX12_extend_37 : decode cX12_extend 37 = .ok (.invokevirtual 88, 3) := by decide +kernel
theorem dX12_extend_40 : decode cX12_extend 40 = .ok (.iload_n 2, 1) := by decide +kernel
theorem dX12_extend_41 : decode cX12_extend 41 = .ok (.iadd, 1) := by decide +kernel
theorem dX12_extend_42 : decode cX12_extend 42 = .ok (.bipush 14, 2) := by decide +kernel
theorem dX12_extend_44 : decode cX12_extend 44 = .ok (.if_icmp .le 7, 3) := by decide +kernel
theorem dX12_extend_47 : decode cX12_extend 47 = .ok (.iconst 1, 1) := by decide +kernel
theorem dX12_extend_48 : decode cX12_extend 48 = .ok (.goto 4, 3) := by decide +kernel
theorem dX12_extend_51 : decode cX12_extend 51 = .ok (.iconst 0, 1) := by decide +kernel
theorem dX12_extend_52 : decode cX12_extend 52 = .ok (.iconst 3, 1) := by decide +kernel
theorem dX12_extend_53 : decode cX12_extend 53 = .ok (.invokevirtual 146, 3) := by decide +kernel
theorem dX12_extend_56 : decode cX12_extend 56 = .ok (.ifCond .eq 5, 3) := by decide +kernel
theorem dX12_extend_59 : decode cX12_extend 59 = .ok (.iconst 0, 1) := by decide +kernel
theorem dX12_extend_60 : decode cX12_extend 60 = .ok (.ireturn, 1) := by decide +kernel
theorem dX12_extend_61 : decode cX12_extend 61 = .ok (.aload_n 0, 1) := by decide +kernel
theorem dX12_extend_62 : decode cX12_extend 62 = .ok (.aload_n 0, 1) := by decide +kernel
theorem dX12_extend_63 : decode cX12_extend 63 = .ok (.getfield 9, 3) := by decide +kernel
theorem dX12_extend_66 : decode cX12_extend 66 = .ok (.invokevirtual 132, 3) := by decide +kernel
theorem dX12_extend_69 : decode cX12_extend 69 = .ok (.aload_n 0, 1) := by decide +kernel
theorem dX12_extend_70 : decode cX12_extend 70 = .ok (.iload_n 1, 1) := by decide +kernel
theorem dX12_extend_71 : decode cX12_extend 71 = .ok (.aload_n 0, 1) := by decide +kernel
theorem dX12_extend_72 : decode cX12_extend 72 = .ok (.iload_n 1, 1) := by decide +kernel
theorem dX12_extend_73 : decode cX12_extend 73 = .ok (.iconst 0, 1) := by decide +kernel
theorem dX12_extend_74 : decode cX12_extend 74 = .ok (.invokevirtual 88, 3) := by decide +kernel
theorem dX12_extend_77 : decode cX12_extend 77 = .ok (.aload_n 0, 1) := by decide +kernel
theorem dX12_extend_78 : decode cX12_extend 78 = .ok (.iload_n 1, 1) := by decide +kernel
theorem dX12_extend_79 : decode cX12_extend 79 = .ok (.iconst 2, 1) := by decide +kernel
theorem dX12_extend_80 : decode cX12_extend 80 = .ok (.invokevirtual 88, 3) := by decide +kernel
theorem dX12_extend_83 : decode cX12_extend 83 = .ok (.iload_n 2, 1) := by decide +kernel
theorem dX12_extend_84 : decode cX12_extend 84 = .ok (.iadd, 1) := by decide +kernel
theorem dX12_extend_85 : decode cX12_extend 85 = .ok (.invokevirtual 169, 3) := by decide +kernel
theorem dX12_extend_88 : decode cX12_extend 88 = .ok (.ireturn, 1) := by decide +kernel
theorem dX12_addScent_0 : decode cX12_addScent 0 = .ok (.aload_n 0, 1) := by decide +kernel
theorem dX12_addScent_1 : decode cX12_addScent 1 = .ok (.iconst 0, 1) := by decide +kernel
theorem dX12_addScent_2 : decode cX12_addScent 2 = .ok (.putfield 63, 3) := by decide +kernel
theorem dX12_addScent_5 : decode cX12_addScent 5 = .ok (.aload_n 0, 1) := by decide +kernel
theorem dX12_addScent_6 : decode cX12_addScent 6 = .ok (.iload_n 1, 1) := by decide +kernel
theorem dX12_addScent_7 : decode cX12_addScent 7 = .ok (.invokevirtual 163, 3) := by decide +kernel
theorem dX12_addScent_10 : decode cX12_addScent 10 = .ok (.ifCond .ne 46, 3) := by decide +kernel
theorem dX12_addScent_13 : decode cX12_addScent 13 = .ok (.aload_n 0, 1) := by decide +kernel
theorem dX12_addScent_14 : decode cX12_addScent 14 = .ok (.iload_n 2, 1) := by decide +kernel
theorem dX12_addScent_15 : decode cX12_addScent 15 = .ok (.invokevirtual 136, 3) := by decide +kernel
theorem dX12_addScent_18 : decode cX12_addScent 18 = .ok (.ifCond .ne 38, 3) := by decide +kernel
theorem dX12_addScent_21 : decode cX12_addScent 21 = .ok (.aload_n 0, 1) := by decide +kernel
theorem dX12_addScent_22 : decode cX12_addScent 22 = .ok (.aload_n 0, 1) := by decide +kernel
theorem dX12_addScent_23 : decode cX12_addScent 23 = .ok (.iload_n 1, 1) := by decide +kernel
theorem dX12_addScent_24 : decode cX12_addScent 24 = .ok (.invokevirtual 166, 3) := by decide +kernel
theorem dX12_addScent_27 : decode cX12_addScent 27 = .ok (.ifCond .ne 17, 3) := by decide +kernel
theorem dX12_addScent_30 : decode cX12_addScent 30 = .ok (.aload_n 0, 1) := by decide +kernel
theorem dX12_addScent_31 : decode cX12_addScent 31 = .ok (.iload_n 1, 1) := by decide +kernel
theorem dX12_addScent_32 : decode cX12_addScent 32 = .ok (.iconst 0, 1) := by decide +kernel
theorem dX12_addScent_33 : decode cX12_addScent 33 = .ok (.invokevirtual 88, 3) := by decide +kernel
theorem dX12_addScent_36 : decode cX12_addScent 36 = .ok (.iload_n 2, 1) := by decide +kernel
theorem dX12_addScent_37 : decode cX12_addScent 37 = .ok (.ishr, 1) := by decide +kernel
theorem dX12_addScent_38 : decode cX12_addScent 38 = .ok (.iconst 1, 1) := by decide +kernel
theorem dX12_addScent_39 : decode cX12_addScent 39 = .ok (.iand, 1) := by decide +kernel
theorem dX12_addScent_40 : decode cX12_addScent 40 = .ok (.iconst 1, 1) := by decide +kernel
theorem dX12_addScent_41 : decode cX12_addScent 41 = .ok (.if_icmp .ne 7, 3) := by decide +kernel
theorem dX12_addScent_44 : decode cX12_addScent 44 = .ok (.iconst 1, 1) := by decide +kernel
theorem dX12_addScent_45 : decode cX12_addScent 45 = .ok (.goto 4, 3) := by decide +kernel
theorem dX12_addScent_48 : decode cX12_addScent 48 = .ok (.iconst 0, 1) := by decide +kernel
theorem dX12_addScent_49 : decode cX12_addScent 49 = .ok (.iconst 2, 1) := by decide +kernel
theorem dX12_addScent_50 : decode cX12_addScent 50 = .ok (.invokevirtual 146, 3) := by decide +kernel
theorem dX12_addScent_53 : decode cX12_addScent 53 = .ok (.ifCond .eq 5, 3) := by decide +kernel
theorem dX12_addScent_56 : decode cX12_addScent 56 = .ok (.iconst 0, 1) := by decide +kernel
theorem dX12_addScent_57 : decode cX12_addScent 57 = .ok (.ireturn, 1) := by decide +kernel
theorem dX12_addScent_58 : decode cX12_addScent 58 = .ok (.aload_n 0, 1) := by decide +kernel
theorem dX12_addScent_59 : decode cX12_addScent 59 = .ok (.aload_n 0, 1) := by decide +kernel
theorem dX12_addScent_60 : decode cX12_addScent 60 = .ok (.getfield 9, 3) := by decide +kernel
theorem dX12_addScent_63 : decode cX12_addScent 63 = .ok (.invokevirtual 132, 3) := by decide +kernel
theorem dX12_addScent_66 : decode cX12_addScent 66 = .ok (.aload_n 0, 1) := by decide +kernel
theorem dX12_addScent_67 : decode cX12_addScent 67 = .ok (.iload_n 1, 1) := by decide +kernel
theorem dX12_addScent_68 : decode cX12_addScent 68 = .ok (.aload_n 0, 1) := by decide +kernel
theorem dX12_addScent_69 : decode cX12_addScent 69 = .ok (.iload_n 1, 1) := by decide +kernel
theorem dX12_addScent_70 : decode cX12_addScent 70 = .ok (.iconst 0, 1) := by decide +kernel
theorem dX12_addScent_71 : decode cX12_addScent 71 = .ok (.invokevirtual 88, 3) := by decide +kernel
theorem dX12_addScent_74 : decode cX12_addScent 74 = .ok (.iconst 1, 1) := by decide +kernel
theorem dX12_addScent_75 : decode cX12_addScent 75 = .ok (.iload_n 2, 1) := by decide +kernel
theorem dX12_addScent_76 : decode cX12_addScent 76 = .ok (.ishl, 1) := by decide +kernel
theorem dX12_addScent_77 : decode cX12_addScent 77 = .ok (.ior, 1) := by decide +kernel
theorem dX12_addScent_78 : decode cX12_addScent 78 = .ok (.aload_n 0, 1) := by decide +kernel
theorem dX12_addScent_79 : decode cX12_addScent 79 = .ok (.iload_n 1, 1) := by decide +kernel
theorem dX12_addScent_80 : decode cX12_addScent 80 = .ok (.iconst 2, 1) := by decide +kernel
theorem dX12_addScent_81 : decode cX12_addScent 81 = .ok (.invokevirtual 88, 3) := by decide +kernel
theorem dX12_addScent_84 : decode cX12_addScent 84 = .ok (.invokevirtual 169, 3) := by decide +kernel
theorem dX12_addScent_87 : decode cX12_addScent 87 = .ok (.ireturn, 1) := by decide +kernel
theorem dX12_reportLost_0 : decode cX12_reportLost 0 = .ok (.aload_n 0, 1) := by decide +kernel
theorem dX12_reportLost_1 : decode cX12_reportLost 1 = .ok (.iconst 0, 1) := by decide +kernel
theorem dX12_reportLost_2 : decode cX12_reportLost 2 = .ok (.putfield 63, 3) := by decide +kernel
theorem dX12_reportLost_5 : decode cX12_reportLost 5 = .ok (.aload_n 0, 1) := by decide +kernel
theorem dX12_reportLost_6 : decode cX12_reportLost 6 = .ok (.iload_n 1, 1) := by decide +kernel
theorem dX12_reportLost_7 : decode cX12_reportLost 7 = .ok (.invokevirtual 163, 3) := by decide +kernel
theorem dX12_reportLost_10 : decode cX12_reportLost 10 = .ok (.ifCond .ne 26, 3) := by decide +kernel
theorem dX12_reportLost_13 : decode cX12_reportLost 13 = .ok (.aload_n 0, 1) := by decide +kernel
theorem dX12_reportLost_14 : decode cX12_reportLost 14 = .ok (.aload_n 0, 1) := by decide +kernel
theorem dX12_reportLost_15 : decode cX12_reportLost 15 = .ok (.iload_n 1, 1) := by decide +kernel
theorem dX12_reportLost_16 : decode cX12_reportLost 16 = .ok (.iconst 5, 1) := by decide +kernel
theorem dX12_reportLost_17 : decode cX12_reportLost 17 = .ok (.invokevirtual 88, 3) := by decide +kernel
theorem dX12_reportLost_20 : decode cX12_reportLost 20 = .ok (.iconst (-1), 1) := by decide +kernel
theorem dX12_reportLost_21 : decode cX12_reportLost 21 = .ok (.if_icmp .ne 7, 3) := by decide +kernel
theorem dX12_reportLost_24 : decode cX12_reportLost 24 = .ok (.iconst 1, 1) := by decide +kernel
theorem dX12_reportLost_25 : decode cX12_reportLost 25 = .ok (.goto 4, 3) := by decide +kernel
theorem dX12_reportLost_28 : decode cX12_reportLost 28 = .ok (.iconst 0, 1) := by decide +kernel
theorem dX12_reportLost_29 : decode cX12_reportLost 29 = .ok (.iconst 2, 1) := by decide +kernel
theorem dX12_reportLost_30 : decode cX12_reportLost 30 = .ok (.invokevirtual 146, 3) := by decide +kernel
theorem dX12_reportLost_33 : decode cX12_reportLost 33 = .ok (.ifCond .eq 5, 3) := by decide +kernel
theorem dX12_reportLost_36 : decode cX12_reportLost 36 = .ok (.iconst 0, 1) := by decide +kernel
theorem dX12_reportLost_37 : decode cX12_reportLost 37 = .ok (.ireturn, 1) := by decide +kernel
theorem dX12_reportLost_38 : decode cX12_reportLost 38 = .ok (.aload_n 0, 1) := by decide +kernel
theorem dX12_reportLost_39 : decode cX12_reportLost 39 = .ok (.aload_n 0, 1) := by decide +kernel
theorem dX12_reportLost_40 : decode cX12_reportLost 40 = .ok (.getfield 9, 3) := by decide +kernel
theorem dX12_reportLost_43 : decode cX12_reportLost 43 = .ok (.invokevirtual 132, 3) := by decide +kernel
theorem dX12_reportLost_46 : decode cX12_reportLost 46 = .ok (.aload_n 0, 1) := by decide +kernel
theorem dX12_reportLost_47 : decode cX12_reportLost 47 = .ok (.iload_n 1, 1) := by decide +kernel
theorem dX12_reportLost_48 : decode cX12_reportLost 48 = .ok (.invokevirtual 59, 3) := by decide +kernel
theorem dX12_reportLost_51 : decode cX12_reportLost 51 = .ok (.ireturn, 1) := by decide +kernel
theorem dX12_replaceCard_0 : decode cX12_replaceCard 0 = .ok (.aload_n 0, 1) := by decide +kernel
theorem dX12_replaceCard_1 : decode cX12_replaceCard 1 = .ok (.iconst 0, 1) := by decide +kernel
theorem dX12_replaceCard_2 : decode cX12_replaceCard 2 = .ok (.putfield 63, 3) := by decide +kernel
theorem dX12_replaceCard_5 : decode cX12_replaceCard 5 = .ok (.aload_n 0, 1) := by decide +kernel
theorem dX12_replaceCard_6 : decode cX12_replaceCard 6 = .ok (.iload_n 1, 1) := by decide +kernel
theorem dX12_replaceCard_7 : decode cX12_replaceCard 7 = .ok (.invokevirtual 163, 3) := by decide +kernel
theorem dX12_replaceCard_10 : decode cX12_replaceCard 10 = .ok (.ifCond .ne 16, 3) := by decide +kernel
theorem dX12_replaceCard_13 : decode cX12_replaceCard 13 = .ok (.aload_n 0, 1) := by decide +kernel
theorem dX12_replaceCard_14 : decode cX12_replaceCard 14 = .ok (.aload_n 0, 1) := by decide +kernel
theorem dX12_replaceCard_15 : decode cX12_replaceCard 15 = .ok (.iload_n 1, 1) := by decide +kernel
theorem dX12_replaceCard_16 : decode cX12_replaceCard 16 = .ok (.invokevirtual 172, 3) := by decide +kernel
theorem dX12_replaceCard_19 : decode cX12_replaceCard 19 = .ok (.iconst 2, 1) := by decide +kernel
theorem dX12_replaceCard_20 : decode cX12_replaceCard 20 = .ok (.invokevirtual 146, 3) := by decide +kernel
theorem dX12_replaceCard_23 : decode cX12_replaceCard 23 = .ok (.ifCond .eq 5, 3) := by decide +kernel
theorem dX12_replaceCard_26 : decode cX12_replaceCard 26 = .ok (.iconst 0, 1) := by decide +kernel
theorem dX12_replaceCard_27 : decode cX12_replaceCard 27 = .ok (.ireturn, 1) := by decide +kernel
theorem dX12_replaceCard_28 : decode cX12_replaceCard 28 = .ok (.aload_n 0, 1) := by decide +kernel
theorem dX12_replaceCard_29 : decode cX12_replaceCard 29 = .ok (.aload_n 0, 1) := by decide +kernel
theorem dX12_replaceCard_30 : decode cX12_replaceCard 30 = .ok (.getfield 9, 3) := by decide +kernel
theorem dX12_replaceCard_33 : decode cX12_replaceCard 33 = .ok (.invokevirtual 132, 3) := by decide +kernel
theorem dX12_replaceCard_36 : decode cX12_replaceCard 36 = .ok (.aload_n 0, 1) := by decide +kernel
theorem dX12_replaceCard_37 : decode cX12_replaceCard 37 = .ok (.iload_n 1, 1) := by decide +kernel
theorem dX12_replaceCard_38 : decode cX12_replaceCard 38 = .ok (.invokevirtual 175, 3) := by decide +kernel
theorem dX12_replaceCard_41 : decode cX12_replaceCard 41 = .ok (.ireturn, 1) := by decide +kernel
theorem dX12_refundPass_0 : decode cX12_refundPass 0 = .ok (.aload_n 0, 1) := by decide +kernel
theorem dX12_refundPass_1 : decode cX12_refundPass 1 = .ok (.iconst 0, 1) := by decide +kernel
theorem dX12_refundPass_2 : decode cX12_refundPass 2 = .ok (.putfield 63, 3) := by decide +kernel
theorem dX12_refundPass_5 : decode cX12_refundPass 5 = .ok (.aload_n 0, 1) := by decide +kernel
theorem dX12_refundPass_6 : decode cX12_refundPass 6 = .ok (.iload_n 1, 1) := by decide +kernel
theorem dX12_refundPass_7 : decode cX12_refundPass 7 = .ok (.invokevirtual 163, 3) := by decide +kernel
theorem dX12_refundPass_10 : decode cX12_refundPass 10 = .ok (.ifCond .ne 27, 3) := by decide +kernel
theorem dX12_refundPass_13 : decode cX12_refundPass 13 = .ok (.aload_n 0, 1) := by decide +kernel
theorem dX12_refundPass_14 : decode cX12_refundPass 14 = .ok (.aload_n 0, 1) := by decide +kernel
theorem dX12_refundPass_15 : decode cX12_refundPass 15 = .ok (.iload_n 1, 1) := by decide +kernel
theorem dX12_refundPass_16 : decode cX12_refundPass 16 = .ok (.bipush 6, 2) := by decide +kernel
theorem dX12_refundPass_18 : decode cX12_refundPass 18 = .ok (.invokevirtual 88, 3) := by decide +kernel
theorem dX12_refundPass_21 : decode cX12_refundPass 21 = .ok (.iconst 1, 1) := by decide +kernel
theorem dX12_refundPass_22 : decode cX12_refundPass 22 = .ok (.if_icmp .ne 7, 3) := by decide +kernel
theorem dX12_refundPass_25 : decode cX12_refundPass 25 = .ok (.iconst 1, 1) := by decide +kernel
theorem dX12_refundPass_26 : decode cX12_refundPass 26 = .ok (.goto 4, 3) := by decide +kernel
theorem dX12_refundPass_29 : decode cX12_refundPass 29 = .ok (.iconst 0, 1) := by decide +kernel
theorem dX12_refundPass_30 : decode cX12_refundPass 30 = .ok (.iconst 2, 1) := by decide +kernel
theorem dX12_refundPass_31 : decode cX12_refundPass 31 = .ok (.invokevirtual 146, 3) := by decide +kernel
theorem dX12_refundPass_34 : decode cX12_refundPass 34 = .ok (.ifCond .eq 5, 3) := by decide +kernel
theorem dX12_refundPass_37 : decode cX12_refundPass 37 = .ok (.iconst 0, 1) := by decide +kernel
theorem dX12_refundPass_38 : decode cX12_refundPass 38 = .ok (.ireturn, 1) := by decide +kernel
theorem dX12_refundPass_39 : decode cX12_refundPass 39 = .ok (.aload_n 0, 1) := by decide +kernel
theorem dX12_refundPass_40 : decode cX12_refundPass 40 = .ok (.aload_n 0, 1) := by decide +kernel
theorem dX12_refundPass_41 : decode cX12_refundPass 41 = .ok (.getfield 9, 3) := by decide +kernel
theorem dX12_refundPass_44 : decode cX12_refundPass 44 = .ok (.invokevirtual 132, 3) := by decide +kernel
theorem dX12_refundPass_47 : decode cX12_refundPass 47 = .ok (.aload_n 0, 1) := by decide +kernel
theorem dX12_refundPass_48 : decode cX12_refundPass 48 = .ok (.iload_n 1, 1) := by decide +kernel
theorem dX12_refundPass_49 : decode cX12_refundPass 49 = .ok (.invokevirtual 178, 3) := by decide +kernel
theorem dX12_refundPass_52 : decode cX12_refundPass 52 = .ok (.ireturn, 1) := by decide +kernel
theorem dX12_visit_0 : decode cX12_visit 0 = .ok (.aload_n 0, 1) := by decide +kernel
theorem dX12_visit_1 : decode cX12_visit 1 = .ok (.iconst 0, 1) := by decide +kernel
theorem dX12_visit_2 : decode cX12_visit 2 = .ok (.putfield 63, 3) := by decide +kernel
theorem dX12_visit_5 : decode cX12_visit 5 = .ok (.aload_n 0, 1) := by decide +kernel
theorem dX12_visit_6 : decode cX12_visit 6 = .ok (.iload_n 1, 1) := by decide +kernel
theorem dX12_visit_7 : decode cX12_visit 7 = .ok (.invokevirtual 181, 3) := by decide +kernel
theorem dX12_visit_10 : decode cX12_visit 10 = .ok (.ifCond .ne 11, 3) := by decide +kernel
theorem dX12_visit_13 : decode cX12_visit 13 = .ok (.aload_n 0, 1) := by decide +kernel
theorem dX12_visit_14 : decode cX12_visit 14 = .ok (.iload_n 2, 1) := by decide +kernel
theorem dX12_visit_15 : decode cX12_visit 15 = .ok (.invokevirtual 184, 3) := by decide +kernel
theorem dX12_visit_18 : decode cX12_visit 18 = .ok (.ifCond .eq 5, 3) := by decide +kernel
theorem dX12_visit_21 : decode cX12_visit 21 = .ok (.iconst 0, 1) := by decide +kernel
theorem dX12_visit_22 : decode cX12_visit 22 = .ok (.ireturn, 1) := by decide +kernel
theorem dX12_visit_23 : decode cX12_visit 23 = .ok (.aload_n 0, 1) := by decide +kernel
theorem dX12_visit_24 : decode cX12_visit 24 = .ok (.aload_n 0, 1) := by decide +kernel
theorem dX12_visit_25 : decode cX12_visit 25 = .ok (.getfield 9, 3) := by decide +kernel
theorem dX12_visit_28 : decode cX12_visit 28 = .ok (.invokevirtual 132, 3) := by decide +kernel
theorem dX12_visit_31 : decode cX12_visit 31 = .ok (.aload_n 0, 1) := by decide +kernel
theorem dX12_visit_32 : decode cX12_visit 32 = .ok (.iload_n 1, 1) := by decide +kernel
theorem dX12_visit_33 : decode cX12_visit 33 = .ok (.iload_n 2, 1) := by decide +kernel
theorem dX12_visit_34 : decode cX12_visit 34 = .ok (.invokevirtual 52, 3) := by decide +kernel
theorem dX12_visit_37 : decode cX12_visit 37 = .ok (.ireturn, 1) := by decide +kernel
theorem dX12_pluck_0 : decode cX12_pluck 0 = .ok (.aload_n 0, 1) := by decide +kernel
theorem dX12_pluck_1 : decode cX12_pluck 1 = .ok (.iconst 0, 1) := by decide +kernel
theorem dX12_pluck_2 : decode cX12_pluck 2 = .ok (.putfield 63, 3) := by decide +kernel
theorem dX12_pluck_5 : decode cX12_pluck 5 = .ok (.aload_n 0, 1) := by decide +kernel
theorem dX12_pluck_6 : decode cX12_pluck 6 = .ok (.iload_n 1, 1) := by decide +kernel
theorem dX12_pluck_7 : decode cX12_pluck 7 = .ok (.invokevirtual 181, 3) := by decide +kernel
theorem dX12_pluck_10 : decode cX12_pluck 10 = .ok (.ifCond .ne 29, 3) := by decide +kernel
theorem dX12_pluck_13 : decode cX12_pluck 13 = .ok (.aload_n 0, 1) := by decide +kernel
theorem dX12_pluck_14 : decode cX12_pluck 14 = .ok (.iload_n 2, 1) := by decide +kernel
theorem dX12_pluck_15 : decode cX12_pluck 15 = .ok (.iconst 1, 1) := by decide +kernel
theorem dX12_pluck_16 : decode cX12_pluck 16 = .ok (.bipush 9, 2) := by decide +kernel
theorem dX12_pluck_18 : decode cX12_pluck 18 = .ok (.iconst 2, 1) := by decide +kernel
theorem dX12_pluck_19 : decode cX12_pluck 19 = .ok (.invokevirtual 73, 3) := by decide +kernel
theorem dX12_pluck_22 : decode cX12_pluck 22 = .ok (.ifCond .ne 17, 3) := by decide +kernel
theorem dX12_pluck_25 : decode cX12_pluck 25 = .ok (.aload_n 0, 1) := by decide +kernel
theorem dX12_pluck_26 : decode cX12_pluck 26 = .ok (.aload_n 0, 1) := by decide +kernel
theorem dX12_pluck_27 : decode cX12_pluck 27 = .ok (.iload_n 1, 1) := by decide +kernel
theorem dX12_pluck_28 : decode cX12_pluck 28 = .ok (.iload_n 2, 1) := by decide +kernel
theorem dX12_pluck_29 : decode cX12_pluck 29 = .ok (.invokevirtual 187, 3) := by decide +kernel
theorem dX12_pluck_32 : decode cX12_pluck 32 = .ok (.iconst 3, 1) := by decide +kernel
theorem dX12_pluck_33 : decode cX12_pluck 33 = .ok (.invokevirtual 146, 3) := by decide +kernel
theorem dX12_pluck_36 : decode cX12_pluck 36 = .ok (.ifCond .eq 5, 3) := by decide +kernel
theorem dX12_pluck_39 : decode cX12_pluck 39 = .ok (.iconst 0, 1) := by decide +kernel
theorem dX12_pluck_40 : decode cX12_pluck 40 = .ok (.ireturn, 1) := by decide +kernel
theorem dX12_pluck_41 : decode cX12_pluck 41 = .ok (.aload_n 0, 1) := by decide +kernel
theorem dX12_pluck_42 : decode cX12_pluck 42 = .ok (.aload_n 0, 1) := by decide +kernel
theorem dX12_pluck_43 : decode cX12_pluck 43 = .ok (.getfield 9, 3) := by decide +kernel
theorem dX12_pluck_46 : decode cX12_pluck 46 = .ok (.invokevirtual 132, 3) := by decide +kernel
theorem dX12_pluck_49 : decode cX12_pluck 49 = .ok (.aload_n 0, 1) := by decide +kernel
theorem dX12_pluck_50 : decode cX12_pluck 50 = .ok (.iload_n 1, 1) := by decide +kernel
theorem dX12_pluck_51 : decode cX12_pluck 51 = .ok (.iload_n 2, 1) := by decide +kernel
theorem dX12_pluck_52 : decode cX12_pluck 52 = .ok (.invokevirtual 56, 3) := by decide +kernel
theorem dX12_pluck_55 : decode cX12_pluck 55 = .ok (.ireturn, 1) := by decide +kernel
theorem dX12_payFines_0 : decode cX12_payFines 0 = .ok (.aload_n 0, 1) := by decide +kernel
theorem dX12_payFines_1 : decode cX12_payFines 1 = .ok (.iconst 0, 1) := by decide +kernel
theorem dX12_payFines_2 : decode cX12_payFines 2 = .ok (.putfield 63, 3) := by decide +kernel
theorem dX12_payFines_5 : decode cX12_payFines 5 = .ok (.aload_n 0, 1) := by decide +kernel
theorem dX12_payFines_6 : decode cX12_payFines 6 = .ok (.iload_n 1, 1) := by decide +kernel
theorem dX12_payFines_7 : decode cX12_payFines 7 = .ok (.invokevirtual 163, 3) := by decide +kernel
theorem dX12_payFines_10 : decode cX12_payFines 10 = .ok (.ifCond .ne 40, 3) := by decide +kernel
theorem dX12_payFines_13 : decode cX12_payFines 13 = .ok (.aload_n 0, 1) := by decide +kernel
theorem dX12_payFines_14 : decode cX12_payFines 14 = .ok (.iload_n 2, 1) := by decide +kernel
theorem dX12_payFines_15 : decode cX12_payFines 15 = .ok (.iconst 1, 1) := by decide +kernel
theorem dX12_payFines_16 : decode cX12_payFines 16 = .ok (.sipush 9999, 3) := by decide +kernel
theorem dX12_payFines_19 : decode cX12_payFines 19 = .ok (.iconst 2, 1) := by decide +kernel
theorem dX12_payFines_20 : decode cX12_payFines 20 = .ok (.invokevirtual 73, 3) := by decide +kernel
theorem dX12_payFines_23 : decode cX12_payFines 23 = .ok (.ifCond .ne 27, 3) := by decide +kernel
theorem dX12_payFines_26 : decode cX12_payFines 26 = .ok (.aload_n 0, 1) := by decide +kernel
theorem dX12_payFines_27 : decode cX12_payFines 27 = .ok (.aload_n 0, 1) := by decide +kernel
theorem dX12_payFines_28 : decode cX12_payFines 28 = .ok (.iload_n 1, 1) := by decide +kernel
theorem dX12_payFines_29 : decode cX12_payFines 29 = .ok (.bipush 11, 2) := by decide +kernel
theorem dX12_payFines_31 : decode cX12_payFines 31 = .ok (.invokevirtual 88, 3) := by decide +kernel
theorem dX12_payFines_34 : decode cX12_payFines 34 = .ok (.iload_n 2, 1) := by decide +kernel
theorem dX12_payFines_35 : decode cX12_payFines 35 = .ok (.if_icmp .ge 7, 3) := by decide +kernel
theorem dX12_payFines_38 : decode cX12_payFines 38 = .ok (.iconst 1, 1) := by decide +kernel
theorem dX12_payFines_39 : decode cX12_payFines 39 = .ok (.goto 4, 3) := by decide +kernel
theorem dX12_payFines_42 : decode cX12_payFines 42 = .ok (.iconst 0, 1) := by decide +kernel
theorem dX12_payFines_43 : decode cX12_payFines 43 = .ok (.iconst 3, 1) := by decide +kernel
theorem dX12_payFines_44 : decode cX12_payFines 44 = .ok (.invokevirtual 146, 3) := by decide +kernel
theorem dX12_payFines_47 : decode cX12_payFines 47 = .ok (.ifCond .eq 5, 3) := by decide +kernel
theorem dX12_payFines_50 : decode cX12_payFines 50 = .ok (.iconst 0, 1) := by decide +kernel
theorem dX12_payFines_51 : decode cX12_payFines 51 = .ok (.ireturn, 1) := by decide +kernel
theorem dX12_payFines_52 : decode cX12_payFines 52 = .ok (.aload_n 0, 1) := by decide +kernel
theorem dX12_payFines_53 : decode cX12_payFines 53 = .ok (.aload_n 0, 1) := by decide +kernel
theorem dX12_payFines_54 : decode cX12_payFines 54 = .ok (.getfield 9, 3) := by decide +kernel
theorem dX12_payFines_57 : decode cX12_payFines 57 = .ok (.invokevirtual 132, 3) := by decide +kernel
theorem dX12_payFines_60 : decode cX12_payFines 60 = .ok (.aload_n 0, 1) := by decide +kernel
theorem dX12_payFines_61 : decode cX12_payFines 61 = .ok (.iload_n 1, 1) := by decide +kernel
theorem dX12_payFines_62 : decode cX12_payFines 62 = .ok (.iload_n 2, 1) := by decide +kernel
theorem dX12_payFines_63 : decode cX12_payFines 63 = .ok (.invokevirtual 126, 3) := by decide +kernel
theorem dX12_payFines_66 : decode cX12_payFines 66 = .ok (.ireturn, 1) := by decide +kernel
theorem dX12_pass_0 : decode cX12_pass 0 = .ok (.aload_n 0, 1) := by decide +kernel
theorem dX12_pass_1 : decode cX12_pass 1 = .ok (.iconst 0, 1) := by decide +kernel
theorem dX12_pass_2 : decode cX12_pass 2 = .ok (.putfield 63, 3) := by decide +kernel
theorem dX12_pass_5 : decode cX12_pass 5 = .ok (.aload_n 0, 1) := by decide +kernel
theorem dX12_pass_6 : decode cX12_pass 6 = .ok (.iload_n 1, 1) := by decide +kernel
theorem dX12_pass_7 : decode cX12_pass 7 = .ok (.iconst 1, 1) := by decide +kernel
theorem dX12_pass_8 : decode cX12_pass 8 = .ok (.sipush 500, 3) := by decide +kernel
theorem dX12_pass_11 : decode cX12_pass 11 = .ok (.iconst 1, 1) := by decide +kernel
theorem dX12_pass_12 : decode cX12_pass 12 = .ok (.invokevirtual 73, 3) := by decide +kernel
theorem dX12_pass_15 : decode cX12_pass 15 = .ok (.ifCond .ne 30, 3) := by decide +kernel
theorem dX12_pass_18 : decode cX12_pass 18 = .ok (.aload_n 0, 1) := by decide +kernel
theorem dX12_pass_19 : decode cX12_pass 19 = .ok (.aload_n 0, 1) := by decide +kernel
theorem dX12_pass_20 : decode cX12_pass 20 = .ok (.getfield 9, 3) := by decide +kernel
theorem dX12_pass_23 : decode cX12_pass 23 = .ok (.iconst 4, 1) := by decide +kernel
theorem dX12_pass_24 : decode cX12_pass 24 = .ok (.iaload, 1) := by decide +kernel
theorem dX12_pass_25 : decode cX12_pass 25 = .ok (.iload_n 1, 1) := by decide +kernel
theorem dX12_pass_26 : decode cX12_pass 26 = .ok (.iadd, 1) := by decide +kernel
theorem dX12_pass_27 : decode cX12_pass 27 = .ok (.sipush 9599, 3) := by decide +kernel
theorem dX12_pass_30 : decode cX12_pass 30 = .ok (.if_icmp .le 7, 3) := by decide +kernel
theorem dX12_pass_33 : decode cX12_pass 33 = .ok (.iconst 1, 1) := by decide +kernel
theorem dX12_pass_34 : decode cX12_pass 34 = .ok (.goto 4, 3) := by decide +kernel
theorem dX12_pass_37 : decode cX12_pass 37 = .ok (.iconst 0, 1) := by decide +kernel
theorem dX12_pass_38 : decode cX12_pass 38 = .ok (.iconst 2, 1) := by decide +kernel
theorem dX12_pass_39 : decode cX12_pass 39 = .ok (.invokevirtual 146, 3) := by decide +kernel
theorem dX12_pass_42 : decode cX12_pass 42 = .ok (.ifCond .eq 5, 3) := by decide +kernel
theorem dX12_pass_45 : decode cX12_pass 45 = .ok (.iconst 0, 1) := by decide +kernel
theorem dX12_pass_46 : decode cX12_pass 46 = .ok (.ireturn, 1) := by decide +kernel
theorem dX12_pass_47 : decode cX12_pass 47 = .ok (.aload_n 0, 1) := by decide +kernel
theorem dX12_pass_48 : decode cX12_pass 48 = .ok (.aload_n 0, 1) := by decide +kernel
theorem dX12_pass_49 : decode cX12_pass 49 = .ok (.getfield 9, 3) := by decide +kernel
theorem dX12_pass_52 : decode cX12_pass 52 = .ok (.invokevirtual 132, 3) := by decide +kernel
theorem dX12_pass_55 : decode cX12_pass 55 = .ok (.aload_n 0, 1) := by decide +kernel
theorem dX12_pass_56 : decode cX12_pass 56 = .ok (.iload_n 1, 1) := by decide +kernel
theorem dX12_pass_57 : decode cX12_pass 57 = .ok (.invokevirtual 49, 3) := by decide +kernel
theorem dX12_pass_60 : decode cX12_pass 60 = .ok (.aload_n 0, 1) := by decide +kernel
theorem dX12_pass_61 : decode cX12_pass 61 = .ok (.getfield 9, 3) := by decide +kernel
theorem dX12_pass_64 : decode cX12_pass 64 = .ok (.iconst 4, 1) := by decide +kernel
theorem dX12_pass_65 : decode cX12_pass 65 = .ok (.iaload, 1) := by decide +kernel
theorem dX12_pass_66 : decode cX12_pass 66 = .ok (.ireturn, 1) := by decide +kernel
theorem dX12_undo_0 : decode cX12_undo 0 = .ok (.aload_n 0, 1) := by decide +kernel
theorem dX12_undo_1 : decode cX12_undo 1 = .ok (.iconst 0, 1) := by decide +kernel
theorem dX12_undo_2 : decode cX12_undo 2 = .ok (.putfield 63, 3) := by decide +kernel
theorem dX12_undo_5 : decode cX12_undo 5 = .ok (.aload_n 0, 1) := by decide +kernel
theorem dX12_undo_6 : decode cX12_undo 6 = .ok (.getfield 66, 3) := by decide +kernel
theorem dX12_undo_9 : decode cX12_undo 9 = .ok (.ifCond .ne 5, 3) := by decide +kernel
theorem dX12_undo_12 : decode cX12_undo 12 = .ok (.iconst (-1), 1) := by decide +kernel
theorem dX12_undo_13 : decode cX12_undo 13 = .ok (.ireturn, 1) := by decide +kernel
theorem dX12_undo_14 : decode cX12_undo 14 = .ok (.aload_n 0, 1) := by decide +kernel
theorem dX12_undo_15 : decode cX12_undo 15 = .ok (.dup, 1) := by decide +kernel
theorem dX12_undo_16 : decode cX12_undo 16 = .ok (.getfield 66, 3) := by decide +kernel
theorem dX12_undo_19 : decode cX12_undo 19 = .ok (.iconst 1, 1) := by decide +kernel
theorem dX12_undo_20 : decode cX12_undo 20 = .ok (.isub, 1) := by decide +kernel
theorem dX12_undo_21 : decode cX12_undo 21 = .ok (.putfield 66, 3) := by decide +kernel
theorem dX12_undo_24 : decode cX12_undo 24 = .ok (.aload_n 0, 1) := by decide +kernel
theorem dX12_undo_25 : decode cX12_undo 25 = .ok (.getfield 15, 3) := by decide +kernel
theorem dX12_undo_28 : decode cX12_undo 28 = .ok (.aload_n 0, 1) := by decide +kernel
theorem dX12_undo_29 : decode cX12_undo 29 = .ok (.getfield 66, 3) := by decide +kernel
theorem dX12_undo_32 : decode cX12_undo 32 = .ok (.aaload, 1) := by decide +kernel
theorem dX12_undo_33 : decode cX12_undo 33 = .ok (.aload_n 0, 1) := by decide +kernel
theorem dX12_undo_34 : decode cX12_undo 34 = .ok (.getfield 9, 3) := by decide +kernel
theorem dX12_undo_37 : decode cX12_undo 37 = .ok (.invokestatic 69, 3) := by decide +kernel
theorem dX12_undo_40 : decode cX12_undo 40 = .ok (.aload_n 0, 1) := by decide +kernel
theorem dX12_undo_41 : decode cX12_undo 41 = .ok (.getfield 66, 3) := by decide +kernel
theorem dX12_undo_44 : decode cX12_undo 44 = .ok (.ireturn, 1) := by decide +kernel
theorem dX12_undoCount_0 : decode cX12_undoCount 0 = .ok (.aload_n 0, 1) := by decide +kernel
theorem dX12_undoCount_1 : decode cX12_undoCount 1 = .ok (.iconst 0, 1) := by decide +kernel
theorem dX12_undoCount_2 : decode cX12_undoCount 2 = .ok (.putfield 63, 3) := by decide +kernel
theorem dX12_undoCount_5 : decode cX12_undoCount 5 = .ok (.aload_n 0, 1) := by decide +kernel
theorem dX12_undoCount_6 : decode cX12_undoCount 6 = .ok (.getfield 66, 3) := by decide +kernel
theorem dX12_undoCount_9 : decode cX12_undoCount 9 = .ok (.ireturn, 1) := by decide +kernel
theorem dX12_saveSnapshot_0 : decode cX12_saveSnapshot 0 = .ok (.aload_n 0, 1) := by decide +kernel
theorem dX12_saveSnapshot_1 : decode cX12_saveSnapshot 1 = .ok (.iconst 0, 1) := by decide +kernel
theorem dX12_saveSnapshot_2 : decode cX12_saveSnapshot 2 = .ok (.putfield 63, 3) := by decide +kernel
theorem dX12_saveSnapshot_5 : decode cX12_saveSnapshot 5 = .ok (.aload_n 0, 1) := by decide +kernel
theorem dX12_saveSnapshot_6 : decode cX12_saveSnapshot 6 = .ok (.getfield 9, 3) := by decide +kernel
theorem dX12_saveSnapshot_9 : decode cX12_saveSnapshot 9 = .ok (.aload_n 0, 1) := by decide +kernel
theorem dX12_saveSnapshot_10 : decode cX12_saveSnapshot 10 = .ok (.getfield 18, 3) := by decide +kernel
theorem dX12_saveSnapshot_13 : decode cX12_saveSnapshot 13 = .ok (.invokestatic 69, 3) := by decide +kernel
theorem dX12_saveSnapshot_16 : decode cX12_saveSnapshot 16 = .ok (.aload_n 0, 1) := by decide +kernel
theorem dX12_saveSnapshot_17 : decode cX12_saveSnapshot 17 = .ok (.iconst 1, 1) := by decide +kernel
theorem dX12_saveSnapshot_18 : decode cX12_saveSnapshot 18 = .ok (.putfield 191, 3) := by decide +kernel
theorem dX12_saveSnapshot_21 : decode cX12_saveSnapshot 21 = .ok (.aload_n 0, 1) := by decide +kernel
theorem dX12_saveSnapshot_22 : decode cX12_saveSnapshot 22 = .ok (.getfield 9, 3) := by decide +kernel
theorem dX12_saveSnapshot_25 : decode cX12_saveSnapshot 25 = .ok (.iconst 4, 1) := by decide +kernel
theorem dX12_saveSnapshot_26 : decode cX12_saveSnapshot 26 = .ok (.iaload, 1) := by decide +kernel
theorem dX12_saveSnapshot_27 : decode cX12_saveSnapshot 27 = .ok (.ireturn, 1) := by decide +kernel
theorem dX12_restoreSnapshot_0 : decode cX12_restoreSnapshot 0 = .ok (.aload_n 0, 1) := by decide +kernel
theorem dX12_restoreSnapshot_1 : decode cX12_restoreSnapshot 1 = .ok (.iconst 0, 1) := by decide +kernel
theorem dX12_restoreSnapshot_2 : decode cX12_restoreSnapshot 2 = .ok (.putfield 63, 3) := by decide +kernel
theorem dX12_restoreSnapshot_5 : decode cX12_restoreSnapshot 5 = .ok (.aload_n 0, 1) := by decide +kernel
theorem dX12_restoreSnapshot_6 : decode cX12_restoreSnapshot 6 = .ok (.aload_n 0, 1) := by decide +kernel
theorem dX12_restoreSnapshot_7 : decode cX12_restoreSnapshot 7 = .ok (.getfield 191, 3) := by decide +kernel
theorem dX12_restoreSnapshot_10 : decode cX12_restoreSnapshot 10 = .ok (.ifCond .ne 7, 3) := by decide +kernel
theorem dX12_restoreSnapshot_13 : decode cX12_restoreSnapshot 13 = .ok (.iconst 1, 1) := by decide +kernel
theorem dX12_restoreSnapshot_14 : decode cX12_restoreSnapshot 14 = .ok (.goto 4, 3) := by decide +kernel
theorem dX12_restoreSnapshot_17 : decode cX12_restoreSnapshot 17 = .ok (.iconst 0, 1) := by decide +kernel
theorem dX12_restoreSnapshot_18 : decode cX12_restoreSnapshot 18 = .ok (.iconst 1, 1) := by decide +kernel
theorem dX12_restoreSnapshot_19 : decode cX12_restoreSnapshot 19 = .ok (.invokevirtual 146, 3) := by decide +kernel
theorem dX12_restoreSnapshot_22 : decode cX12_restoreSnapshot 22 = .ok (.ifCond .eq 5, 3) := by decide +kernel
theorem dX12_restoreSnapshot_25 : decode cX12_restoreSnapshot 25 = .ok (.iconst 0, 1) := by decide +kernel
theorem dX12_restoreSnapshot_26 : decode cX12_restoreSnapshot 26 = .ok (.ireturn, 1) := by decide +kernel
theorem dX12_restoreSnapshot_27 : decode cX12_restoreSnapshot 27 = .ok (.aload_n 0, 1) := by decide +kernel
theorem dX12_restoreSnapshot_28 : decode cX12_restoreSnapshot 28 = .ok (.getfield 18, 3) := by decide +kernel
theorem dX12_restoreSnapshot_31 : decode cX12_restoreSnapshot 31 = .ok (.aload_n 0, 1) := by decide +kernel
theorem dX12_restoreSnapshot_32 : decode cX12_restoreSnapshot 32 = .ok (.getfield 9, 3) := by decide +kernel
theorem dX12_restoreSnapshot_35 : decode cX12_restoreSnapshot 35 = .ok (.invokestatic 69, 3) := by decide +kernel
theorem dX12_restoreSnapshot_38 : decode cX12_restoreSnapshot 38 = .ok (.aload_n 0, 1) := by decide +kernel
theorem dX12_restoreSnapshot_39 : decode cX12_restoreSnapshot 39 = .ok (.iconst 0, 1) := by decide +kernel
theorem dX12_restoreSnapshot_40 : decode cX12_restoreSnapshot 40 = .ok (.putfield 66, 3) := by decide +kernel
theorem dX12_restoreSnapshot_43 : decode cX12_restoreSnapshot 43 = .ok (.aload_n 0, 1) := by decide +kernel
theorem dX12_restoreSnapshot_44 : decode cX12_restoreSnapshot 44 = .ok (.getfield 9, 3) := by decide +kernel
theorem dX12_restoreSnapshot_47 : decode cX12_restoreSnapshot 47 = .ok (.iconst 4, 1) := by decide +kernel
theorem dX12_restoreSnapshot_48 : decode cX12_restoreSnapshot 48 = .ok (.iaload, 1) := by decide +kernel
theorem dX12_restoreSnapshot_49 : decode cX12_restoreSnapshot 49 = .ok (.ireturn, 1) := by decide +kernel
theorem dX12_letterAt_0 : decode cX12_letterAt 0 = .ok (.iload_n 1, 1) := by decide +kernel
theorem dX12_letterAt_1 : decode cX12_letterAt 1 = .ok (.aload_n 0, 1) := by decide +kernel
theorem dX12_letterAt_2 : decode cX12_letterAt 2 = .ok (.getfield 195, 3) := by decide +kernel
theorem dX12_letterAt_5 : decode cX12_letterAt 5 = .ok (.if_icmp .ge 29, 3) := by decide +kernel
theorem dX12_letterAt_8 : decode cX12_letterAt 8 = .ok (.aload_n 0, 1) := by decide +kernel
theorem dX12_letterAt_9 : decode cX12_letterAt 9 = .ok (.getfield 24, 3) := by decide +kernel
theorem dX12_letterAt_12 : decode cX12_letterAt 12 = .ok (.iload_n 1, 1) := by decide +kernel
theorem dX12_letterAt_13 : decode cX12_letterAt 13 = .ok (.iaload, 1) := by decide +kernel
theorem dX12_letterAt_14 : decode cX12_letterAt 14 = .ok (.bipush 97, 2) := by decide +kernel
theorem dX12_letterAt_16 : decode cX12_letterAt 16 = .ok (.if_icmp .lt 18, 3) := by decide +kernel
theorem dX12_letterAt_19 : decode cX12_letterAt 19 = .ok (.aload_n 0, 1) := by decide +kernel
theorem dX12_letterAt_20 : decode cX12_letterAt 20 = .ok (.getfield 24, 3) := by decide +kernel
theorem dX12_letterAt_23 : decode cX12_letterAt 23 = .ok (.iload_n 1, 1) := by decide +kernel
theorem dX12_letterAt_24 : decode cX12_letterAt 24 = .ok (.iaload, 1) := by decide +kernel
theorem dX12_letterAt_25 : decode cX12_letterAt 25 = .ok (.bipush 122, 2) := by decide +kernel
theorem dX12_letterAt_27 : decode cX12_letterAt 27 = .ok (.if_icmp .gt 7, 3) := by decide +kernel
theorem dX12_letterAt_30 : decode cX12_letterAt 30 = .ok (.iconst 1, 1) := by decide +kernel
theorem dX12_letterAt_31 : decode cX12_letterAt 31 = .ok (.goto 4, 3) := by decide +kernel
theorem dX12_letterAt_34 : decode cX12_letterAt 34 = .ok (.iconst 0, 1) := by decide +kernel
theorem dX12_letterAt_35 : decode cX12_letterAt 35 = .ok (.ireturn, 1) := by decide +kernel
theorem dX12_digitAt_0 : decode cX12_digitAt 0 = .ok (.iload_n 1, 1) := by decide +kernel
theorem dX12_digitAt_1 : decode cX12_digitAt 1 = .ok (.aload_n 0, 1) := by decide +kernel
theorem dX12_digitAt_2 : decode cX12_digitAt 2 = .ok (.getfield 195, 3) := by decide +kernel
theorem dX12_digitAt_5 : decode cX12_digitAt 5 = .ok (.if_icmp .ge 29, 3) := by decide +kernel
theorem dX12_digitAt_8 : decode cX12_digitAt 8 = .ok (.aload_n 0, 1) := by decide +kernel
theorem dX12_digitAt_9 : decode cX12_digitAt 9 = .ok (.getfield 24, 3) := by decide +kernel
theorem dX12_digitAt_12 : decode cX12_digitAt 12 = .ok (.iload_n 1, 1) := by decide +kernel
theorem dX12_digitAt_13 : decode cX12_digitAt 13 = .ok (.iaload, 1) := by decide +kernel
theorem dX12_digitAt_14 : decode cX12_digitAt 14 = .ok (.bipush 48, 2) := by decide +kernel
theorem dX12_digitAt_16 : decode cX12_digitAt 16 = .ok (.if_icmp .lt 18, 3) := by decide +kernel
theorem dX12_digitAt_19 : decode cX12_digitAt 19 = .ok (.aload_n 0, 1) := by decide +kernel
theorem dX12_digitAt_20 : decode cX12_digitAt 20 = .ok (.getfield 24, 3) := by decide +kernel
theorem dX12_digitAt_23 : decode cX12_digitAt 23 = .ok (.iload_n 1, 1) := by decide +kernel
theorem dX12_digitAt_24 : decode cX12_digitAt 24 = .ok (.iaload, 1) := by decide +kernel
theorem dX12_digitAt_25 : decode cX12_digitAt 25 = .ok (.bipush 57, 2) := by decide +kernel
theorem dX12_digitAt_27 : decode cX12_digitAt 27 = .ok (.if_icmp .gt 7, 3) := by decide +kernel
theorem dX12_digitAt_30 : decode cX12_digitAt 30 = .ok (.iconst 1, 1) := by decide +kernel
theorem dX12_digitAt_31 : decode cX12_digitAt 31 = .ok (.goto 4, 3) := by decide +kernel
theorem dX12_digitAt_34 : decode cX12_digitAt 34 = .ok (.iconst 0, 1) := by decide +kernel
theorem dX12_digitAt_35 : decode cX12_digitAt 35 = .ok (.ireturn, 1) := by decide +kernel
theorem dX12_scan_0 : decode cX12_scan 0 = .ok (.aload_n 0, 1) := by decide +kernel
theorem dX12_scan_1 : decode cX12_scan 1 = .ok (.getfield 198, 3) := by decide +kernel
theorem dX12_scan_4 : decode cX12_scan 4 = .ok (.aload_n 0, 1) := by decide +kernel
theorem dX12_scan_5 : decode cX12_scan 5 = .ok (.getfield 195, 3) := by decide +kernel
theorem dX12_scan_8 : decode cX12_scan 8 = .ok (.if_icmp .ge 44, 3) := by decide +kernel
theorem dX12_scan_11 : decode cX12_scan 11 = .ok (.aload_n 0, 1) := by decide +kernel
theorem dX12_scan_12 : decode cX12_scan 12 = .ok (.getfield 24, 3) := by decide +kernel
theorem dX12_scan_15 : decode cX12_scan 15 = .ok (.aload_n 0, 1) := by decide +kernel
theorem dX12_scan_16 : decode cX12_scan 16 = .ok (.getfield 198, 3) := by decide +kernel
theorem dX12_scan_19 : decode cX12_scan 19 = .ok (.iaload, 1) := by decide +kernel
theorem dX12_scan_20 : decode cX12_scan 20 = .ok (.bipush 32, 2) := by decide +kernel
theorem dX12_scan_22 : decode cX12_scan 22 = .ok (.if_icmp .eq 17, 3) := by decide +kernel
theorem dX12_scan_25 : decode cX12_scan 25 = .ok (.aload_n 0, 1) := by decide +kernel
theorem dX12_scan_26 : decode cX12_scan 26 = .ok (.getfield 24, 3) := by decide +kernel
theorem dX12_scan_29 : decode cX12_scan 29 = .ok (.aload_n 0, 1) := by decide +kernel
theorem dX12_scan_30 : decode cX12_scan 30 = .ok (.getfield 198, 3) := by decide +kernel
theorem dX12_scan_33 : decode cX12_scan 33 = .ok (.iaload, 1) := by decide +kernel
theorem dX12_scan_34 : decode cX12_scan 34 = .ok (.bipush 10, 2) := by decide +kernel
theorem dX12_scan_36 : decode cX12_scan 36 = .ok (.if_icmp .ne 16, 3) := by decide +kernel
theorem dX12_scan_39 : decode cX12_scan 39 = .ok (.aload_n 0, 1) := by decide +kernel
theorem dX12_scan_40 : decode cX12_scan 40 = .ok (.dup, 1) := by decide +kernel
theorem dX12_scan_41 : decode cX12_scan 41 = .ok (.getfield 198, 3) := by decide +kernel
theorem dX12_scan_44 : decode cX12_scan 44 = .ok (.iconst 1, 1) := by decide +kernel
theorem dX12_scan_45 : decode cX12_scan 45 = .ok (.iadd, 1) := by decide +kernel
theorem dX12_scan_46 : decode cX12_scan 46 = .ok (.putfield 198, 3) := by decide +kernel
theorem dX12_scan_49 : decode cX12_scan 49 = .ok (.goto (-49), 3) := by decide +kernel
theorem dX12_scan_52 : decode cX12_scan 52 = .ok (.aload_n 0, 1) := by decide +kernel
theorem dX12_scan_53 : decode cX12_scan 53 = .ok (.aload_n 0, 1) := by decide +kernel
theorem dX12_scan_54 : decode cX12_scan 54 = .ok (.getfield 198, 3) := by decide +kernel
theorem dX12_scan_57 : decode cX12_scan 57 = .ok (.putfield 201, 3) := by decide +kernel
theorem dX12_scan_60 : decode cX12_scan 60 = .ok (.aload_n 0, 1) := by decide +kernel
theorem dX12_scan_61 : decode cX12_scan 61 = .ok (.getfield 198, 3) := by decide +kernel
theorem dX12_scan_64 : decode cX12_scan 64 = .ok (.aload_n 0, 1) := by decide +kernel
theorem dX12_scan_65 : decode cX12_scan 65 = .ok (.getfield 195, 3) := by decide +kernel
theorem dX12_scan_68 : decode cX12_scan 68 = .ok (.if_icmp .ne 11, 3) := by decide +kernel
theorem dX12_scan_71 : decode cX12_scan 71 = .ok (.aload_n 0, 1) := by decide +kernel
theorem dX12_scan_72 : decode cX12_scan 72 = .ok (.iconst 0, 1) := by decide +kernel
theorem dX12_scan_73 : decode cX12_scan 73 = .ok (.putfield 204, 3) := by decide +kernel
theorem dX12_scan_76 : decode cX12_scan 76 = .ok (.goto 188, 3) := by decide +kernel
theorem dX12_scan_79 : decode cX12_scan 79 = .ok (.aload_n 0, 1) := by decide +kernel
theorem dX12_scan_80 : decode cX12_scan 80 = .ok (.aload_n 0, 1) := by decide +kernel
theorem dX12_scan_81 : decode cX12_scan 81 = .ok (.getfield 198, 3) := by decide +kernel
theorem dX12_scan_84 : decode cX12_scan 84 = .ok (.invokevirtual 207, 3) := by decide +kernel
theorem dX12_scan_87 : decode cX12_scan 87 = .ok (.ifCond .eq 35, 3) := by decide +kernel
theorem dX12_scan_90 : decode cX12_scan 90 = .ok (.aload_n 0, 1) := by decide +kernel
theorem dX12_scan_91 : decode cX12_scan 91 = .ok (.aload_n 0, 1) := by decide +kernel
theorem dX12_scan_92 : decode cX12_scan 92 = .ok (.getfield 198, 3) := by decide +kernel
theorem dX12_scan_95 : decode cX12_scan 95 = .ok (.invokevirtual 207, 3) := by decide +kernel
theorem dX12_scan_98 : decode cX12_scan 98 = .ok (.ifCond .eq 16, 3) := by decide +kernel
theorem dX12_scan_101 : decode cX12_scan 101 = .ok (.aload_n 0, 1) := by decide +kernel
theorem dX12_scan_102 : decode cX12_scan 102 = .ok (.dup, 1) := by decide +kernel
theorem dX12_scan_103 : decode cX12_scan 103 = .ok (.getfield 198, 3) := by decide +kernel
theorem dX12_scan_106 : decode cX12_scan 106 = .ok (.iconst 1, 1) := by decide +kernel
theorem dX12_scan_107 : decode cX12_scan 107 = .ok (.iadd, 1) := by decide +kernel
theorem dX12_scan_108 : decode cX12_scan 108 = .ok (.putfield 198, 3) := by decide +kernel
theorem dX12_scan_111 : decode cX12_scan 111 = .ok (.goto (-21), 3) := by decide +kernel
theorem dX12_scan_114 : decode cX12_scan 114 = .ok (.aload_n 0, 1) := by decide +kernel
theorem dX12_scan_115 : decode cX12_scan 115 = .ok (.iconst 3, 1) := by decide +kernel
theorem dX12_scan_116 : decode cX12_scan 116 = .ok (.putfield 204, 3) := by decide +kernel
theorem dX12_scan_119 : decode cX12_scan 119 = .ok (.goto 145, 3) := by decide +kernel
theorem dX12_scan_122 : decode cX12_scan 122 = .ok (.aload_n 0, 1) := by decide +kernel
theorem dX12_scan_123 : decode cX12_scan 123 = .ok (.aload_n 0, 1) := by decide +kernel
theorem dX12_scan_124 : decode cX12_scan 124 = .ok (.getfield 198, 3) := by decide +kernel
theorem dX12_scan_127 : decode cX12_scan 127 = .ok (.invokevirtual 210, 3) := by decide +kernel
theorem dX12_scan_130 : decode cX12_scan 130 = .ok (.ifCond .eq 101, 3) := by decide +kernel
theorem dX12_scan_133 : decode cX12_scan 133 = .ok (.aload_n 0, 1) := by decide +kernel
theorem dX12_scan_134 : decode cX12_scan 134 = .ok (.iconst 0, 1) := by decide +kernel
theorem dX12_scan_135 : decode cX12_scan 135 = .ok (.putfield 213, 3) := by decide +kernel
theorem dX12_scan_138 : decode cX12_scan 138 = .ok (.aload_n 0, 1) := by decide +kernel
theorem dX12_scan_139 : decode cX12_scan 139 = .ok (.aload_n 0, 1) := by decide +kernel
theorem dX12_scan_140 : decode cX12_scan 140 = .ok (.getfield 198, 3) := by decide +kernel
theorem dX12_scan_143 : decode cX12_scan 143 = .ok (.invokevirtual 210, 3) := by decide +kernel
theorem dX12_scan_146 : decode cX12_scan 146 = .ok (.ifCond .eq 60, 3) := by decide +kernel
theorem dX12_scan_149 : decode cX12_scan 149 = .ok (.aload_n 0, 1) := by decide +kernel
theorem dX12_scan_150 : decode cX12_scan 150 = .ok (.aload_n 0, 1) := by decide +kernel
theorem dX12_scan_151 : decode cX12_scan 151 = .ok (.getfield 198, 3) := by decide +kernel
theorem dX12_scan_154 : decode cX12_scan 154 = .ok (.aload_n 0, 1) := by decide +kernel
theorem dX12_scan_155 : decode cX12_scan 155 = .ok (.getfield 201, 3) := by decide +kernel
theorem dX12_scan_158 : decode cX12_scan 158 = .ok (.isub, 1) := by decide +kernel
theorem dX12_scan_159 : decode cX12_scan 159 = .ok (.iconst 4, 1) := by decide +kernel
theorem dX12_scan_160 : decode cX12_scan 160 = .ok (.if_icmp .ge 26, 3) := by decide +kernel
theorem dX12_scan_163 : decode cX12_scan 163 = .ok (.bipush 10, 2) := by decide +kernel
theorem dX12_scan_165 : decode cX12_scan 165 = .ok (.aload_n 0, 1) := by decide +kernel
theorem dX12_scan_166 : decode cX12_scan 166 = .ok (.getfield 213, 3) := by decide +kernel
theorem dX12_scan_169 : decode cX12_scan 169 = .ok (.imul, 1) := by decide +kernel
theorem dX12_scan_170 : decode cX12_scan 170 = .ok (.aload_n 0, 1) := by decide +kernel
theorem dX12_scan_171 : decode cX12_scan 171 = .ok (.getfield 24, 3) := by decide +kernel
theorem dX12_scan_174 : decode cX12_scan 174 = .ok (.aload_n 0, 1) := by decide +kernel
theorem dX12_scan_175 : decode cX12_scan 175 = .ok (.getfield 198, 3) := by decide +kernel
theorem dX12_scan_178 : decode cX12_scan 178 = .ok (.iaload, 1) := by decide +kernel
theorem dX12_scan_179 : decode cX12_scan 179 = .ok (.iadd, 1) := by decide +kernel
theorem dX12_scan_180 : decode cX12_scan 180 = .ok (.bipush 48, 2) := by decide +kernel
theorem dX12_scan_182 : decode cX12_scan 182 = .ok (.isub, 1) := by decide +kernel
theorem dX12_scan_183 : decode cX12_scan 183 = .ok (.goto 7, 3) := by decide +kernel
theorem dX12_scan_186 : decode cX12_scan 186 = .ok (.aload_n 0, 1) := by decide +kernel
theorem dX12_scan_187 : decode cX12_scan 187 = .ok (.getfield 213, 3) := by decide +kernel
theorem dX12_scan_190 : decode cX12_scan 190 = .ok (.putfield 213, 3) := by decide +kernel
theorem dX12_scan_193 : decode cX12_scan 193 = .ok (.aload_n 0, 1) := by decide +kernel
theorem dX12_scan_194 : decode cX12_scan 194 = .ok (.dup, 1) := by decide +kernel
theorem dX12_scan_195 : decode cX12_scan 195 = .ok (.getfield 198, 3) := by decide +kernel
theorem dX12_scan_198 : decode cX12_scan 198 = .ok (.iconst 1, 1) := by decide +kernel
theorem dX12_scan_199 : decode cX12_scan 199 = .ok (.iadd, 1) := by decide +kernel
theorem dX12_scan_200 : decode cX12_scan 200 = .ok (.putfield 198, 3) := by decide +kernel
theorem dX12_scan_203 : decode cX12_scan 203 = .ok (.goto (-65), 3) := by decide +kernel
theorem dX12_scan_206 : decode cX12_scan 206 = .ok (.aload_n 0, 1) := by decide +kernel
theorem dX12_scan_207 : decode cX12_scan 207 = .ok (.aload_n 0, 1) := by decide +kernel
theorem dX12_scan_208 : decode cX12_scan 208 = .ok (.getfield 198, 3) := by decide +kernel
theorem dX12_scan_211 : decode cX12_scan 211 = .ok (.aload_n 0, 1) := by decide +kernel
theorem dX12_scan_212 : decode cX12_scan 212 = .ok (.getfield 201, 3) := by decide +kernel
theorem dX12_scan_215 : decode cX12_scan 215 = .ok (.isub, 1) := by decide +kernel
theorem dX12_scan_216 : decode cX12_scan 216 = .ok (.iconst 4, 1) := by decide +kernel
theorem dX12_scan_217 : decode cX12_scan 217 = .ok (.if_icmp .le 7, 3) := by decide +kernel
theorem dX12_scan_220 : decode cX12_scan 220 = .ok (.iconst 4, 1) := by decide +kernel
theorem dX12_scan_221 : decode cX12_scan 221 = .ok (.goto 4, 3) := by decide +kernel
theorem dX12_scan_224 : decode cX12_scan 224 = .ok (.iconst 2, 1) := by decide +kernel
theorem dX12_scan_225 : decode cX12_scan 225 = .ok (.putfield 204, 3) := by decide +kernel
theorem dX12_scan_228 : decode cX12_scan 228 = .ok (.goto 36, 3) := by decide +kernel
theorem dX12_scan_231 : decode cX12_scan 231 = .ok (.aload_n 0, 1) := by decide +kernel
theorem dX12_scan_232 : decode cX12_scan 232 = .ok (.aload_n 0, 1) := by decide +kernel
theorem dX12_scan_233 : decode cX12_scan 233 = .ok (.getfield 24, 3) := by decide +kernel
theorem dX12_scan_236 : decode cX12_scan 236 = .ok (.aload_n 0, 1) := by decide +kernel
theorem dX12_scan_237 : decode cX12_scan 237 = .ok (.getfield 198, 3) := by decide +kernel
theorem dX12_scan_240 : decode cX12_scan 240 = .ok (.iaload, 1) := by decide +kernel
theorem dX12_scan_241 : decode cX12_scan 241 = .ok (.bipush 59, 2) := by decide +kernel
theorem dX12_scan_243 : decode cX12_scan 243 = .ok (.if_icmp .ne 7, 3) := by decide +kernel
theorem dX12_scan_246 : decode cX12_scan 246 = .ok (.iconst 1, 1) := by decide +kernel
theorem dX12_scan_247 : decode cX12_scan 247 = .ok (.goto 4, 3) := by decide +kernel
theorem dX12_scan_250 : decode cX12_scan 250 = .ok (.iconst 4, 1) := by decide +kernel
theorem dX12_scan_251 : decode cX12_scan 251 = .ok (.putfield 204, 3) := by decide +kernel
theorem dX12_scan_254 : decode cX12_scan 254 = .ok (.aload_n 0, 1) := by decide +kernel
theorem dX12_scan_255 : decode cX12_scan 255 = .ok (.dup, 1) := by decide +kernel
theorem dX12_scan_256 : decode cX12_scan 256 = .ok (.getfield 198, 3) := by decide +kernel
theorem dX12_scan_259 : decode cX12_scan 259 = .ok (.iconst 1, 1) := by decide +kernel
theorem dX12_scan_260 : decode cX12_scan 260 = .ok (.iadd, 1) := by decide +kernel
theorem dX12_scan_261 : decode cX12_scan 261 = .ok (.putfield 198, 3) := by decide +kernel
theorem dX12_scan_264 : decode cX12_scan 264 = .ok (.return_, 1) := by decide +kernel
theorem dX12_isWord_0 : decode cX12_isWord 0 = .ok (.aload_n 0, 1) := by decide +kernel
theorem dX12_isWord_1 : decode cX12_isWord 1 = .ok (.getfield 216, 3) := by decide +kernel
theorem dX12_isWord_4 : decode cX12_isWord 4 = .ok (.ifCond .ne 31, 3) := by decide +kernel
theorem dX12_isWord_7 : decode cX12_isWord 7 = .ok (.aload_n 0, 1) := by decide +kernel
theorem dX12_isWord_8 : decode cX12_isWord 8 = .ok (.getfield 204, 3) := by decide +kernel
theorem dX12_isWord_11 : decode cX12_isWord 11 = .ok (.iconst 3, 1) := by decide +kernel
theorem dX12_isWord_12 : decode cX12_isWord 12 = .ok (.if_icmp .ne 23, 3) := by decide +kernel
theorem dX12_isWord_15 : decode cX12_isWord 15 = .ok (.aload_n 0, 1) := by decide +kernel
theorem dX12_isWord_16 : decode cX12_isWord 16 = .ok (.getfield 198, 3) := by decide +kernel
theorem dX12_isWord_19 : decode cX12_isWord 19 = .ok (.aload_n 0, 1) := by decide +kernel
theorem dX12_isWord_20 : decode cX12_isWord 20 = .ok (.getfield 201, 3) := by decide +kernel
theorem dX12_isWord_23 : decode cX12_isWord 23 = .ok (.isub, 1) := by decide +kernel
theorem dX12_isWord_24 : decode cX12_isWord 24 = .ok (.aload_n 1, 1) := by decide +kernel
theorem dX12_isWord_25 : decode cX12_isWord 25 = .ok (.invokevirtual 219, 3) := by decide +kernel
theorem dX12_isWord_28 : decode cX12_isWord 28 = .ok (.if_icmp .ne 7, 3) := by decide +kernel
theorem dX12_isWord_31 : decode cX12_isWord 31 = .ok (.iconst 1, 1) := by decide +kernel
theorem dX12_isWord_32 : decode cX12_isWord 32 = .ok (.goto 4, 3) := by decide +kernel
theorem dX12_isWord_35 : decode cX12_isWord 35 = .ok (.iconst 0, 1) := by decide +kernel
theorem dX12_isWord_36 : decode cX12_isWord 36 = .ok (.istore_n 2, 1) := by decide +kernel
theorem dX12_isWord_37 : decode cX12_isWord 37 = .ok (.iconst 0, 1) := by decide +kernel
theorem dX12_isWord_38 : decode cX12_isWord 38 = .ok (.istore_n 3, 1) := by decide +kernel
theorem dX12_isWord_39 : decode cX12_isWord 39 = .ok (.iload_n 2, 1) := by decide +kernel
theorem dX12_isWord_40 : decode cX12_isWord 40 = .ok (.ifCond .eq 42, 3) := by decide +kernel
theorem dX12_isWord_43 : decode cX12_isWord 43 = .ok (.iload_n 3, 1) := by decide +kernel
theorem dX12_isWord_44 : decode cX12_isWord 44 = .ok (.aload_n 1, 1) := by decide +kernel
theorem dX12_isWord_45 : decode cX12_isWord 45 = .ok (.invokevirtual 219, 3) := by decide +kernel
theorem dX12_isWord_48 : decode cX12_isWord 48 = .ok (.if_icmp .ge 34, 3) := by decide +kernel
theorem dX12_isWord_51 : decode cX12_isWord 51 = .ok (.aload_n 0, 1) := by decide +kernel
theorem dX12_isWord_52 : decode cX12_isWord 52 = .ok (.getfield 24, 3) := by decide +kernel
theorem dX12_isWord_55 : decode cX12_isWord 55 = .ok (.aload_n 0, 1) := by decide +kernel
theorem dX12_isWord_56 : decode cX12_isWord 56 = .ok (.getfield 201, 3) := by decide +kernel
theorem dX12_isWord_59 : decode cX12_isWord 59 = .ok (.iload_n 3, 1) := by decide +kernel
theorem dX12_isWord_60 : decode cX12_isWord 60 = .ok (.iadd, 1) := by decide +kernel
theorem dX12_isWord_61 : decode cX12_isWord 61 = .ok (.iaload, 1) := by decide +kernel
theorem dX12_isWord_62 : decode cX12_isWord 62 = .ok (.aload_n 1, 1) := by decide +kernel
theorem dX12_isWord_63 : decode cX12_isWord 63 = .ok (.iload_n 3, 1) := by decide +kernel
theorem dX12_isWord_64 : decode cX12_isWord 64 = .ok (.invokevirtual 224, 3) := by decide +kernel
theorem dX12_isWord_67 : decode cX12_isWord 67 = .ok (.if_icmp .ne 7, 3) := by decide +kernel
theorem dX12_isWord_70 : decode cX12_isWord 70 = .ok (.iconst 1, 1) := by decide +kernel
theorem dX12_isWord_71 : decode cX12_isWord 71 = .ok (.goto 4, 3) := by decide +kernel
theorem dX12_isWord_74 : decode cX12_isWord 74 = .ok (.iconst 0, 1) := by decide +kernel
theorem dX12_isWord_75 : decode cX12_isWord 75 = .ok (.istore_n 2, 1) := by decide +kernel
theorem dX12_isWord_76 : decode cX12_isWord 76 = .ok (.iinc 3 1, 3) := by decide +kernel
theorem dX12_isWord_79 : decode cX12_isWord 79 = .ok (.goto (-40), 3) := by decide +kernel
theorem dX12_isWord_82 : decode cX12_isWord 82 = .ok (.iload_n 2, 1) := by decide +kernel
theorem dX12_isWord_83 : decode cX12_isWord 83 = .ok (.ireturn, 1) := by decide +kernel
theorem dX12_fail_0 : decode cX12_fail 0 = .ok (.aload_n 0, 1) := by decide +kernel
theorem dX12_fail_1 : decode cX12_fail 1 = .ok (.getfield 216, 3) := by decide +kernel
theorem dX12_fail_4 : decode cX12_fail 4 = .ok (.ifCond .ne 16, 3) := by decide +kernel
theorem dX12_fail_7 : decode cX12_fail 7 = .ok (.aload_n 0, 1) := by decide +kernel
theorem dX12_fail_8 : decode cX12_fail 8 = .ok (.iload_n 1, 1) := by decide +kernel
theorem dX12_fail_9 : decode cX12_fail 9 = .ok (.putfield 216, 3) := by decide +kernel
theorem dX12_fail_12 : decode cX12_fail 12 = .ok (.aload_n 0, 1) := by decide +kernel
theorem dX12_fail_13 : decode cX12_fail 13 = .ok (.aload_n 0, 1) := by decide +kernel
theorem dX12_fail_14 : decode cX12_fail 14 = .ok (.getfield 201, 3) := by decide +kernel
theorem dX12_fail_17 : decode cX12_fail 17 = .ok (.putfield 228, 3) := by decide +kernel
theorem dX12_fail_20 : decode cX12_fail 20 = .ok (.return_, 1) := by decide +kernel
theorem dX12_good_0 : decode cX12_good 0 = .ok (.aload_n 0, 1) := by decide +kernel
theorem dX12_good_1 : decode cX12_good 1 = .ok (.getfield 216, 3) := by decide +kernel
theorem dX12_good_4 : decode cX12_good 4 = .ok (.ifCond .ne 7, 3) := by decide +kernel
theorem dX12_good_7 : decode cX12_good 7 = .ok (.iconst 1, 1) := by decide +kernel
theorem dX12_good_8 : decode cX12_good 8 = .ok (.goto 4, 3) := by decide +kernel
theorem dX12_good_11 : decode cX12_good 11 = .ok (.iconst 0, 1) := by decide +kernel
theorem dX12_good_12 : decode cX12_good 12 = .ok (.ireturn, 1) := by decide +kernel
theorem dX12_advance_0 : decode cX12_advance 0 = .ok (.aload_n 0, 1) := by decide +kernel
theorem dX12_advance_1 : decode cX12_advance 1 = .ok (.invokevirtual 231, 3) := by decide +kernel
theorem dX12_advance_4 : decode cX12_advance 4 = .ok (.ifCond .eq 7, 3) := by decide +kernel
theorem dX12_advance_7 : decode cX12_advance 7 = .ok (.aload_n 0, 1) := by decide +kernel
theorem dX12_advance_8 : decode cX12_advance 8 = .ok (.invokevirtual 234, 3) := by decide +kernel
theorem dX12_advance_11 : decode cX12_advance 11 = .ok (.return_, 1) := by decide +kernel
theorem dX12_numberHere_0 : decode cX12_numberHere 0 = .ok (.aload_n 0, 1) := by decide +kernel
theorem dX12_numberHere_1 : decode cX12_numberHere 1 = .ok (.getfield 204, 3) := by decide +kernel
theorem dX12_numberHere_4 : decode cX12_numberHere 4 = .ok (.iconst 2, 1) := by decide +kernel
theorem dX12_numberHere_5 : decode cX12_numberHere 5 = .ok (.if_icmp .eq 11, 3) := by decide +kernel
theorem dX12_numberHere_8 : decode cX12_numberHere 8 = .ok (.aload_n 0, 1) := by decide +kernel
theorem dX12_numberHere_9 : decode cX12_numberHere 9 = .ok (.iconst 1, 1) := by decide +kernel
theorem dX12_numberHere_10 : decode cX12_numberHere 10 = .ok (.invokevirtual 237, 3) := by decide +kernel
theorem dX12_numberHere_13 : decode cX12_numberHere 13 = .ok (.goto 24, 3) := by decide +kernel
theorem dX12_numberHere_16 : decode cX12_numberHere 16 = .ok (.aload_n 0, 1) := by decide +kernel
theorem dX12_numberHere_17 : decode cX12_numberHere 17 = .ok (.getfield 213, 3) := by decide +kernel
theorem dX12_numberHere_20 : decode cX12_numberHere 20 = .ok (.iload_n 1, 1) := by decide +kernel
theorem dX12_numberHere_21 : decode cX12_numberHere 21 = .ok (.if_icmp .lt 11, 3) := by decide +kernel
theorem dX12_numberHere_24 : decode cX12_numberHere 24 = .ok (.aload_n 0, 1) := by decide +kernel
theorem dX12_numberHere_25 : decode cX12_numberHere 25 = .ok (.getfield 213, 3) := by decide +kernel
theorem dX12_numberHere_28 : decode cX12_numberHere 28 = .ok (.iload_n 2, 1) := by decide +kernel
theorem dX12_numberHere_29 : decode cX12_numberHere 29 = .ok (.if_icmp .le 8, 3) := by decide +kernel
theorem dX12_numberHere_32 : decode cX12_numberHere 32 = .ok (.aload_n 0, 1) := by decide +kernel
theorem dX12_numberHere_33 : decode cX12_numberHere 33 = .ok (.iconst 2, 1) := by decide +kernel
theorem dX12_numberHere_34 : decode cX12_numberHere 34 = .ok (.invokevirtual 237, 3) := by decide +kernel
theorem dX12_numberHere_37 : decode cX12_numberHere 37 = .ok (.aload_n 0, 1) := by decide +kernel
theorem dX12_numberHere_38 : decode cX12_numberHere 38 = .ok (.invokevirtual 231, 3) := by decide +kernel
theorem dX12_numberHere_41 : decode cX12_numberHere 41 = .ok (.ifCond .eq 10, 3) := by decide +kernel
theorem dX12_numberHere_44 : decode cX12_numberHere 44 = .ok (.aload_n 0, 1) := by decide +kernel
theorem dX12_numberHere_45 : decode cX12_numberHere 45 = .ok (.getfield 213, 3) := by decide +kernel
theorem dX12_numberHere_48 : decode cX12_numberHere 48 = .ok (.goto 4, 3) := by decide +kernel
theorem dX12_numberHere_51 : decode cX12_numberHere 51 = .ok (.iconst 0, 1) := by decide +kernel
theorem dX12_numberHere_52 : decode cX12_numberHere 52 = .ok (.ireturn, 1) := by decide +kernel
theorem dX12_number_0 : decode cX12_number 0 = .ok (.aload_n 0, 1) := by decide +kernel
theorem dX12_number_1 : decode cX12_number 1 = .ok (.iload_n 1, 1) := by decide +kernel
theorem dX12_number_2 : decode cX12_number 2 = .ok (.iload_n 2, 1) := by decide +kernel
theorem dX12_number_3 : decode cX12_number 3 = .ok (.invokevirtual 240, 3) := by decide +kernel
theorem dX12_number_6 : decode cX12_number 6 = .ok (.istore_n 3, 1) := by decide +kernel
theorem dX12_number_7 : decode cX12_number 7 = .ok (.aload_n 0, 1) := by decide +kernel
theorem dX12_number_8 : decode cX12_number 8 = .ok (.invokevirtual 243, 3) := by decide +kernel
theorem dX12_number_11 : decode cX12_number 11 = .ok (.aload_n 0, 1) := by decide +kernel
theorem dX12_number_12 : decode cX12_number 12 = .ok (.invokevirtual 231, 3) := by decide +kernel
theorem dX12_number_15 : decode cX12_number 15 = .ok (.ifCond .eq 7, 3) := by decide +kernel
theorem dX12_number_18 : decode cX12_number 18 = .ok (.iload_n 3, 1) := by decide +kernel
theorem dX12_number_19 : decode cX12_number 19 = .ok (.goto 4, 3) := by decide +kernel
theorem dX12_number_22 : decode cX12_number 22 = .ok (.iconst 0, 1) := by decide +kernel
theorem dX12_number_23 : decode cX12_number 23 = .ok (.ireturn, 1) := by decide +kernel
theorem dX12_aPass_0 : decode cX12_aPass 0 = .ok (.aload_n 0, 1) := by decide +kernel
theorem dX12_aPass_1 : decode cX12_aPass 1 = .ok (.iconst 0, 1) := by decide +kernel
theorem dX12_aPass_2 : decode cX12_aPass 2 = .ok (.aload_n 0, 1) := by decide +kernel
theorem dX12_aPass_3 : decode cX12_aPass 3 = .ok (.getfield 9, 3) := by decide +kernel
theorem dX12_aPass_6 : decode cX12_aPass 6 = .ok (.iconst 2, 1) := by decide +kernel
theorem dX12_aPass_7 : decode cX12_aPass 7 = .ok (.iaload, 1) := by decide +kernel
theorem dX12_aPass_8 : decode cX12_aPass 8 = .ok (.iconst 1, 1) := by decide +kernel
theorem dX12_aPass_9 : decode cX12_aPass 9 = .ok (.isub, 1) := by decide +kernel
theorem dX12_aPass_10 : decode cX12_aPass 10 = .ok (.invokevirtual 246, 3) := by decide +kernel
theorem dX12_aPass_13 : decode cX12_aPass 13 = .ok (.ireturn, 1) := by decide +kernel
theorem dX12_aCard_0 : decode cX12_aCard 0 = .ok (.aload_n 0, 1) := by decide +kernel
theorem dX12_aCard_1 : decode cX12_aCard 1 = .ok (.iconst 0, 1) := by decide +kernel
theorem dX12_aCard_2 : decode cX12_aCard 2 = .ok (.aload_n 0, 1) := by decide +kernel
theorem dX12_aCard_3 : decode cX12_aCard 3 = .ok (.getfield 9, 3) := by decide +kernel
theorem dX12_aCard_6 : decode cX12_aCard 6 = .ok (.iconst 3, 1) := by decide +kernel
theorem dX12_aCard_7 : decode cX12_aCard 7 = .ok (.iaload, 1) := by decide +kernel
theorem dX12_aCard_8 : decode cX12_aCard 8 = .ok (.iconst 1, 1) := by decide +kernel
theorem dX12_aCard_9 : decode cX12_aCard 9 = .ok (.isub, 1) := by decide +kernel
theorem dX12_aCard_10 : decode cX12_aCard 10 = .ok (.invokevirtual 246, 3) := by decide +kernel
theorem dX12_aCard_13 : decode cX12_aCard 13 = .ok (.ireturn, 1) := by decide +kernel
theorem dX12_ends_0 : decode cX12_ends 0 = .ok (.aload_n 0, 1) := by decide +kernel
theorem dX12_ends_1 : decode cX12_ends 1 = .ok (.getfield 204, 3) := by decide +kernel
theorem dX12_ends_4 : decode cX12_ends 4 = .ok (.iconst 1, 1) := by decide +kernel
theorem dX12_ends_5 : decode cX12_ends 5 = .ok (.if_icmp .eq 8, 3) := by decide +kernel
theorem dX12_ends_8 : decode cX12_ends 8 = .ok (.aload_n 0, 1) := by decide +kernel
theorem dX12_ends_9 : decode cX12_ends 9 = .ok (.iconst 1, 1) := by decide +kernel
theorem dX12_ends_10 : decode cX12_ends 10 = .ok (.invokevirtual 237, 3) := by decide +kernel
theorem dX12_ends_13 : decode cX12_ends 13 = .ok (.iload_n 1, 1) := by decide +kernel
theorem dX12_ends_14 : decode cX12_ends 14 = .ok (.ifCond .ne 8, 3) := by decide +kernel
theorem dX12_ends_17 : decode cX12_ends 17 = .ok (.aload_n 0, 1) := by decide +kernel
theorem dX12_ends_18 : decode cX12_ends 18 = .ok (.iconst 4, 1) := by decide +kernel
theorem dX12_ends_19 : decode cX12_ends 19 = .ok (.invokevirtual 237, 3) := by decide +kernel
theorem dX12_ends_22 : decode cX12_ends 22 = .ok (.aload_n 0, 1) := by decide +kernel
theorem dX12_ends_23 : decode cX12_ends 23 = .ok (.invokevirtual 231, 3) := by decide +kernel
theorem dX12_ends_26 : decode cX12_ends 26 = .ok (.ireturn, 1) := by decide +kernel
theorem dX12_scents_0 : decode cX12_scents 0 = .ok (.aload_n 0, 1) := by decide +kernel
theorem dX12_scents_1 : decode cX12_scents 1 = .ok (.invokevirtual 35, 3) := by decide +kernel
theorem dX12_scents_4 : decode cX12_scents 4 = .ok (.aload_n 0, 1) := by decide +kernel
theorem dX12_scents_5 : decode cX12_scents 5 = .ok (.iconst 1, 1) := by decide +kernel
theorem dX12_scents_6 : decode cX12_scents 6 = .ok (.bipush 99, 2) := by decide +kernel
theorem dX12_scents_8 : decode cX12_scents 8 = .ok (.invokevirtual 240, 3) := by decide +kernel
theorem dX12_scents_11 : decode cX12_scents 11 = .ok (.istore_n 1, 1) := by decide +kernel
theorem dX12_scents_12 : decode cX12_scents 12 = .ok (.aload_n 0, 1) := by decide +kernel
theorem dX12_scents_13 : decode cX12_scents 13 = .ok (.invokevirtual 231, 3) := by decide +kernel
theorem dX12_scents_16 : decode cX12_scents 16 = .ok (.ifCond .eq 18, 3) := by decide +kernel
theorem dX12_scents_19 : decode cX12_scents 19 = .ok (.aload_n 0, 1) := by decide +kernel
theorem dX12_scents_20 : decode cX12_scents 20 = .ok (.getfield 9, 3) := by decide +kernel
theorem dX12_scents_23 : decode cX12_scents 23 = .ok (.iconst 0, 1) := by decide +kernel
theorem dX12_scents_24 : decode cX12_scents 24 = .ok (.iaload, 1) := by decide +kernel
theorem dX12_scents_25 : decode cX12_scents 25 = .ok (.iconst 5, 1) := by decide +kernel
theorem dX12_scents_26 : decode cX12_scents 26 = .ok (.if_icmp .ne 8, 3) := by decide +kernel
theorem dX12_scents_29 : decode cX12_scents 29 = .ok (.aload_n 0, 1) := by decide +kernel
theorem dX12_scents_30 : decode cX12_scents 30 = .ok (.iconst 3, 1) := by decide +kernel
theorem dX12_scents_31 : decode cX12_scents 31 = .ok (.invokevirtual 237, 3) := by decide +kernel
theorem dX12_scents_34 : decode cX12_scents 34 = .ok (.aload_n 0, 1) := by decide +kernel
theorem dX12_scents_35 : decode cX12_scents 35 = .ok (.invokevirtual 231, 3) := by decide +kernel
theorem dX12_scents_38 : decode cX12_scents 38 = .ok (.ifCond .eq 8, 3) := by decide +kernel
theorem dX12_scents_41 : decode cX12_scents 41 = .ok (.aload_n 0, 1) := by decide +kernel
theorem dX12_scents_42 : decode cX12_scents 42 = .ok (.iload_n 1, 1) := by decide +kernel
theorem dX12_scents_43 : decode cX12_scents 43 = .ok (.invokevirtual 38, 3) := by decide +kernel
theorem dX12_scents_46 : decode cX12_scents 46 = .ok (.aload_n 0, 1) := by decide +kernel
theorem dX12_scents_47 : decode cX12_scents 47 = .ok (.invokevirtual 243, 3) := by decide +kernel
theorem dX12_scents_50 : decode cX12_scents 50 = .ok (.aload_n 0, 1) := by decide +kernel
theorem dX12_scents_51 : decode cX12_scents 51 = .ok (.invokevirtual 231, 3) := by decide +kernel
theorem dX12_scents_54 : decode cX12_scents 54 = .ok (.ifCond .eq 11, 3) := by decide +kernel
theorem dX12_scents_57 : decode cX12_scents 57 = .ok (.aload_n 0, 1) := by decide +kernel
theorem dX12_scents_58 : decode cX12_scents 58 = .ok (.getfield 204, 3) := by decide +kernel
theorem dX12_scents_61 : decode cX12_scents 61 = .ok (.iconst 2, 1) := by decide +kernel
theorem dX12_scents_62 : decode cX12_scents 62 = .ok (.if_icmp .eq (-58), 3) := by decide +kernel
theorem dX12_scents_65 : decode cX12_scents 65 = .ok (.aload_n 0, 1) := by decide +kernel
theorem dX12_scents_66 : decode cX12_scents 66 = .ok (.iconst 1, 1) := by decide +kernel
theorem dX12_scents_67 : decode cX12_scents 67 = .ok (.invokevirtual 249, 3) := by decide +kernel
theorem dX12_scents_70 : decode cX12_scents 70 = .ok (.istore_n 1, 1) := by decide +kernel
theorem dX12_scents_71 : decode cX12_scents 71 = .ok (.return_, 1) := by decide +kernel
theorem dX12_runScript_0 : decode cX12_runScript 0 = .ok (.aload_n 0, 1) := by decide +kernel
theorem dX12_runScript_1 : decode cX12_runScript 1 = .ok (.iconst 0, 1) := by decide +kernel
theorem dX12_runScript_2 : decode cX12_runScript 2 = .ok (.putfield 63, 3) := by decide +kernel
theorem dX12_runScript_5 : decode cX12_runScript 5 = .ok (.aload_n 0, 1) := by decide +kernel
theorem dX12_runScript_6 : decode cX12_runScript 6 = .ok (.getfield 9, 3) := by decide +kernel
theorem dX12_runScript_9 : decode cX12_runScript 9 = .ok (.aload_n 0, 1) := by decide +kernel
theorem dX12_runScript_10 : decode cX12_runScript 10 = .ok (.getfield 21, 3) := by decide +kernel
theorem dX12_runScript_13 : decode cX12_runScript 13 = .ok (.invokestatic 69, 3) := by decide +kernel
theorem dX12_runScript_16 : decode cX12_runScript 16 = .ok (.aload_n 0, 1) := by decide +kernel
theorem dX12_runScript_17 : decode cX12_runScript 17 = .ok (.iconst 0, 1) := by decide +kernel
theorem dX12_runScript_18 : decode cX12_runScript 18 = .ok (.putfield 198, 3) := by decide +kernel
theorem dX12_runScript_21 : decode cX12_runScript 21 = .ok (.aload_n 0, 1) := by decide +kernel
theorem dX12_runScript_22 : decode cX12_runScript 22 = .ok (.iconst 0, 1) := by decide +kernel
theorem dX12_runScript_23 : decode cX12_runScript 23 = .ok (.putfield 216, 3) := by decide +kernel
theorem dX12_runScript_26 : decode cX12_runScript 26 = .ok (.aload_n 0, 1) := by decide +kernel
theorem dX12_runScript_27 : decode cX12_runScript 27 = .ok (.iconst (-1), 1) := by decide +kernel
theorem dX12_runScript_28 : decode cX12_runScript 28 = .ok (.putfield 228, 3) := by decide +kernel
theorem dX12_runScript_31 : decode cX12_runScript 31 = .ok (.aload_n 0, 1) := by decide +kernel
theorem dX12_runScript_32 : decode cX12_runScript 32 = .ok (.invokevirtual 234, 3) := by decide +kernel
theorem dX12_runScript_35 : decode cX12_runScript 35 = .ok (.aload_n 0, 1) := by decide +kernel
theorem dX12_runScript_36 : decode cX12_runScript 36 = .ok (.ldc 253, 2) := by decide +kernel
theorem dX12_runScript_38 : decode cX12_runScript 38 = .ok (.invokevirtual 255, 3) := by decide +kernel
theorem dX12_runScript_41 : decode cX12_runScript 41 = .ok (.ifCond .ne 8, 3) := by decide +kernel
theorem dX12_runScript_44 : decode cX12_runScript 44 = .ok (.aload_n 0, 1) := by decide +kernel
theorem dX12_runScript_45 : decode cX12_runScript 45 = .ok (.iconst 1, 1) := by decide +kernel
theorem dX12_runScript_46 : decode cX12_runScript 46 = .ok (.invokevirtual 237, 3) := by decide +kernel
theorem dX12_runScript_49 : decode cX12_runScript 49 = .ok (.aload_n 0, 1) := by decide +kernel
theorem dX12_runScript_50 : decode cX12_runScript 50 = .ok (.invokevirtual 243, 3) := by decide +kernel
theorem dX12_runScript_53 : decode cX12_runScript 53 = .ok (.aload_n 0, 1) := by decide +kernel
theorem dX12_runScript_54 : decode cX12_runScript 54 = .ok (.invokevirtual 231, 3) := by decide +kernel
theorem dX12_runScript_57 : decode cX12_runScript 57 = .ok (.ifCond .eq 7, 3) := by decide +kernel
theorem dX12_runScript_60 : decode cX12_runScript 60 = .ok (.aload_n 0, 1) := by decide +kernel
theorem dX12_runScript_61 : decode cX12_runScript 61 = .ok (.invokevirtual 259, 3) := by decide +kernel
theorem dX12_runScript_64 : decode cX12_runScript 64 = .ok (.aload_n 0, 1) := by decide +kernel
theorem dX12_runScript_65 : decode cX12_runScript 65 = .ok (.invokevirtual 243, 3) := by decide +kernel
theorem dX12_runScript_68 : decode cX12_runScript 68 = .ok (.aload_n 0, 1) := by decide +kernel
theorem dX12_runScript_69 : decode cX12_runScript 69 = .ok (.invokevirtual 231, 3) := by decide +kernel
theorem dX12_runScript_72 : decode cX12_runScript 72 = .ok (.ifCond .eq 21, 3) := by decide +kernel
theorem dX12_runScript_75 : decode cX12_runScript 75 = .ok (.aload_n 0, 1) := by decide +kernel
theorem dX12_runScript_76 : decode cX12_runScript 76 = .ok (.getfield 204, 3) := by decide +kernel
theorem dX12_runScript_79 : decode cX12_runScript 79 = .ok (.ifCond .eq 14, 3) := by decide +kernel
theorem dX12_runScript_82 : decode cX12_runScript 82 = .ok (.aload_n 0, 1) := by decide +kernel
theorem dX12_runScript_83 : decode cX12_runScript 83 = .ok (.invokevirtual 262, 3) := by decide +kernel
theorem dX12_runScript_86 : decode cX12_runScript 86 = .ok (.aload_n 0, 1) := by decide +kernel
theorem dX12_runScript_87 : decode cX12_runScript 87 = .ok (.invokevirtual 243, 3) := by decide +kernel
theorem dX12_runScript_90 : decode cX12_runScript 90 = .ok (.goto (-22), 3) := by decide +kernel
theorem dX12_runScript_93 : decode cX12_runScript 93 = .ok (.aload_n 0, 1) := by decide +kernel
theorem dX12_runScript_94 : decode cX12_runScript 94 = .ok (.iconst 0, 1) := by decide +kernel
theorem dX12_runScript_95 : decode cX12_runScript 95 = .ok (.putfield 195, 3) := by decide +kernel
theorem dX12_runScript_98 : decode cX12_runScript 98 = .ok (.aload_n 0, 1) := by decide +kernel
theorem dX12_runScript_99 : decode cX12_runScript 99 = .ok (.aload_n 0, 1) := by decide +kernel
theorem dX12_runScript_100 : decode cX12_runScript 100 = .ok (.getfield 216, 3) := by decide +kernel
theorem dX12_runScript_103 : decode cX12_runScript 103 = .ok (.putfield 265, 3) := by decide +kernel
theorem dX12_runScript_106 : decode cX12_runScript 106 = .ok (.aload_n 0, 1) := by decide +kernel
theorem dX12_runScript_107 : decode cX12_runScript 107 = .ok (.aload_n 0, 1) := by decide +kernel
theorem dX12_runScript_108 : decode cX12_runScript 108 = .ok (.getfield 228, 3) := by decide +kernel
theorem dX12_runScript_111 : decode cX12_runScript 111 = .ok (.putfield 31, 3) := by decide +kernel
theorem dX12_runScript_114 : decode cX12_runScript 114 = .ok (.aload_n 0, 1) := by decide +kernel
theorem dX12_runScript_115 : decode cX12_runScript 115 = .ok (.invokevirtual 231, 3) := by decide +kernel
theorem dX12_runScript_118 : decode cX12_runScript 118 = .ok (.ifCond .ne 16, 3) := by decide +kernel
theorem dX12_runScript_121 : decode cX12_runScript 121 = .ok (.aload_n 0, 1) := by decide +kernel
theorem dX12_runScript_122 : decode cX12_runScript 122 = .ok (.getfield 21, 3) := by decide +kernel
theorem dX12_runScript_125 : decode cX12_runScript 125 = .ok (.aload_n 0, 1) := by decide +kernel
theorem dX12_runScript_126 : decode cX12_runScript 126 = .ok (.getfield 9, 3) := by decide +kernel
theorem dX12_runScript_129 : decode cX12_runScript 129 = .ok (.invokestatic 69, 3) := by decide +kernel
theorem dX12_runScript_132 : decode cX12_runScript 132 = .ok (.iconst (-1), 1) := by decide +kernel
theorem dX12_runScript_133 : decode cX12_runScript 133 = .ok (.ireturn, 1) := by decide +kernel
theorem dX12_runScript_134 : decode cX12_runScript 134 = .ok (.aload_n 0, 1) := by decide +kernel
theorem dX12_runScript_135 : decode cX12_runScript 135 = .ok (.aload_n 0, 1) := by decide +kernel
theorem dX12_runScript_136 : decode cX12_runScript 136 = .ok (.getfield 21, 3) := by decide +kernel
theorem dX12_runScript_139 : decode cX12_runScript 139 = .ok (.invokevirtual 132, 3) := by decide +kernel
theorem dX12_runScript_142 : decode cX12_runScript 142 = .ok (.aload_n 0, 1) := by decide +kernel
theorem dX12_runScript_143 : decode cX12_runScript 143 = .ok (.getfield 9, 3) := by decide +kernel
theorem dX12_runScript_146 : decode cX12_runScript 146 = .ok (.iconst 2, 1) := by decide +kernel
theorem dX12_runScript_147 : decode cX12_runScript 147 = .ok (.iaload, 1) := by decide +kernel
theorem dX12_runScript_148 : decode cX12_runScript 148 = .ok (.ireturn, 1) := by decide +kernel
theorem dX12_command_0 : decode cX12_command 0 = .ok (.aload_n 0, 1) := by decide +kernel
theorem dX12_command_1 : decode cX12_command 1 = .ok (.ldc_w 268, 3) := by decide +kernel
theorem dX12_command_4 : decode cX12_command 4 = .ok (.invokevirtual 255, 3) := by decide +kernel
theorem dX12_command_7 : decode cX12_command 7 = .ok (.ifCond .eq 14, 3) := by decide +kernel
theorem dX12_command_10 : decode cX12_command 10 = .ok (.aload_n 0, 1) := by decide +kernel
theorem dX12_command_11 : decode cX12_command 11 = .ok (.invokevirtual 234, 3) := by decide +kernel
theorem dX12_command_14 : decode cX12_command 14 = .ok (.aload_n 0, 1) := by decide +kernel
theorem dX12_command_15 : decode cX12_command 15 = .ok (.invokevirtual 269, 3) := by decide +kernel
theorem dX12_command_18 : decode cX12_command 18 = .ok (.goto 278, 3) := by decide +kernel
theorem dX12_command_21 : decode cX12_command 21 = .ok (.aload_n 0, 1) := by decide +kernel
theorem dX12_command_22 : decode cX12_command 22 = .ok (.ldc_w 272, 3) := by decide +kernel
theorem dX12_command_25 : decode cX12_command 25 = .ok (.invokevirtual 255, 3) := by decide +kernel
theorem dX12_command_28 : decode cX12_command 28 = .ok (.ifCond .eq 14, 3) := by decide +kernel
theorem dX12_command_31 : decode cX12_command 31 = .ok (.aload_n 0, 1) := by decide +kernel
theorem dX12_command_32 : decode cX12_command 32 = .ok (.invokevirtual 234, 3) := by decide +kernel
theorem dX12_command_35 : decode cX12_command 35 = .ok (.aload_n 0, 1) := by decide +kernel
theorem dX12_command_36 : decode cX12_command 36 = .ok (.invokevirtual 274, 3) := by decide +kernel
theorem dX12_command_39 : decode cX12_command 39 = .ok (.goto 257, 3) := by decide +kernel
theorem dX12_command_42 : decode cX12_command 42 = .ok (.aload_n 0, 1) := by decide +kernel
theorem dX12_command_43 : decode cX12_command 43 = .ok (.ldc_w 277, 3) := by decide +kernel
theorem dX12_command_46 : decode cX12_command 46 = .ok (.invokevirtual 255, 3) := by decide +kernel
theorem dX12_command_49 : decode cX12_command 49 = .ok (.ifCond .eq 64, 3) := by decide +kernel
theorem dX12_command_52 : decode cX12_command 52 = .ok (.aload_n 0, 1) := by decide +kernel
theorem dX12_command_53 : decode cX12_command 53 = .ok (.invokevirtual 234, 3) := by decide +kernel
theorem dX12_command_56 : decode cX12_command 56 = .ok (.aload_n 0, 1) := by decide +kernel
theorem dX12_command_57 : decode cX12_command 57 = .ok (.invokevirtual 279, 3) := by decide +kernel
theorem dX12_command_60 : decode cX12_command 60 = .ok (.istore_n 1, 1) := by decide +kernel
theorem dX12_command_61 : decode cX12_command 61 = .ok (.aload_n 0, 1) := by decide +kernel
theorem dX12_command_62 : decode cX12_command 62 = .ok (.iconst 0, 1) := by decide +kernel
theorem dX12_command_63 : decode cX12_command 63 = .ok (.aload_n 0, 1) := by decide +kernel
theorem dX12_command_64 : decode cX12_command 64 = .ok (.getfield 9, 3) := by decide +kernel
theorem dX12_command_67 : decode cX12_command 67 = .ok (.iconst 1, 1) := by decide +kernel
theorem dX12_command_68 : decode cX12_command 68 = .ok (.iaload, 1) := by decide +kernel
theorem dX12_command_69 : decode cX12_command 69 = .ok (.iconst 1, 1) := by decide +kernel
theorem dX12_command_70 : decode cX12_command 70 = .ok (.isub, 1) := by decide +kernel
theorem dX12_command_71 : decode cX12_command 71 = .ok (.invokevirtual 246, 3) := by decide +kernel
theorem dX12_command_74 : decode cX12_command 74 = .ok (.istore_n 2, 1) := by decide +kernel
theorem dX12_command_75 : decode cX12_command 75 = .ok (.aload_n 0, 1) := by decide +kernel
theorem dX12_command_76 : decode cX12_command 76 = .ok (.aload_n 0, 1) := by decide +kernel
theorem dX12_command_77 : decode cX12_command 77 = .ok (.invokevirtual 231, 3) := by decide +kernel
theorem dX12_command_80 : decode cX12_command 80 = .ok (.ifCond .eq 16, 3) := by decide +kernel
theorem dX12_command_83 : decode cX12_command 83 = .ok (.aload_n 0, 1) := by decide +kernel
theorem dX12_command_84 : decode cX12_command 84 = .ok (.iload_n 1, 1) := by decide +kernel
theorem dX12_command_85 : decode cX12_command 85 = .ok (.iload_n 2, 1) := by decide +kernel
theorem dX12_command_86 : decode cX12_command 86 = .ok (.invokevirtual 117, 3) := by decide +kernel
theorem dX12_command_89 : decode cX12_command 89 = .ok (.ifCond .ne 7, 3) := by decide +kernel
theorem dX12_command_92 : decode cX12_command 92 = .ok (.iconst 1, 1) := by decide +kernel
theorem dX12_command_93 : decode cX12_command 93 = .ok (.goto 4, 3) := by decide +kernel
theorem dX12_command_96 : decode cX12_command 96 = .ok (.iconst 0, 1) := by decide +kernel
theorem dX12_command_97 : decode cX12_command 97 = .ok (.invokevirtual 249, 3) := by decide +kernel
theorem dX12_command_100 : decode cX12_command 100 = .ok (.ifCond .eq 10, 3) := by decide +kernel
theorem dX12_command_103 : decode cX12_command 103 = .ok (.aload_n 0, 1) := by decide +kernel
theorem dX12_command_104 : decode cX12_command 104 = .ok (.iload_n 1, 1) := by decide +kernel
theorem dX12_command_105 : decode cX12_command 105 = .ok (.iload_n 2, 1) := by decide +kernel
theorem dX12_command_106 : decode cX12_command 106 = .ok (.invokevirtual 52, 3) := by decide +kernel
theorem dX12_command_109 : decode cX12_command 109 = .ok (.istore_n 3, 1) := by decide +kernel
theorem dX12_command_110 : decode cX12_command 110 = .ok (.goto 186, 3) := by decide +kernel
theorem dX12_command_113 : decode cX12_command 113 = .ok (.aload_n 0, 1) := by decide +kernel
theorem dX12_command_114 : decode cX12_command 114 = .ok (.ldc_w 282, 3) := by decide +kernel
theorem dX12_command_117 : decode cX12_command 117 = .ok (.invokevirtual 255, 3) := by decide +kernel
theorem dX12_command_120 : decode cX12_command 120 = .ok (.ifCond .eq 58, 3) := by decide +kernel
theorem dX12_command_123 : decode cX12_command 123 = .ok (.aload_n 0, 1) := by decide +kernel
theorem dX12_command_124 : decode cX12_command 124 = .ok (.invokevirtual 234, 3) := by decide +kernel
theorem dX12_command_127 : decode cX12_command 127 = .ok (.aload_n 0, 1) := by decide +kernel
theorem dX12_command_128 : decode cX12_command 128 = .ok (.invokevirtual 279, 3) := by decide +kernel
theorem dX12_command_131 : decode cX12_command 131 = .ok (.istore_n 1, 1) := by decide +kernel
theorem dX12_command_132 : decode cX12_command 132 = .ok (.aload_n 0, 1) := by decide +kernel
theorem dX12_command_133 : decode cX12_command 133 = .ok (.iconst 1, 1) := by decide +kernel
theorem dX12_command_134 : decode cX12_command 134 = .ok (.bipush 9, 2) := by decide +kernel
theorem dX12_command_136 : decode cX12_command 136 = .ok (.invokevirtual 246, 3) := by decide +kernel
theorem dX12_command_139 : decode cX12_command 139 = .ok (.istore_n 2, 1) := by decide +kernel
theorem dX12_command_140 : decode cX12_command 140 = .ok (.aload_n 0, 1) := by decide +kernel
theorem dX12_command_141 : decode cX12_command 141 = .ok (.aload_n 0, 1) := by decide +kernel
theorem dX12_command_142 : decode cX12_command 142 = .ok (.invokevirtual 231, 3) := by decide +kernel
theorem dX12_command_145 : decode cX12_command 145 = .ok (.ifCond .eq 16, 3) := by decide +kernel
theorem dX12_command_148 : decode cX12_command 148 = .ok (.aload_n 0, 1) := by decide +kernel
theorem dX12_command_149 : decode cX12_command 149 = .ok (.iload_n 1, 1) := by decide +kernel
theorem dX12_command_150 : decode cX12_command 150 = .ok (.iload_n 2, 1) := by decide +kernel
theorem dX12_command_151 : decode cX12_command 151 = .ok (.invokevirtual 187, 3) := by decide +kernel
theorem dX12_command_154 : decode cX12_command 154 = .ok (.ifCond .ne 7, 3) := by decide +kernel
theorem dX12_command_157 : decode cX12_command 157 = .ok (.iconst 1, 1) := by decide +kernel
theorem dX12_command_158 : decode cX12_command 158 = .ok (.goto 4, 3) := by decide +kernel
theorem dX12_command_161 : decode cX12_command 161 = .ok (.iconst 0, 1) := by decide +kernel
theorem dX12_command_162 : decode cX12_command 162 = .ok (.invokevirtual 249, 3) := by decide +kernel
theorem dX12_command_165 : decode cX12_command 165 = .ok (.ifCond .eq 10, 3) := by decide +kernel
theorem dX12_command_168 : decode cX12_command 168 = .ok (.aload_n 0, 1) := by decide +kernel
theorem dX12_command_169 : decode cX12_command 169 = .ok (.iload_n 1, 1) := by decide +kernel
theorem dX12_command_170 : decode cX12_command 170 = .ok (.iload_n 2, 1) := by decide +kernel
theorem dX12_command_171 : decode cX12_command 171 = .ok (.invokevirtual 56, 3) := by decide +kernel
theorem dX12_command_174 : decode cX12_command 174 = .ok (.istore_n 3, 1) := by decide +kernel
theorem dX12_command_175 : decode cX12_command 175 = .ok (.goto 121, 3) := by decide +kernel
theorem dX12_command_178 : decode cX12_command 178 = .ok (.aload_n 0, 1) := by decide +kernel
theorem dX12_command_179 : decode cX12_command 179 = .ok (.ldc_w 284, 3) := by decide +kernel
theorem dX12_command_182 : decode cX12_command 182 = .ok (.invokevirtual 255, 3) := by decide +kernel
theorem dX12_command_185 : decode cX12_command 185 = .ok (.ifCond .eq 50, 3) := by decide +kernel
theorem dX12_command_188 : decode cX12_command 188 = .ok (.aload_n 0, 1) := by decide +kernel
theorem dX12_command_189 : decode cX12_command 189 = .ok (.invokevirtual 234, 3) := by decide +kernel
theorem dX12_command_192 : decode cX12_command 192 = .ok (.aload_n 0, 1) := by decide +kernel
theorem dX12_command_193 : decode cX12_command 193 = .ok (.iconst 1, 1) := by decide +kernel
theorem dX12_command_194 : decode cX12_command 194 = .ok (.sipush 500, 3) := by decide +kernel
theorem dX12_command_197 : decode cX12_command 197 = .ok (.invokevirtual 246, 3) := by decide +kernel
theorem dX12_command_200 : decode cX12_command 200 = .ok (.istore_n 1, 1) := by decide +kernel
theorem dX12_command_201 : decode cX12_command 201 = .ok (.aload_n 0, 1) := by decide +kernel
theorem dX12_command_202 : decode cX12_command 202 = .ok (.aload_n 0, 1) := by decide +kernel
theorem dX12_command_203 : decode cX12_command 203 = .ok (.getfield 9, 3) := by decide +kernel
theorem dX12_command_206 : decode cX12_command 206 = .ok (.iconst 4, 1) := by decide +kernel
theorem dX12_command_207 : decode cX12_command 207 = .ok (.iaload, 1) := by decide +kernel
theorem dX12_command_208 : decode cX12_command 208 = .ok (.iload_n 1, 1) := by decide +kernel
theorem dX12_command_209 : decode cX12_command 209 = .ok (.iadd, 1) := by decide +kernel
theorem dX12_command_210 : decode cX12_command 210 = .ok (.sipush 9599, 3) := by decide +kernel
theorem dX12_command_213 : decode cX12_command 213 = .ok (.if_icmp .gt 7, 3) := by decide +kernel
theorem dX12_command_216 : decode cX12_command 216 = .ok (.iconst 1, 1) := by decide +kernel
theorem dX12_command_217 : decode cX12_command 217 = .ok (.goto 4, 3) := by decide +kernel
theorem dX12_command_220 : decode cX12_command 220 = .ok (.iconst 0, 1) := by decide +kernel
theorem dX12_command_221 : decode cX12_command 221 = .ok (.invokevirtual 249, 3) := by decide +kernel
theorem dX12_command_224 : decode cX12_command 224 = .ok (.ifCond .eq 8, 3) := by decide +kernel
theorem dX12_command_227 : decode cX12_command 227 = .ok (.aload_n 0, 1) := by decide +kernel
theorem dX12_command_228 : decode cX12_command 228 = .ok (.iload_n 1, 1) := by decide +kernel
theorem dX12_command_229 : decode cX12_command 229 = .ok (.invokevirtual 49, 3) := by decide +kernel
theorem dX12_command_232 : decode cX12_command 232 = .ok (.goto 64, 3) := by decide +kernel
theorem dX12_command_235 : decode cX12_command 235 = .ok (.aload_n 0, 1) := by decide +kernel
theorem dX12_command_236 : decode cX12_command 236 = .ok (.ldc_w 286, 3) := by decide +kernel
theorem dX12_command_239 : decode cX12_command 239 = .ok (.invokevirtual 255, 3) := by decide +kernel
theorem dX12_command_242 : decode cX12_command 242 = .ok (.ifCond .eq 50, 3) := by decide +kernel
theorem dX12_command_245 : decode cX12_command 245 = .ok (.aload_n 0, 1) := by decide +kernel
theorem dX12_command_246 : decode cX12_command 246 = .ok (.invokevirtual 234, 3) := by decide +kernel
theorem dX12_command_249 : decode cX12_command 249 = .ok (.aload_n 0, 1) := by decide +kernel
theorem dX12_command_250 : decode cX12_command 250 = .ok (.iconst 0, 1) := by decide +kernel
theorem dX12_command_251 : decode cX12_command 251 = .ok (.bipush 95, 2) := by decide +kernel
theorem dX12_command_253 : decode cX12_command 253 = .ok (.invokevirtual 246, 3) := by decide +kernel
theorem dX12_command_256 : decode cX12_command 256 = .ok (.istore_n 1, 1) := by decide +kernel
theorem dX12_command_257 : decode cX12_command 257 = .ok (.aload_n 0, 1) := by decide +kernel
theorem dX12_command_258 : decode cX12_command 258 = .ok (.iload_n 1, 1) := by decide +kernel
theorem dX12_command_259 : decode cX12_command 259 = .ok (.bipush 95, 2) := by decide +kernel
theorem dX12_command_261 : decode cX12_command 261 = .ok (.invokevirtual 246, 3) := by decide +kernel
theorem dX12_command_264 : decode cX12_command 264 = .ok (.istore_n 2, 1) := by decide +kernel
theorem dX12_command_265 : decode cX12_command 265 = .ok (.aload_n 0, 1) := by decide +kernel
theorem dX12_command_266 : decode cX12_command 266 = .ok (.iconst 1, 1) := by decide +kernel
theorem dX12_command_267 : decode cX12_command 267 = .ok (.invokevirtual 249, 3) := by decide +kernel
theorem dX12_command_270 : decode cX12_command 270 = .ok (.ifCond .eq 19, 3) := by decide +kernel
theorem dX12_command_273 : decode cX12_command 273 = .ok (.aload_n 0, 1) := by decide +kernel
theorem dX12_command_274 : decode cX12_command 274 = .ok (.getfield 9, 3) := by decide +kernel
theorem dX12_command_277 : decode cX12_command 277 = .ok (.bipush 7, 2) := by decide +kernel
theorem dX12_command_279 : decode cX12_command 279 = .ok (.iload_n 1, 1) := by decide +kernel
theorem dX12_command_280 : decode cX12_command 280 = .ok (.iastore, 1) := by decide +kernel
theorem dX12_command_281 : decode cX12_command 281 = .ok (.aload_n 0, 1) := by decide +kernel
theorem dX12_command_282 : decode cX12_command 282 = .ok (.getfield 9, 3) := by decide +kernel
theorem dX12_command_285 : decode cX12_command 285 = .ok (.bipush 8, 2) := by decide +kernel
theorem dX12_command_287 : decode cX12_command 287 = .ok (.iload_n 2, 1) := by decide +kernel
theorem dX12_command_288 : decode cX12_command 288 = .ok (.iastore, 1) := by decide +kernel
theorem dX12_command_289 : decode cX12_command 289 = .ok (.goto 7, 3) := by decide +kernel
theorem dX12_command_292 : decode cX12_command 292 = .ok (.aload_n 0, 1) := by decide +kernel
theorem dX12_command_293 : decode cX12_command 293 = .ok (.invokevirtual 288, 3) := by decide +kernel
theorem dX12_command_296 : decode cX12_command 296 = .ok (.return_, 1) := by decide +kernel
theorem dX12_bedCommand_0 : decode cX12_bedCommand 0 = .ok (.aload_n 0, 1) := by decide +kernel
theorem dX12_bedCommand_1 : decode cX12_bedCommand 1 = .ok (.iconst 0, 1) := by decide +kernel
theorem dX12_bedCommand_2 : decode cX12_bedCommand 2 = .ok (.aload_n 0, 1) := by decide +kernel
theorem dX12_bedCommand_3 : decode cX12_bedCommand 3 = .ok (.getfield 9, 3) := by decide +kernel
theorem dX12_bedCommand_6 : decode cX12_bedCommand 6 = .ok (.iconst 0, 1) := by decide +kernel
theorem dX12_bedCommand_7 : decode cX12_bedCommand 7 = .ok (.iaload, 1) := by decide +kernel
theorem dX12_bedCommand_8 : decode cX12_bedCommand 8 = .ok (.iconst 1, 1) := by decide +kernel
theorem dX12_bedCommand_9 : decode cX12_bedCommand 9 = .ok (.isub, 1) := by decide +kernel
theorem dX12_bedCommand_10 : decode cX12_bedCommand 10 = .ok (.invokevirtual 246, 3) := by decide +kernel
theorem dX12_bedCommand_13 : decode cX12_bedCommand 13 = .ok (.istore_n 1, 1) := by decide +kernel
theorem dX12_bedCommand_14 : decode cX12_bedCommand 14 = .ok (.aload_n 0, 1) := by decide +kernel
theorem dX12_bedCommand_15 : decode cX12_bedCommand 15 = .ok (.iconst 1, 1) := by decide +kernel
theorem dX12_bedCommand_16 : decode cX12_bedCommand 16 = .ok (.bipush 20, 2) := by decide +kernel
theorem dX12_bedCommand_18 : decode cX12_bedCommand 18 = .ok (.invokevirtual 246, 3) := by decide +kernel
theorem dX12_bedCommand_21 : decode cX12_bedCommand 21 = .ok (.istore_n 2, 1) := by decide +kernel
theorem dX12_bedCommand_22 : decode cX12_bedCommand 22 = .ok (.aload_n 0, 1) := by decide +kernel
theorem dX12_bedCommand_23 : decode cX12_bedCommand 23 = .ok (.iconst 0, 1) := by decide +kernel
theorem dX12_bedCommand_24 : decode cX12_bedCommand 24 = .ok (.bipush 99, 2) := by decide +kernel
theorem dX12_bedCommand_26 : decode cX12_bedCommand 26 = .ok (.invokevirtual 246, 3) := by decide +kernel
theorem dX12_bedCommand_29 : decode cX12_bedCommand 29 = .ok (.istore_n 3, 1) := by decide +kernel
theorem dX12_bedCommand_30 : decode cX12_bedCommand 30 = .ok (.aload_n 0, 1) := by decide +kernel
theorem dX12_bedCommand_31 : decode cX12_bedCommand 31 = .ok (.iload_n 3, 1) := by decide +kernel
theorem dX12_bedCommand_32 : decode cX12_bedCommand 32 = .ok (.bipush 99, 2) := by decide +kernel
theorem dX12_bedCommand_34 : decode cX12_bedCommand 34 = .ok (.invokevirtual 246, 3) := by decide +kernel
theorem dX12_bedCommand_37 : decode cX12_bedCommand 37 = .ok (.istore 4, 2) := by decide +kernel
theorem dX12_bedCommand_39 : decode cX12_bedCommand 39 = .ok (.aload_n 0, 1) := by decide +kernel
theorem dX12_bedCommand_40 : decode cX12_bedCommand 40 = .ok (.aload_n 0, 1) := by decide +kernel
theorem dX12_bedCommand_41 : decode cX12_bedCommand 41 = .ok (.getfield 9, 3) := by decide +kernel
theorem dX12_bedCommand_44 : decode cX12_bedCommand 44 = .ok (.iconst 1, 1) := by decide +kernel
theorem dX12_bedCommand_45 : decode cX12_bedCommand 45 = .ok (.iaload, 1) := by decide +kernel
theorem dX12_bedCommand_46 : decode cX12_bedCommand 46 = .ok (.bipush 8, 2) := by decide +kernel
theorem dX12_bedCommand_48 : decode cX12_bedCommand 48 = .ok (.if_icmp .ge 7, 3) := by decide +kernel
theorem dX12_bedCommand_51 : decode cX12_bedCommand 51 = .ok (.iconst 1, 1) := by decide +kernel
theorem dX12_bedCommand_52 : decode cX12_bedCommand 52 = .ok (.goto 4, 3) := by decide +kernel
theorem dX12_bedCommand_55 : decode cX12_bedCommand 55 = .ok (.iconst 0, 1) := by decide +kernel
theorem dX12_bedCommand_56 : decode cX12_bedCommand 56 = .ok (.invokevirtual 249, 3) := by decide +kernel
theorem dX12_bedCommand_59 : decode cX12_bedCommand 59 = .ok (.ifCond .eq 14, 3) := by decide +kernel
theorem dX12_bedCommand_62 : decode cX12_bedCommand 62 = .ok (.aload_n 0, 1) := by decide +kernel
theorem dX12_bedCommand_63 : decode cX12_bedCommand 63 = .ok (.iload_n 1, 1) := by decide +kernel
theorem dX12_bedCommand_64 : decode cX12_bedCommand 64 = .ok (.iload_n 2, 1) := by decide +kernel
theorem dX12_bedCommand_65 : decode cX12_bedCommand 65 = .ok (.iload_n 3, 1) := by decide +kernel
theorem dX12_bedCommand_66 : decode cX12_bedCommand 66 = .ok (.iload 4, 2) := by decide +kernel
theorem dX12_bedCommand_68 : decode cX12_bedCommand 68 = .ok (.invokevirtual 42, 3) := by decide +kernel
theorem dX12_bedCommand_71 : decode cX12_bedCommand 71 = .ok (.istore 5, 2) := by decide +kernel
theorem dX12_bedCommand_73 : decode cX12_bedCommand 73 = .ok (.return_, 1) := by decide +kernel
theorem dX12_sellCommand_0 : decode cX12_sellCommand 0 = .ok (.aload_n 0, 1) := by decide +kernel
theorem dX12_sellCommand_1 : decode cX12_sellCommand 1 = .ok (.iconst 1, 1) := by decide +kernel
theorem dX12_sellCommand_2 : decode cX12_sellCommand 2 = .ok (.aload_n 0, 1) := by decide +kernel
theorem dX12_sellCommand_3 : decode cX12_sellCommand 3 = .ok (.invokevirtual 153, 3) := by decide +kernel
theorem dX12_sellCommand_6 : decode cX12_sellCommand 6 = .ok (.invokevirtual 246, 3) := by decide +kernel
theorem dX12_sellCommand_9 : decode cX12_sellCommand 9 = .ok (.istore_n 1, 1) := by decide +kernel
theorem dX12_sellCommand_10 : decode cX12_sellCommand 10 = .ok (.aload_n 0, 1) := by decide +kernel
theorem dX12_sellCommand_11 : decode cX12_sellCommand 11 = .ok (.aload_n 0, 1) := by decide +kernel
theorem dX12_sellCommand_12 : decode cX12_sellCommand 12 = .ok (.invokevirtual 81, 3) := by decide +kernel
theorem dX12_sellCommand_15 : decode cX12_sellCommand 15 = .ok (.bipush 99, 2) := by decide +kernel
theorem dX12_sellCommand_17 : decode cX12_sellCommand 17 = .ok (.invokevirtual 246, 3) := by decide +kernel
theorem dX12_sellCommand_20 : decode cX12_sellCommand 20 = .ok (.istore_n 2, 1) := by decide +kernel
theorem dX12_sellCommand_21 : decode cX12_sellCommand 21 = .ok (.aload_n 0, 1) := by decide +kernel
theorem dX12_sellCommand_22 : decode cX12_sellCommand 22 = .ok (.iconst 1, 1) := by decide +kernel
theorem dX12_sellCommand_23 : decode cX12_sellCommand 23 = .ok (.bipush 14, 2) := by decide +kernel
theorem dX12_sellCommand_25 : decode cX12_sellCommand 25 = .ok (.invokevirtual 246, 3) := by decide +kernel
theorem dX12_sellCommand_28 : decode cX12_sellCommand 28 = .ok (.istore_n 3, 1) := by decide +kernel
theorem dX12_sellCommand_29 : decode cX12_sellCommand 29 = .ok (.aload_n 0, 1) := by decide +kernel
theorem dX12_sellCommand_30 : decode cX12_sellCommand 30 = .ok (.ldc_w 291, 3) := by decide +kernel
theorem dX12_sellCommand_33 : decode cX12_sellCommand 33 = .ok (.invokevirtual 255, 3) := by decide +kernel
theorem dX12_sellCommand_36 : decode cX12_sellCommand 36 = .ok (.ifCond .eq 7, 3) := by decide +kernel
theorem dX12_sellCommand_39 : decode cX12_sellCommand 39 = .ok (.iconst 1, 1) := by decide +kernel
theorem dX12_sellCommand_40 : decode cX12_sellCommand 40 = .ok (.goto 4, 3) := by decide +kernel
theorem dX12_sellCommand_43 : decode cX12_sellCommand 43 = .ok (.iconst 0, 1) := by decide +kernel
theorem dX12_sellCommand_44 : decode cX12_sellCommand 44 = .ok (.istore 4, 2) := by decide +kernel
theorem dX12_sellCommand_46 : decode cX12_sellCommand 46 = .ok (.aload_n 0, 1) := by decide +kernel
theorem dX12_sellCommand_47 : decode cX12_sellCommand 47 = .ok (.ldc_w 293, 3) := by decide +kernel
theorem dX12_sellCommand_50 : decode cX12_sellCommand 50 = .ok (.invokevirtual 255, 3) := by decide +kernel
theorem dX12_sellCommand_53 : decode cX12_sellCommand 53 = .ok (.ifCond .ne 18, 3) := by decide +kernel
theorem dX12_sellCommand_56 : decode cX12_sellCommand 56 = .ok (.aload_n 0, 1) := by decide +kernel
theorem dX12_sellCommand_57 : decode cX12_sellCommand 57 = .ok (.ldc_w 291, 3) := by decide +kernel
theorem dX12_sellCommand_60 : decode cX12_sellCommand 60 = .ok (.invokevirtual 255, 3) := by decide +kernel
theorem dX12_sellCommand_63 : decode cX12_sellCommand 63 = .ok (.ifCond .ne 8, 3) := by decide +kernel
theorem dX12_sellCommand_66 : decode cX12_sellCommand 66 = .ok (.aload_n 0, 1) := by decide +kernel
theorem dX12_sellCommand_67 : decode cX12_sellCommand 67 = .ok (.iconst 1, 1) := by decide +kernel
theorem dX12_sellCommand_68 : decode cX12_sellCommand 68 = .ok (.invokevirtual 237, 3) := by decide +kernel
theorem dX12_sellCommand_71 : decode cX12_sellCommand 71 = .ok (.aload_n 0, 1) := by decide +kernel
theorem dX12_sellCommand_72 : decode cX12_sellCommand 72 = .ok (.invokevirtual 243, 3) := by decide +kernel
theorem dX12_sellCommand_75 : decode cX12_sellCommand 75 = .ok (.aload_n 0, 1) := by decide +kernel
theorem dX12_sellCommand_76 : decode cX12_sellCommand 76 = .ok (.aload_n 0, 1) := by decide +kernel
theorem dX12_sellCommand_77 : decode cX12_sellCommand 77 = .ok (.invokevirtual 159, 3) := by decide +kernel
theorem dX12_sellCommand_80 : decode cX12_sellCommand 80 = .ok (.ifCond .ne 7, 3) := by decide +kernel
theorem dX12_sellCommand_83 : decode cX12_sellCommand 83 = .ok (.iconst 1, 1) := by decide +kernel
theorem dX12_sellCommand_84 : decode cX12_sellCommand 84 = .ok (.goto 4, 3) := by decide +kernel
theorem dX12_sellCommand_87 : decode cX12_sellCommand 87 = .ok (.iconst 0, 1) := by decide +kernel
theorem dX12_sellCommand_88 : decode cX12_sellCommand 88 = .ok (.invokevirtual 249, 3) := by decide +kernel
theorem dX12_sellCommand_91 : decode cX12_sellCommand 91 = .ok (.ifCond .eq 14, 3) := by decide +kernel
theorem dX12_sellCommand_94 : decode cX12_sellCommand 94 = .ok (.aload_n 0, 1) := by decide +kernel
theorem dX12_sellCommand_95 : decode cX12_sellCommand 95 = .ok (.iload_n 1, 1) := by decide +kernel
theorem dX12_sellCommand_96 : decode cX12_sellCommand 96 = .ok (.iload_n 2, 1) := by decide +kernel
theorem dX12_sellCommand_97 : decode cX12_sellCommand 97 = .ok (.iload_n 3, 1) := by decide +kernel
theorem dX12_sellCommand_98 : decode cX12_sellCommand 98 = .ok (.iload 4, 2) := by decide +kernel
theorem dX12_sellCommand_100 : decode cX12_sellCommand 100 = .ok (.invokevirtual 46, 3) := by decide +kernel
theorem dX12_sellCommand_103 : decode cX12_sellCommand 103 = .ok (.istore 5, 2) := by decide +kernel
theorem dX12_sellCommand_105 : decode cX12_sellCommand 105 = .ok (.return_, 1) := by decide +kernel
theorem dX12_passCommand_0 : decode cX12_passCommand 0 = .ok (.aload_n 0, 1) := by decide +kernel
theorem dX12_passCommand_1 : decode cX12_passCommand 1 = .ok (.ldc_w 295, 3) := by decide +kernel
theorem dX12_passCommand_4 : decode cX12_passCommand 4 = .ok (.invokevirtual 255, 3) := by decide +kernel
theorem dX12_passCommand_7 : decode cX12_passCommand 7 = .ok (.ifCond .eq 61, 3) := by decide +kernel
theorem dX12_passCommand_10 : decode cX12_passCommand 10 = .ok (.aload_n 0, 1) := by decide +kernel
theorem dX12_passCommand_11 : decode cX12_passCommand 11 = .ok (.invokevirtual 234, 3) := by decide +kernel
theorem dX12_passCommand_14 : decode cX12_passCommand 14 = .ok (.aload_n 0, 1) := by decide +kernel
theorem dX12_passCommand_15 : decode cX12_passCommand 15 = .ok (.invokevirtual 297, 3) := by decide +kernel
theorem dX12_passCommand_18 : decode cX12_passCommand 18 = .ok (.istore_n 1, 1) := by decide +kernel
theorem dX12_passCommand_19 : decode cX12_passCommand 19 = .ok (.aload_n 0, 1) := by decide +kernel
theorem dX12_passCommand_20 : decode cX12_passCommand 20 = .ok (.iconst 1, 1) := by decide +kernel
theorem dX12_passCommand_21 : decode cX12_passCommand 21 = .ok (.sipush 9999, 3) := by decide +kernel
theorem dX12_passCommand_24 : decode cX12_passCommand 24 = .ok (.invokevirtual 246, 3) := by decide +kernel
theorem dX12_passCommand_27 : decode cX12_passCommand 27 = .ok (.istore_n 2, 1) := by decide +kernel
theorem dX12_passCommand_28 : decode cX12_passCommand 28 = .ok (.aload_n 0, 1) := by decide +kernel
theorem dX12_passCommand_29 : decode cX12_passCommand 29 = .ok (.aload_n 0, 1) := by decide +kernel
theorem dX12_passCommand_30 : decode cX12_passCommand 30 = .ok (.invokevirtual 231, 3) := by decide +kernel
theorem dX12_passCommand_33 : decode cX12_passCommand 33 = .ok (.ifCond .eq 18, 3) := by decide +kernel
theorem dX12_passCommand_36 : decode cX12_passCommand 36 = .ok (.aload_n 0, 1) := by decide +kernel
theorem dX12_passCommand_37 : decode cX12_passCommand 37 = .ok (.iload_n 1, 1) := by decide +kernel
theorem dX12_passCommand_38 : decode cX12_passCommand 38 = .ok (.bipush 11, 2) := by decide +kernel
theorem dX12_passCommand_40 : decode cX12_passCommand 40 = .ok (.invokevirtual 88, 3) := by decide +kernel
theorem dX12_passCommand_43 : decode cX12_passCommand 43 = .ok (.iload_n 2, 1) := by decide +kernel
theorem dX12_passCommand_44 : decode cX12_passCommand 44 = .ok (.if_icmp .lt 7, 3) := by decide +kernel
theorem dX12_passCommand_47 : decode cX12_passCommand 47 = .ok (.iconst 1, 1) := by decide +kernel
theorem dX12_passCommand_48 : decode cX12_passCommand 48 = .ok (.goto 4, 3) := by decide +kernel
theorem dX12_passCommand_51 : decode cX12_passCommand 51 = .ok (.iconst 0, 1) := by decide +kernel
theorem dX12_passCommand_52 : decode cX12_passCommand 52 = .ok (.invokevirtual 249, 3) := by decide +kernel
theorem dX12_passCommand_55 : decode cX12_passCommand 55 = .ok (.ifCond .eq 10, 3) := by decide +kernel
theorem dX12_passCommand_58 : decode cX12_passCommand 58 = .ok (.aload_n 0, 1) := by decide +kernel
theorem dX12_passCommand_59 : decode cX12_passCommand 59 = .ok (.iload_n 1, 1) := by decide +kernel
theorem dX12_passCommand_60 : decode cX12_passCommand 60 = .ok (.iload_n 2, 1) := by decide +kernel
theorem dX12_passCommand_61 : decode cX12_passCommand 61 = .ok (.invokevirtual 126, 3) := by decide +kernel
theorem dX12_passCommand_64 : decode cX12_passCommand 64 = .ok (.istore_n 3, 1) := by decide +kernel
theorem dX12_passCommand_65 : decode cX12_passCommand 65 = .ok (.goto 177, 3) := by decide +kernel
theorem dX12_passCommand_68 : decode cX12_passCommand 68 = .ok (.aload_n 0, 1) := by decide +kernel
theorem dX12_passCommand_69 : decode cX12_passCommand 69 = .ok (.ldc_w 300, 3) := by decide +kernel
theorem dX12_passCommand_72 : decode cX12_passCommand 72 = .ok (.invokevirtual 255, 3) := by decide +kernel
theorem dX12_passCommand_75 : decode cX12_passCommand 75 = .ok (.ifCond .eq 50, 3) := by decide +kernel
theorem dX12_passCommand_78 : decode cX12_passCommand 78 = .ok (.aload_n 0, 1) := by decide +kernel
theorem dX12_passCommand_79 : decode cX12_passCommand 79 = .ok (.invokevirtual 234, 3) := by decide +kernel
theorem dX12_passCommand_82 : decode cX12_passCommand 82 = .ok (.aload_n 0, 1) := by decide +kernel
theorem dX12_passCommand_83 : decode cX12_passCommand 83 = .ok (.invokevirtual 297, 3) := by decide +kernel
theorem dX12_passCommand_86 : decode cX12_passCommand 86 = .ok (.istore_n 1, 1) := by decide +kernel
theorem dX12_passCommand_87 : decode cX12_passCommand 87 = .ok (.aload_n 0, 1) := by decide +kernel
theorem dX12_passCommand_88 : decode cX12_passCommand 88 = .ok (.aload_n 0, 1) := by decide +kernel
theorem dX12_passCommand_89 : decode cX12_passCommand 89 = .ok (.invokevirtual 231, 3) := by decide +kernel
theorem dX12_passCommand_92 : decode cX12_passCommand 92 = .ok (.ifCond .eq 17, 3) := by decide +kernel
theorem dX12_passCommand_95 : decode cX12_passCommand 95 = .ok (.aload_n 0, 1) := by decide +kernel
theorem dX12_passCommand_96 : decode cX12_passCommand 96 = .ok (.iload_n 1, 1) := by decide +kernel
theorem dX12_passCommand_97 : decode cX12_passCommand 97 = .ok (.iconst 5, 1) := by decide +kernel
theorem dX12_passCommand_98 : decode cX12_passCommand 98 = .ok (.invokevirtual 88, 3) := by decide +kernel
theorem dX12_passCommand_101 : decode cX12_passCommand 101 = .ok (.iconst (-1), 1) := by decide +kernel
theorem dX12_passCommand_102 : decode cX12_passCommand 102 = .ok (.if_icmp .eq 7, 3) := by decide +kernel
theorem dX12_passCommand_105 : decode cX12_passCommand 105 = .ok (.iconst 1, 1) := by decide +kernel
theorem dX12_passCommand_106 : decode cX12_passCommand 106 = .ok (.goto 4, 3) := by decide +kernel
theorem dX12_passCommand_109 : decode cX12_passCommand 109 = .ok (.iconst 0, 1) := by decide +kernel
theorem dX12_passCommand_110 : decode cX12_passCommand 110 = .ok (.invokevirtual 249, 3) := by decide +kernel
theorem dX12_passCommand_113 : decode cX12_passCommand 113 = .ok (.ifCond .eq 9, 3) := by decide +kernel
theorem dX12_passCommand_116 : decode cX12_passCommand 116 = .ok (.aload_n 0, 1) := by decide +kernel
theorem dX12_passCommand_117 : decode cX12_passCommand 117 = .ok (.iload_n 1, 1) := by decide +kernel
theorem dX12_passCommand_118 : decode cX12_passCommand 118 = .ok (.invokevirtual 59, 3) := by decide +kernel
theorem dX12_passCommand_121 : decode cX12_passCommand 121 = .ok (.istore_n 2, 1) := by decide +kernel
theorem dX12_passCommand_122 : decode cX12_passCommand 122 = .ok (.goto 120, 3) := by decide +kernel
theorem dX12_passCommand_125 : decode cX12_passCommand 125 = .ok (.aload_n 0, 1) := by decide +kernel
theorem dX12_passCommand_126 : decode cX12_passCommand 126 = .ok (.ldc_w 302, 3) := by decide +kernel
theorem dX12_passCommand_129 : decode cX12_passCommand 129 = .ok (.invokevirtual 255, 3) := by decide +kernel
theorem dX12_passCommand_132 : decode cX12_passCommand 132 = .ok (.ifCond .eq 48, 3) := by decide +kernel
theorem dX12_passCommand_135 : decode cX12_passCommand 135 = .ok (.aload_n 0, 1) := by decide +kernel
theorem dX12_passCommand_136 : decode cX12_passCommand 136 = .ok (.invokevirtual 234, 3) := by decide +kernel
theorem dX12_passCommand_139 : decode cX12_passCommand 139 = .ok (.aload_n 0, 1) := by decide +kernel
theorem dX12_passCommand_140 : decode cX12_passCommand 140 = .ok (.invokevirtual 297, 3) := by decide +kernel
theorem dX12_passCommand_143 : decode cX12_passCommand 143 = .ok (.istore_n 1, 1) := by decide +kernel
theorem dX12_passCommand_144 : decode cX12_passCommand 144 = .ok (.aload_n 0, 1) := by decide +kernel
theorem dX12_passCommand_145 : decode cX12_passCommand 145 = .ok (.aload_n 0, 1) := by decide +kernel
theorem dX12_passCommand_146 : decode cX12_passCommand 146 = .ok (.invokevirtual 231, 3) := by decide +kernel
theorem dX12_passCommand_149 : decode cX12_passCommand 149 = .ok (.ifCond .eq 15, 3) := by decide +kernel
theorem dX12_passCommand_152 : decode cX12_passCommand 152 = .ok (.aload_n 0, 1) := by decide +kernel
theorem dX12_passCommand_153 : decode cX12_passCommand 153 = .ok (.iload_n 1, 1) := by decide +kernel
theorem dX12_passCommand_154 : decode cX12_passCommand 154 = .ok (.invokevirtual 172, 3) := by decide +kernel
theorem dX12_passCommand_157 : decode cX12_passCommand 157 = .ok (.ifCond .ne 7, 3) := by decide +kernel
theorem dX12_passCommand_160 : decode cX12_passCommand 160 = .ok (.iconst 1, 1) := by decide +kernel
theorem dX12_passCommand_161 : decode cX12_passCommand 161 = .ok (.goto 4, 3) := by decide +kernel
theorem dX12_passCommand_164 : decode cX12_passCommand 164 = .ok (.iconst 0, 1) := by decide +kernel
theorem dX12_passCommand_165 : decode cX12_passCommand 165 = .ok (.invokevirtual 249, 3) := by decide +kernel
theorem dX12_passCommand_168 : decode cX12_passCommand 168 = .ok (.ifCond .eq 9, 3) := by decide +kernel
theorem dX12_passCommand_171 : decode cX12_passCommand 171 = .ok (.aload_n 0, 1) := by decide +kernel
theorem dX12_passCommand_172 : decode cX12_passCommand 172 = .ok (.iload_n 1, 1) := by decide +kernel
theorem dX12_passCommand_173 : decode cX12_passCommand 173 = .ok (.invokevirtual 175, 3) := by decide +kernel
theorem dX12_passCommand_176 : decode cX12_passCommand 176 = .ok (.istore_n 2, 1) := by decide +kernel
theorem dX12_passCommand_177 : decode cX12_passCommand 177 = .ok (.goto 65, 3) := by decide +kernel
theorem dX12_passCommand_180 : decode cX12_passCommand 180 = .ok (.aload_n 0, 1) := by decide +kernel
theorem dX12_passCommand_181 : decode cX12_passCommand 181 = .ok (.ldc_w 304, 3) := by decide +kernel
theorem dX12_passCommand_184 : decode cX12_passCommand 184 = .ok (.invokevirtual 255, 3) := by decide +kernel
theorem dX12_passCommand_187 : decode cX12_passCommand 187 = .ok (.ifCond .eq 50, 3) := by decide +kernel
theorem dX12_passCommand_190 : decode cX12_passCommand 190 = .ok (.aload_n 0, 1) := by decide +kernel
theorem dX12_passCommand_191 : decode cX12_passCommand 191 = .ok (.invokevirtual 234, 3) := by decide +kernel
theorem dX12_passCommand_194 : decode cX12_passCommand 194 = .ok (.aload_n 0, 1) := by decide +kernel
theorem dX12_passCommand_195 : decode cX12_passCommand 195 = .ok (.invokevirtual 297, 3) := by decide +kernel
theorem dX12_passCommand_198 : decode cX12_passCommand 198 = .ok (.istore_n 1, 1) := by decide +kernel
theorem dX12_passCommand_199 : decode cX12_passCommand 199 = .ok (.aload_n 0, 1) := by decide +kernel
theorem dX12_passCommand_200 : decode cX12_passCommand 200 = .ok (.aload_n 0, 1) := by decide +kernel
theorem dX12_passCommand_201 : decode cX12_passCommand 201 = .ok (.invokevirtual 231, 3) := by decide +kernel
theorem dX12_passCommand_204 : decode cX12_passCommand 204 = .ok (.ifCond .eq 17, 3) := by decide +kernel
theorem dX12_passCommand_207 : decode cX12_passCommand 207 = .ok (.aload_n 0, 1) := by decide +kernel
theorem dX12_passCommand_208 : decode cX12_passCommand 208 = .ok (.iload_n 1, 1) := by decide +kernel
theorem dX12_passCommand_209 : decode cX12_passCommand 209 = .ok (.bipush 6, 2) := by decide +kernel
theorem dX12_passCommand_211 : decode cX12_passCommand 211 = .ok (.invokevirtual 88, 3) := by decide +kernel
theorem dX12_passCommand_214 : decode cX12_passCommand 214 = .ok (.ifCond .ne 7, 3) := by decide +kernel
theorem dX12_passCommand_217 : decode cX12_passCommand 217 = .ok (.iconst 1, 1) := by decide +kernel
theorem dX12_passCommand_218 : decode cX12_passCommand 218 = .ok (.goto 4, 3) := by decide +kernel
theorem dX12_passCommand_221 : decode cX12_passCommand 221 = .ok (.iconst 0, 1) := by decide +kernel
theorem dX12_passCommand_222 : decode cX12_passCommand 222 = .ok (.invokevirtual 249, 3) := by decide +kernel
theorem dX12_passCommand_225 : decode cX12_passCommand 225 = .ok (.ifCond .eq 9, 3) := by decide +kernel
theorem dX12_passCommand_228 : decode cX12_passCommand 228 = .ok (.aload_n 0, 1) := by decide +kernel
theorem dX12_passCommand_229 : decode cX12_passCommand 229 = .ok (.iload_n 1, 1) := by decide +kernel
theorem dX12_passCommand_230 : decode cX12_passCommand 230 = .ok (.invokevirtual 178, 3) := by decide +kernel
theorem dX12_passCommand_233 : decode cX12_passCommand 233 = .ok (.istore_n 2, 1) := by decide +kernel
theorem dX12_passCommand_234 : decode cX12_passCommand 234 = .ok (.goto 8, 3) := by decide +kernel
theorem dX12_passCommand_237 : decode cX12_passCommand 237 = .ok (.aload_n 0, 1) := by decide +kernel
theorem dX12_passCommand_238 : decode cX12_passCommand 238 = .ok (.iconst 1, 1) := by decide +kernel
theorem dX12_passCommand_239 : decode cX12_passCommand 239 = .ok (.invokevirtual 237, 3) := by decide +kernel
theorem dX12_passCommand_242 : decode cX12_passCommand 242 = .ok (.return_, 1) := by decide +kernel
theorem dX12_type_0 : decode cX12_type 0 = .ok (.bipush 24, 2) := by decide +kernel
theorem dX12_type_2 : decode cX12_type 2 = .ok (.istore_n 2, 1) := by decide +kernel
theorem dX12_type_3 : decode cX12_type 3 = .ok (.iload_n 2, 1) := by decide +kernel
theorem dX12_type_4 : decode cX12_type 4 = .ok (.ifCond .lt 35, 3) := by decide +kernel
theorem dX12_type_7 : decode cX12_type 7 = .ok (.aload_n 0, 1) := by decide +kernel
theorem dX12_type_8 : decode cX12_type 8 = .ok (.getfield 24, 3) := by decide +kernel
theorem dX12_type_11 : decode cX12_type 11 = .ok (.aload_n 0, 1) := by decide +kernel
theorem dX12_type_12 : decode cX12_type 12 = .ok (.getfield 195, 3) := by decide +kernel
theorem dX12_type_15 : decode cX12_type 15 = .ok (.iload_n 1, 1) := by decide +kernel
theorem dX12_type_16 : decode cX12_type 16 = .ok (.iload_n 2, 1) := by decide +kernel
theorem dX12_type_17 : decode cX12_type 17 = .ok (.iushr, 1) := by decide +kernel
theorem dX12_type_18 : decode cX12_type 18 = .ok (.sipush 255, 3) := by decide +kernel
theorem dX12_type_21 : decode cX12_type 21 = .ok (.iand, 1) := by decide +kernel
theorem dX12_type_22 : decode cX12_type 22 = .ok (.iastore, 1) := by decide +kernel
theorem dX12_type_23 : decode cX12_type 23 = .ok (.aload_n 0, 1) := by decide +kernel
theorem dX12_type_24 : decode cX12_type 24 = .ok (.dup, 1) := by decide +kernel
theorem dX12_type_25 : decode cX12_type 25 = .ok (.getfield 195, 3) := by decide +kernel
theorem dX12_type_28 : decode cX12_type 28 = .ok (.iconst 1, 1) := by decide +kernel
theorem dX12_type_29 : decode cX12_type 29 = .ok (.iadd, 1) := by decide +kernel
theorem dX12_type_30 : decode cX12_type 30 = .ok (.putfield 195, 3) := by decide +kernel
theorem dX12_type_33 : decode cX12_type 33 = .ok (.iinc 2 (-8), 3) := by decide +kernel
theorem dX12_type_36 : decode cX12_type 36 = .ok (.goto (-33), 3) := by decide +kernel
theorem dX12_type_39 : decode cX12_type 39 = .ok (.return_, 1) := by decide +kernel
theorem dX12_append_0 : decode cX12_append 0 = .ok (.aload_n 0, 1) := by decide +kernel
theorem dX12_append_1 : decode cX12_append 1 = .ok (.iconst 0, 1) := by decide +kernel
theorem dX12_append_2 : decode cX12_append 2 = .ok (.putfield 63, 3) := by decide +kernel
theorem dX12_append_5 : decode cX12_append 5 = .ok (.aload_n 0, 1) := by decide +kernel
theorem dX12_append_6 : decode cX12_append 6 = .ok (.getfield 195, 3) := by decide +kernel
theorem dX12_append_9 : decode cX12_append 9 = .ok (.bipush 20, 2) := by decide +kernel
theorem dX12_append_11 : decode cX12_append 11 = .ok (.iadd, 1) := by decide +kernel
theorem dX12_append_12 : decode cX12_append 12 = .ok (.sipush 500, 3) := by decide +kernel
theorem dX12_append_15 : decode cX12_append 15 = .ok (.if_icmp .le 6, 3) := by decide +kernel
theorem dX12_append_18 : decode cX12_append 18 = .ok (.bipush (-2), 2) := by decide +kernel
theorem dX12_append_20 : decode cX12_append 20 = .ok (.ireturn, 1) := by decide +kernel
theorem dX12_append_21 : decode cX12_append 21 = .ok (.aload_n 0, 1) := by decide +kernel
theorem dX12_append_22 : decode cX12_append 22 = .ok (.iload_n 1, 1) := by decide +kernel
theorem dX12_append_23 : decode cX12_append 23 = .ok (.invokevirtual 305, 3) := by decide +kernel
theorem dX12_append_26 : decode cX12_append 26 = .ok (.aload_n 0, 1) := by decide +kernel
theorem dX12_append_27 : decode cX12_append 27 = .ok (.iload_n 2, 1) := by decide +kernel
theorem dX12_append_28 : decode cX12_append 28 = .ok (.invokevirtual 305, 3) := by decide +kernel
theorem dX12_append_31 : decode cX12_append 31 = .ok (.aload_n 0, 1) := by decide +kernel
theorem dX12_append_32 : decode cX12_append 32 = .ok (.iload_n 3, 1) := by decide +kernel
theorem dX12_append_33 : decode cX12_append 33 = .ok (.invokevirtual 305, 3) := by decide +kernel
theorem dX12_append_36 : decode cX12_append 36 = .ok (.aload_n 0, 1) := by decide +kernel
theorem dX12_append_37 : decode cX12_append 37 = .ok (.iload 4, 2) := by decide +kernel
theorem dX12_append_39 : decode cX12_append 39 = .ok (.invokevirtual 305, 3) := by decide +kernel
theorem dX12_append_42 : decode cX12_append 42 = .ok (.aload_n 0, 1) := by decide +kernel
theorem dX12_append_43 : decode cX12_append 43 = .ok (.iload 5, 2) := by decide +kernel
theorem dX12_append_45 : decode cX12_append 45 = .ok (.invokevirtual 305, 3) := by decide +kernel
theorem dX12_append_48 : decode cX12_append 48 = .ok (.aload_n 0, 1) := by decide +kernel
theorem dX12_append_49 : decode cX12_append 49 = .ok (.getfield 195, 3) := by decide +kernel
theorem dX12_append_52 : decode cX12_append 52 = .ok (.ireturn, 1) := by decide +kernel
theorem dX12_truncateInput_0 : decode cX12_truncateInput 0 = .ok (.aload_n 0, 1) := by decide +kernel
theorem dX12_truncateInput_1 : decode cX12_truncateInput 1 = .ok (.iconst 0, 1) := by decide +kernel
theorem dX12_truncateInput_2 : decode cX12_truncateInput 2 = .ok (.putfield 63, 3) := by decide +kernel
theorem dX12_truncateInput_5 : decode cX12_truncateInput 5 = .ok (.aload_n 0, 1) := by decide +kernel
theorem dX12_truncateInput_6 : decode cX12_truncateInput 6 = .ok (.iload_n 1, 1) := by decide +kernel
theorem dX12_truncateInput_7 : decode cX12_truncateInput 7 = .ok (.iconst 0, 1) := by decide +kernel
theorem dX12_truncateInput_8 : decode cX12_truncateInput 8 = .ok (.aload_n 0, 1) := by decide +kernel
theorem dX12_truncateInput_9 : decode cX12_truncateInput 9 = .ok (.getfield 195, 3) := by decide +kernel
theorem dX12_truncateInput_12 : decode cX12_truncateInput 12 = .ok (.iconst 1, 1) := by decide +kernel
theorem dX12_truncateInput_13 : decode cX12_truncateInput 13 = .ok (.invokevirtual 73, 3) := by decide +kernel
theorem dX12_truncateInput_16 : decode cX12_truncateInput 16 = .ok (.ifCond .eq 5, 3) := by decide +kernel
theorem dX12_truncateInput_19 : decode cX12_truncateInput 19 = .ok (.iconst 0, 1) := by decide +kernel
theorem dX12_truncateInput_20 : decode cX12_truncateInput 20 = .ok (.ireturn, 1) := by decide +kernel
theorem dX12_truncateInput_21 : decode cX12_truncateInput 21 = .ok (.aload_n 0, 1) := by decide +kernel
theorem dX12_truncateInput_22 : decode cX12_truncateInput 22 = .ok (.iload_n 1, 1) := by decide +kernel
theorem dX12_truncateInput_23 : decode cX12_truncateInput 23 = .ok (.putfield 195, 3) := by decide +kernel
theorem dX12_truncateInput_26 : decode cX12_truncateInput 26 = .ok (.aload_n 0, 1) := by decide +kernel
theorem dX12_truncateInput_27 : decode cX12_truncateInput 27 = .ok (.getfield 195, 3) := by decide +kernel
theorem dX12_truncateInput_30 : decode cX12_truncateInput 30 = .ok (.ireturn, 1) := by decide +kernel
theorem dX12_scriptErrorKind_0 : decode cX12_scriptErrorKind 0 = .ok (.aload_n 0, 1) := by decide +kernel
theorem dX12_scriptErrorKind_1 : decode cX12_scriptErrorKind 1 = .ok (.iconst 0, 1) := by decide +kernel
theorem dX12_scriptErrorKind_2 : decode cX12_scriptErrorKind 2 = .ok (.putfield 63, 3) := by decide +kernel
theorem dX12_scriptErrorKind_5 : decode cX12_scriptErrorKind 5 = .ok (.aload_n 0, 1) := by decide +kernel
theorem dX12_scriptErrorKind_6 : decode cX12_scriptErrorKind 6 = .ok (.getfield 265, 3) := by decide +kernel
theorem dX12_scriptErrorKind_9 : decode cX12_scriptErrorKind 9 = .ok (.ireturn, 1) := by decide +kernel
theorem dX12_scriptErrorOffset_0 : decode cX12_scriptErrorOffset 0 = .ok (.aload_n 0, 1) := by decide +kernel
theorem dX12_scriptErrorOffset_1 : decode cX12_scriptErrorOffset 1 = .ok (.iconst 0, 1) := by decide +kernel
theorem dX12_scriptErrorOffset_2 : decode cX12_scriptErrorOffset 2 = .ok (.putfield 63, 3) := by decide +kernel
theorem dX12_scriptErrorOffset_5 : decode cX12_scriptErrorOffset 5 = .ok (.aload_n 0, 1) := by decide +kernel
theorem dX12_scriptErrorOffset_6 : decode cX12_scriptErrorOffset 6 = .ok (.getfield 31, 3) := by decide +kernel
theorem dX12_scriptErrorOffset_9 : decode cX12_scriptErrorOffset 9 = .ok (.ireturn, 1) := by decide +kernel
theorem dX12_told_0 : decode cX12_told 0 = .ok (.aload_n 0, 1) := by decide +kernel
theorem dX12_told_1 : decode cX12_told 1 = .ok (.iconst 0, 1) := by decide +kernel
theorem dX12_told_2 : decode cX12_told 2 = .ok (.putfield 63, 3) := by decide +kernel
theorem dX12_told_5 : decode cX12_told 5 = .ok (.aload_n 0, 1) := by decide +kernel
theorem dX12_told_6 : decode cX12_told 6 = .ok (.getfield 9, 3) := by decide +kernel
theorem dX12_told_9 : decode cX12_told 9 = .ok (.iload_n 1, 1) := by decide +kernel
theorem dX12_told_10 : decode cX12_told 10 = .ok (.iaload, 1) := by decide +kernel
theorem dX12_told_11 : decode cX12_told 11 = .ok (.ireturn, 1) := by decide +kernel
theorem dX12_time_0 : decode cX12_time 0 = .ok (.aload_n 0, 1) := by decide +kernel
theorem dX12_time_1 : decode cX12_time 1 = .ok (.iconst 4, 1) := by decide +kernel
theorem dX12_time_2 : decode cX12_time 2 = .ok (.invokevirtual 308, 3) := by decide +kernel
theorem dX12_time_5 : decode cX12_time 5 = .ok (.ireturn, 1) := by decide +kernel
theorem dX12_day_0 : decode cX12_day 0 = .ok (.aload_n 0, 1) := by decide +kernel
theorem dX12_day_1 : decode cX12_day 1 = .ok (.iconst 0, 1) := by decide +kernel
theorem dX12_day_2 : decode cX12_day 2 = .ok (.putfield 63, 3) := by decide +kernel
theorem dX12_day_5 : decode cX12_day 5 = .ok (.aload_n 0, 1) := by decide +kernel
theorem dX12_day_6 : decode cX12_day 6 = .ok (.invokevirtual 81, 3) := by decide +kernel
theorem dX12_day_9 : decode cX12_day 9 = .ok (.ireturn, 1) := by decide +kernel
theorem dX12_isOpen_0 : decode cX12_isOpen 0 = .ok (.aload_n 0, 1) := by decide +kernel
theorem dX12_isOpen_1 : decode cX12_isOpen 1 = .ok (.iconst 0, 1) := by decide +kernel
theorem dX12_isOpen_2 : decode cX12_isOpen 2 = .ok (.putfield 63, 3) := by decide +kernel
theorem dX12_isOpen_5 : decode cX12_isOpen 5 = .ok (.aload_n 0, 1) := by decide +kernel
theorem dX12_isOpen_6 : decode cX12_isOpen 6 = .ok (.aload_n 0, 1) := by decide +kernel
theorem dX12_isOpen_7 : decode cX12_isOpen 7 = .ok (.getfield 9, 3) := by decide +kernel
theorem dX12_isOpen_10 : decode cX12_isOpen 10 = .ok (.iconst 4, 1) := by decide +kernel
theorem dX12_isOpen_11 : decode cX12_isOpen 11 = .ok (.iaload, 1) := by decide +kernel
theorem dX12_isOpen_12 : decode cX12_isOpen 12 = .ok (.bipush 96, 2) := by decide +kernel
theorem dX12_isOpen_14 : decode cX12_isOpen 14 = .ok (.irem, 1) := by decide +kernel
theorem dX12_isOpen_15 : decode cX12_isOpen 15 = .ok (.invokevirtual 77, 3) := by decide +kernel
theorem dX12_isOpen_18 : decode cX12_isOpen 18 = .ok (.ireturn, 1) := by decide +kernel
theorem dX12_ticksUntilOpen_0 : decode cX12_ticksUntilOpen 0 = .ok (.aload_n 0, 1) := by decide +kernel
theorem dX12_ticksUntilOpen_1 : decode cX12_ticksUntilOpen 1 = .ok (.iconst 0, 1) := by decide +kernel
theorem dX12_ticksUntilOpen_2 : decode cX12_ticksUntilOpen 2 = .ok (.putfield 63, 3) := by decide +kernel
theorem dX12_ticksUntilOpen_5 : decode cX12_ticksUntilOpen 5 = .ok (.iconst 0, 1) := by decide +kernel
theorem dX12_ticksUntilOpen_6 : decode cX12_ticksUntilOpen 6 = .ok (.istore_n 1, 1) := by decide +kernel
theorem dX12_ticksUntilOpen_7 : decode cX12_ticksUntilOpen 7 = .ok (.iload_n 1, 1) := by decide +kernel
theorem dX12_ticksUntilOpen_8 : decode cX12_ticksUntilOpen 8 = .ok (.bipush 96, 2) := by decide +kernel
theorem dX12_ticksUntilOpen_10 : decode cX12_ticksUntilOpen 10 = .ok (.if_icmp .ge 29, 3) := by decide +kernel
theorem dX12_ticksUntilOpen_13 : decode cX12_ticksUntilOpen 13 = .ok (.aload_n 0, 1) := by decide +kernel
theorem dX12_ticksUntilOpen_14 : decode cX12_ticksUntilOpen 14 = .ok (.aload_n 0, 1) := by decide +kernel
theorem dX12_ticksUntilOpen_15 : decode cX12_ticksUntilOpen 15 = .ok (.getfield 9, 3) := by decide +kernel
theorem dX12_ticksUntilOpen_18 : decode cX12_ticksUntilOpen 18 = .ok (.iconst 4, 1) := by decide +kernel
theorem dX12_ticksUntilOpen_19 : decode cX12_ticksUntilOpen 19 = .ok (.iaload, 1) := by decide +kernel
theorem dX12_ticksUntilOpen_20 : decode cX12_ticksUntilOpen 20 = .ok (.iload_n 1, 1) := by decide +kernel
theorem dX12_ticksUntilOpen_21 : decode cX12_ticksUntilOpen 21 = .ok (.iadd, 1) := by decide +kernel
theorem dX12_ticksUntilOpen_22 : decode cX12_ticksUntilOpen 22 = .ok (.bipush 96, 2) := by decide +kernel
theorem dX12_ticksUntilOpen_24 : decode cX12_ticksUntilOpen 24 = .ok (.irem, 1) := by decide +kernel
theorem dX12_ticksUntilOpen_25 : decode cX12_ticksUntilOpen 25 = .ok (.invokevirtual 77, 3) := by decide +kernel
theorem dX12_ticksUntilOpen_28 : decode cX12_ticksUntilOpen 28 = .ok (.ifCond .eq 5, 3) := by decide +kernel
theorem dX12_ticksUntilOpen_31 : decode cX12_ticksUntilOpen 31 = .ok (.iload_n 1, 1) := by decide +kernel
theorem dX12_ticksUntilOpen_32 : decode cX12_ticksUntilOpen 32 = .ok (.ireturn, 1) := by decide +kernel
theorem dX12_ticksUntilOpen_33 : decode cX12_ticksUntilOpen 33 = .ok (.iinc 1 1, 3) := by decide +kernel
theorem dX12_ticksUntilOpen_36 : decode cX12_ticksUntilOpen 36 = .ok (.goto (-29), 3) := by decide +kernel
theorem dX12_ticksUntilOpen_39 : decode cX12_ticksUntilOpen 39 = .ok (.iconst (-1), 1) := by decide +kernel
theorem dX12_ticksUntilOpen_40 : decode cX12_ticksUntilOpen 40 = .ok (.ireturn, 1) := by decide +kernel
theorem dX12_bedCount_0 : decode cX12_bedCount 0 = .ok (.aload_n 0, 1) := by decide +kernel
theorem dX12_bedCount_1 : decode cX12_bedCount 1 = .ok (.iconst 1, 1) := by decide +kernel
theorem dX12_bedCount_2 : decode cX12_bedCount 2 = .ok (.invokevirtual 308, 3) := by decide +kernel
theorem dX12_bedCount_5 : decode cX12_bedCount 5 = .ok (.ireturn, 1) := by decide +kernel
theorem dX12_bedField_0 : decode cX12_bedField 0 = .ok (.aload_n 0, 1) := by decide +kernel
theorem dX12_bedField_1 : decode cX12_bedField 1 = .ok (.iconst 0, 1) := by decide +kernel
theorem dX12_bedField_2 : decode cX12_bedField 2 = .ok (.putfield 63, 3) := by decide +kernel
theorem dX12_bedField_5 : decode cX12_bedField 5 = .ok (.aload_n 0, 1) := by decide +kernel
theorem dX12_bedField_6 : decode cX12_bedField 6 = .ok (.iload_n 1, 1) := by decide +kernel
theorem dX12_bedField_7 : decode cX12_bedField 7 = .ok (.invokevirtual 184, 3) := by decide +kernel
theorem dX12_bedField_10 : decode cX12_bedField 10 = .ok (.ifCond .eq 7, 3) := by decide +kernel
theorem dX12_bedField_13 : decode cX12_bedField 13 = .ok (.iconst 0, 1) := by decide +kernel
theorem dX12_bedField_14 : decode cX12_bedField 14 = .ok (.goto 9, 3) := by decide +kernel
theorem dX12_bedField_17 : decode cX12_bedField 17 = .ok (.aload_n 0, 1) := by decide +kernel
theorem dX12_bedField_18 : decode cX12_bedField 18 = .ok (.iload_n 1, 1) := by decide +kernel
theorem dX12_bedField_19 : decode cX12_bedField 19 = .ok (.iload_n 2, 1) := by decide +kernel
theorem dX12_bedField_20 : decode cX12_bedField 20 = .ok (.invokevirtual 85, 3) := by decide +kernel
theorem dX12_bedField_23 : decode cX12_bedField 23 = .ok (.ireturn, 1) := by decide +kernel
theorem dX12_scentOf_0 : decode cX12_scentOf 0 = .ok (.aload_n 0, 1) := by decide +kernel
theorem dX12_scentOf_1 : decode cX12_scentOf 1 = .ok (.iload_n 1, 1) := by decide +kernel
theorem dX12_scentOf_2 : decode cX12_scentOf 2 = .ok (.iconst 0, 1) := by decide +kernel
theorem dX12_scentOf_3 : decode cX12_scentOf 3 = .ok (.invokevirtual 311, 3) := by decide +kernel
theorem dX12_scentOf_6 : decode cX12_scentOf 6 = .ok (.ireturn, 1) := by decide +kernel
theorem dX12_isInSeason_0 : decode cX12_isInSeason 0 = .ok (.aload_n 0, 1) := by decide +kernel
theorem dX12_isInSeason_1 : decode cX12_isInSeason 1 = .ok (.iconst 0, 1) := by decide +kernel
theorem dX12_isInSeason_2 : decode cX12_isInSeason 2 = .ok (.putfield 63, 3) := by decide +kernel
theorem dX12_isInSeason_5 : decode cX12_isInSeason 5 = .ok (.aload_n 0, 1) := by decide +kernel
theorem dX12_isInSeason_6 : decode cX12_isInSeason 6 = .ok (.iload_n 1, 1) := by decide +kernel
theorem dX12_isInSeason_7 : decode cX12_isInSeason 7 = .ok (.invokevirtual 184, 3) := by decide +kernel
theorem dX12_isInSeason_10 : decode cX12_isInSeason 10 = .ok (.ifCond .ne 15, 3) := by decide +kernel
theorem dX12_isInSeason_13 : decode cX12_isInSeason 13 = .ok (.aload_n 0, 1) := by decide +kernel
theorem dX12_isInSeason_14 : decode cX12_isInSeason 14 = .ok (.iload_n 1, 1) := by decide +kernel
theorem dX12_isInSeason_15 : decode cX12_isInSeason 15 = .ok (.invokevirtual 91, 3) := by decide +kernel
theorem dX12_isInSeason_18 : decode cX12_isInSeason 18 = .ok (.ifCond .eq 7, 3) := by decide +kernel
theorem dX12_isInSeason_21 : decode cX12_isInSeason 21 = .ok (.iconst 1, 1) := by decide +kernel
theorem dX12_isInSeason_22 : decode cX12_isInSeason 22 = .ok (.goto 4, 3) := by decide +kernel
theorem dX12_isInSeason_25 : decode cX12_isInSeason 25 = .ok (.iconst 0, 1) := by decide +kernel
theorem dX12_isInSeason_26 : decode cX12_isInSeason 26 = .ok (.ireturn, 1) := by decide +kernel
theorem dX12_blooms_0 : decode cX12_blooms 0 = .ok (.aload_n 0, 1) := by decide +kernel
theorem dX12_blooms_1 : decode cX12_blooms 1 = .ok (.iload_n 1, 1) := by decide +kernel
theorem dX12_blooms_2 : decode cX12_blooms 2 = .ok (.iconst 4, 1) := by decide +kernel
theorem dX12_blooms_3 : decode cX12_blooms 3 = .ok (.invokevirtual 311, 3) := by decide +kernel
theorem dX12_blooms_6 : decode cX12_blooms 6 = .ok (.ireturn, 1) := by decide +kernel
theorem dX12_placesLeft_0 : decode cX12_placesLeft 0 = .ok (.aload_n 0, 1) := by decide +kernel
theorem dX12_placesLeft_1 : decode cX12_placesLeft 1 = .ok (.iconst 0, 1) := by decide +kernel
theorem dX12_placesLeft_2 : decode cX12_placesLeft 2 = .ok (.putfield 63, 3) := by decide +kernel
theorem dX12_placesLeft_5 : decode cX12_placesLeft 5 = .ok (.aload_n 0, 1) := by decide +kernel
theorem dX12_placesLeft_6 : decode cX12_placesLeft 6 = .ok (.iload_n 1, 1) := by decide +kernel
theorem dX12_placesLeft_7 : decode cX12_placesLeft 7 = .ok (.invokevirtual 184, 3) := by decide +kernel
theorem dX12_placesLeft_10 : decode cX12_placesLeft 10 = .ok (.ifCond .eq 7, 3) := by decide +kernel
theorem dX12_placesLeft_13 : decode cX12_placesLeft 13 = .ok (.iconst 0, 1) := by decide +kernel
theorem dX12_placesLeft_14 : decode cX12_placesLeft 14 = .ok (.goto 16, 3) := by decide +kernel
theorem dX12_placesLeft_17 : decode cX12_placesLeft 17 = .ok (.aload_n 0, 1) := by decide +kernel
theorem dX12_placesLeft_18 : decode cX12_placesLeft 18 = .ok (.iload_n 1, 1) := by decide +kernel
theorem dX12_placesLeft_19 : decode cX12_placesLeft 19 = .ok (.iconst 1, 1) := by decide +kernel
theorem dX12_placesLeft_20 : decode cX12_placesLeft 20 = .ok (.invokevirtual 85, 3) := by decide +kernel
theorem dX12_placesLeft_23 : decode cX12_placesLeft 23 = .ok (.aload_n 0, 1) := by decide +kernel
theorem dX12_placesLeft_24 : decode cX12_placesLeft 24 = .ok (.iload_n 1, 1) := by decide +kernel
theorem dX12_placesLeft_25 : decode cX12_placesLeft 25 = .ok (.iconst 5, 1) := by decide +kernel
theorem dX12_placesLeft_26 : decode cX12_placesLeft 26 = .ok (.invokevirtual 85, 3) := by decide +kernel
theorem dX12_placesLeft_29 : decode cX12_placesLeft 29 = .ok (.isub, 1) := by decide +kernel
theorem dX12_placesLeft_30 : decode cX12_placesLeft 30 = .ok (.ireturn, 1) := by decide +kernel
theorem dX12_visitsTo_0 : decode cX12_visitsTo 0 = .ok (.aload_n 0, 1) := by decide +kernel
theorem dX12_visitsTo_1 : decode cX12_visitsTo 1 = .ok (.iload_n 1, 1) := by decide +kernel
theorem dX12_visitsTo_2 : decode cX12_visitsTo 2 = .ok (.bipush 6, 2) := by decide +kernel
theorem dX12_visitsTo_4 : decode cX12_visitsTo 4 = .ok (.invokevirtual 311, 3) := by decide +kernel
theorem dX12_visitsTo_7 : decode cX12_visitsTo 7 = .ok (.ireturn, 1) := by decide +kernel
theorem dX12_passCount_0 : decode cX12_passCount 0 = .ok (.aload_n 0, 1) := by decide +kernel
theorem dX12_passCount_1 : decode cX12_passCount 1 = .ok (.iconst 2, 1) := by decide +kernel
theorem dX12_passCount_2 : decode cX12_passCount 2 = .ok (.invokevirtual 308, 3) := by decide +kernel
theorem dX12_passCount_5 : decode cX12_passCount 5 = .ok (.ireturn, 1) := by decide +kernel
theorem dX12_field_0 : decode cX12_field 0 = .ok (.aload_n 0, 1) := by decide +kernel
theorem dX12_field_1 : decode cX12_field 1 = .ok (.iconst 0, 1) := by decide +kernel
theorem dX12_field_2 : decode cX12_field 2 = .ok (.putfield 63, 3) := by decide +kernel
theorem dX12_field_5 : decode cX12_field 5 = .ok (.aload_n 0, 1) := by decide +kernel
theorem dX12_field_6 : decode cX12_field 6 = .ok (.iload_n 1, 1) := by decide +kernel
theorem dX12_field_7 : decode cX12_field 7 = .ok (.invokevirtual 163, 3) := by decide +kernel
theorem dX12_field_10 : decode cX12_field 10 = .ok (.ifCond .eq 7, 3) := by decide +kernel
theorem dX12_field_13 : decode cX12_field 13 = .ok (.iconst 0, 1) := by decide +kernel
theorem dX12_field_14 : decode cX12_field 14 = .ok (.goto 9, 3) := by decide +kernel
theorem dX12_field_17 : decode cX12_field 17 = .ok (.aload_n 0, 1) := by decide +kernel
theorem dX12_field_18 : decode cX12_field 18 = .ok (.iload_n 1, 1) := by decide +kernel
theorem dX12_field_19 : decode cX12_field 19 = .ok (.iload_n 2, 1) := by decide +kernel
theorem dX12_field_20 : decode cX12_field 20 = .ok (.invokevirtual 88, 3) := by decide +kernel
theorem dX12_field_23 : decode cX12_field 23 = .ok (.ireturn, 1) := by decide +kernel
theorem dX12_scentsOf_0 : decode cX12_scentsOf 0 = .ok (.aload_n 0, 1) := by decide +kernel
theorem dX12_scentsOf_1 : decode cX12_scentsOf 1 = .ok (.iload_n 1, 1) := by decide +kernel
theorem dX12_scentsOf_2 : decode cX12_scentsOf 2 = .ok (.iconst 0, 1) := by decide +kernel
theorem dX12_scentsOf_3 : decode cX12_scentsOf 3 = .ok (.invokevirtual 314, 3) := by decide +kernel
theorem dX12_scentsOf_6 : decode cX12_scentsOf 6 = .ok (.ireturn, 1) := by decide +kernel
theorem dX12_firstDay_0 : decode cX12_firstDay 0 = .ok (.aload_n 0, 1) := by decide +kernel
theorem dX12_firstDay_1 : decode cX12_firstDay 1 = .ok (.iload_n 1, 1) := by decide +kernel
theorem dX12_firstDay_2 : decode cX12_firstDay 2 = .ok (.iconst 1, 1) := by decide +kernel
theorem dX12_firstDay_3 : decode cX12_firstDay 3 = .ok (.invokevirtual 314, 3) := by decide +kernel
theorem dX12_firstDay_6 : decode cX12_firstDay 6 = .ok (.ireturn, 1) := by decide +kernel
theorem dX12_lastDay_0 : decode cX12_lastDay 0 = .ok (.aload_n 0, 1) := by decide +kernel
theorem dX12_lastDay_1 : decode cX12_lastDay 1 = .ok (.iconst 0, 1) := by decide +kernel
theorem dX12_lastDay_2 : decode cX12_lastDay 2 = .ok (.putfield 63, 3) := by decide +kernel
theorem dX12_lastDay_5 : decode cX12_lastDay 5 = .ok (.aload_n 0, 1) := by decide +kernel
theorem dX12_lastDay_6 : decode cX12_lastDay 6 = .ok (.iload_n 1, 1) := by decide +kernel
theorem dX12_lastDay_7 : decode cX12_lastDay 7 = .ok (.invokevirtual 163, 3) := by decide +kernel
theorem dX12_lastDay_10 : decode cX12_lastDay 10 = .ok (.ifCond .eq 7, 3) := by decide +kernel
theorem dX12_lastDay_13 : decode cX12_lastDay 13 = .ok (.iconst 0, 1) := by decide +kernel
theorem dX12_lastDay_14 : decode cX12_lastDay 14 = .ok (.goto 8, 3) := by decide +kernel
theorem dX12_lastDay_17 : decode cX12_lastDay 17 = .ok (.aload_n 0, 1) := by decide +kernel
theorem dX12_lastDay_18 : decode cX12_lastDay 18 = .ok (.iload_n 1, 1) := by decide +kernel
theorem dX12_lastDay_19 : decode cX12_lastDay 19 = .ok (.invokevirtual 114, 3) := by decide +kernel
theorem dX12_lastDay_22 : decode cX12_lastDay 22 = .ok (.ireturn, 1) := by decide +kernel
theorem dX12_priceOf_0 : decode cX12_priceOf 0 = .ok (.aload_n 0, 1) := by decide +kernel
theorem dX12_priceOf_1 : decode cX12_priceOf 1 = .ok (.iload_n 1, 1) := by decide +kernel
theorem dX12_priceOf_2 : decode cX12_priceOf 2 = .ok (.iconst 4, 1) := by decide +kernel
theorem dX12_priceOf_3 : decode cX12_priceOf 3 = .ok (.invokevirtual 314, 3) := by decide +kernel
theorem dX12_priceOf_6 : decode cX12_priceOf 6 = .ok (.ireturn, 1) := by decide +kernel
theorem dX12_cardOf_0 : decode cX12_cardOf 0 = .ok (.aload_n 0, 1) := by decide +kernel
theorem dX12_cardOf_1 : decode cX12_cardOf 1 = .ok (.iload_n 1, 1) := by decide +kernel
theorem dX12_cardOf_2 : decode cX12_cardOf 2 = .ok (.iconst 5, 1) := by decide +kernel
theorem dX12_cardOf_3 : decode cX12_cardOf 3 = .ok (.invokevirtual 314, 3) := by decide +kernel
theorem dX12_cardOf_6 : decode cX12_cardOf 6 = .ok (.ireturn, 1) := by decide +kernel
theorem dX12_isReturned_0 : decode cX12_isReturned 0 = .ok (.aload_n 0, 1) := by decide +kernel
theorem dX12_isReturned_1 : decode cX12_isReturned 1 = .ok (.iload_n 1, 1) := by decide +kernel
theorem dX12_isReturned_2 : decode cX12_isReturned 2 = .ok (.bipush 6, 2) := by decide +kernel
theorem dX12_isReturned_4 : decode cX12_isReturned 4 = .ok (.invokevirtual 314, 3) := by decide +kernel
theorem dX12_isReturned_7 : decode cX12_isReturned 7 = .ok (.iconst 1, 1) := by decide +kernel
theorem dX12_isReturned_8 : decode cX12_isReturned 8 = .ok (.if_icmp .ne 7, 3) := by decide +kernel
theorem dX12_isReturned_11 : decode cX12_isReturned 11 = .ok (.iconst 1, 1) := by decide +kernel
theorem dX12_isReturned_12 : decode cX12_isReturned 12 = .ok (.goto 4, 3) := by decide +kernel
theorem dX12_isReturned_15 : decode cX12_isReturned 15 = .ok (.iconst 0, 1) := by decide +kernel
theorem dX12_isReturned_16 : decode cX12_isReturned 16 = .ok (.ireturn, 1) := by decide +kernel
theorem dX12_usedDays_0 : decode cX12_usedDays 0 = .ok (.aload_n 0, 1) := by decide +kernel
theorem dX12_usedDays_1 : decode cX12_usedDays 1 = .ok (.iconst 0, 1) := by decide +kernel
theorem dX12_usedDays_2 : decode cX12_usedDays 2 = .ok (.putfield 63, 3) := by decide +kernel
theorem dX12_usedDays_5 : decode cX12_usedDays 5 = .ok (.aload_n 0, 1) := by decide +kernel
theorem dX12_usedDays_6 : decode cX12_usedDays 6 = .ok (.iload_n 1, 1) := by decide +kernel
theorem dX12_usedDays_7 : decode cX12_usedDays 7 = .ok (.invokevirtual 163, 3) := by decide +kernel
theorem dX12_usedDays_10 : decode cX12_usedDays 10 = .ok (.ifCond .eq 7, 3) := by decide +kernel
theorem dX12_usedDays_13 : decode cX12_usedDays 13 = .ok (.iconst 0, 1) := by decide +kernel
theorem dX12_usedDays_14 : decode cX12_usedDays 14 = .ok (.goto 13, 3) := by decide +kernel
theorem dX12_usedDays_17 : decode cX12_usedDays 17 = .ok (.aload_n 0, 1) := by decide +kernel
theorem dX12_usedDays_18 : decode cX12_usedDays 18 = .ok (.iload_n 1, 1) := by decide +kernel
theorem dX12_usedDays_19 : decode cX12_usedDays 19 = .ok (.bipush 7, 2) := by decide +kernel
theorem dX12_usedDays_21 : decode cX12_usedDays 21 = .ok (.invokevirtual 88, 3) := by decide +kernel
theorem dX12_usedDays_24 : decode cX12_usedDays 24 = .ok (.invokestatic 317, 3) := by decide +kernel
theorem dX12_usedDays_27 : decode cX12_usedDays 27 = .ok (.ireturn, 1) := by decide +kernel
theorem dX12_visitsWith_0 : decode cX12_visitsWith 0 = .ok (.aload_n 0, 1) := by decide +kernel
theorem dX12_visitsWith_1 : decode cX12_visitsWith 1 = .ok (.iload_n 1, 1) := by decide +kernel
theorem dX12_visitsWith_2 : decode cX12_visitsWith 2 = .ok (.bipush 8, 2) := by decide +kernel
theorem dX12_visitsWith_4 : decode cX12_visitsWith 4 = .ok (.invokevirtual 314, 3) := by decide +kernel
theorem dX12_visitsWith_7 : decode cX12_visitsWith 7 = .ok (.ireturn, 1) := by decide +kernel
theorem dX12_refundOf_0 : decode cX12_refundOf 0 = .ok (.aload_n 0, 1) := by decide +kernel
theorem dX12_refundOf_1 : decode cX12_refundOf 1 = .ok (.iconst 0, 1) := by decide +kernel
theorem dX12_refundOf_2 : decode cX12_refundOf 2 = .ok (.putfield 63, 3) := by decide +kernel
theorem dX12_refundOf_5 : decode cX12_refundOf 5 = .ok (.aload_n 0, 1) := by decide +kernel
theorem dX12_refundOf_6 : decode cX12_refundOf 6 = .ok (.iload_n 1, 1) := by decide +kernel
theorem dX12_refundOf_7 : decode cX12_refundOf 7 = .ok (.invokevirtual 163, 3) := by decide +kernel
theorem dX12_refundOf_10 : decode cX12_refundOf 10 = .ok (.ifCond .eq 7, 3) := by decide +kernel
theorem dX12_refundOf_13 : decode cX12_refundOf 13 = .ok (.iconst 0, 1) := by decide +kernel
theorem dX12_refundOf_14 : decode cX12_refundOf 14 = .ok (.goto 8, 3) := by decide +kernel
theorem dX12_refundOf_17 : decode cX12_refundOf 17 = .ok (.aload_n 0, 1) := by decide +kernel
theorem dX12_refundOf_18 : decode cX12_refundOf 18 = .ok (.iload_n 1, 1) := by decide +kernel
theorem dX12_refundOf_19 : decode cX12_refundOf 19 = .ok (.invokevirtual 123, 3) := by decide +kernel
theorem dX12_refundOf_22 : decode cX12_refundOf 22 = .ok (.ireturn, 1) := by decide +kernel
theorem dX12_owed_0 : decode cX12_owed 0 = .ok (.aload_n 0, 1) := by decide +kernel
theorem dX12_owed_1 : decode cX12_owed 1 = .ok (.iload_n 1, 1) := by decide +kernel
theorem dX12_owed_2 : decode cX12_owed 2 = .ok (.bipush 11, 2) := by decide +kernel
theorem dX12_owed_4 : decode cX12_owed 4 = .ok (.invokevirtual 314, 3) := by decide +kernel
theorem dX12_owed_7 : decode cX12_owed 7 = .ok (.ireturn, 1) := by decide +kernel
theorem dX12_ticksUntilReady_0 : decode cX12_ticksUntilReady 0 = .ok (.aload_n 0, 1) := by decide +kernel
theorem dX12_ticksUntilReady_1 : decode cX12_ticksUntilReady 1 = .ok (.iconst 0, 1) := by decide +kernel
theorem dX12_ticksUntilReady_2 : decode cX12_ticksUntilReady 2 = .ok (.putfield 63, 3) := by decide +kernel
theorem dX12_ticksUntilReady_5 : decode cX12_ticksUntilReady 5 = .ok (.aload_n 0, 1) := by decide +kernel
theorem dX12_ticksUntilReady_6 : decode cX12_ticksUntilReady 6 = .ok (.iload_n 1, 1) := by decide +kernel
theorem dX12_ticksUntilReady_7 : decode cX12_ticksUntilReady 7 = .ok (.invokevirtual 163, 3) := by decide +kernel
theorem dX12_ticksUntilReady_10 : decode cX12_ticksUntilReady 10 = .ok (.ifCond .ne 14, 3) := by decide +kernel
theorem dX12_ticksUntilReady_13 : decode cX12_ticksUntilReady 13 = .ok (.aload_n 0, 1) := by decide +kernel
theorem dX12_ticksUntilReady_14 : decode cX12_ticksUntilReady 14 = .ok (.iload_n 1, 1) := by decide +kernel
theorem dX12_ticksUntilReady_15 : decode cX12_ticksUntilReady 15 = .ok (.bipush 9, 2) := by decide +kernel
theorem dX12_ticksUntilReady_17 : decode cX12_ticksUntilReady 17 = .ok (.invokevirtual 88, 3) := by decide +kernel
theorem dX12_ticksUntilReady_20 : decode cX12_ticksUntilReady 20 = .ok (.iconst (-1), 1) := by decide +kernel
theorem dX12_ticksUntilReady_21 : decode cX12_ticksUntilReady 21 = .ok (.if_icmp .ne 5, 3) := by decide +kernel
theorem dX12_ticksUntilReady_24 : decode cX12_ticksUntilReady 24 = .ok (.iconst 0, 1) := by decide +kernel
theorem dX12_ticksUntilReady_25 : decode cX12_ticksUntilReady 25 = .ok (.ireturn, 1) := by decide +kernel
theorem dX12_ticksUntilReady_26 : decode cX12_ticksUntilReady 26 = .ok (.aload_n 0, 1) := by decide +kernel
theorem dX12_ticksUntilReady_27 : decode cX12_ticksUntilReady 27 = .ok (.iload_n 1, 1) := by decide +kernel
theorem dX12_ticksUntilReady_28 : decode cX12_ticksUntilReady 28 = .ok (.bipush 9, 2) := by decide +kernel
theorem dX12_ticksUntilReady_30 : decode cX12_ticksUntilReady 30 = .ok (.invokevirtual 88, 3) := by decide +kernel
theorem dX12_ticksUntilReady_33 : decode cX12_ticksUntilReady 33 = .ok (.aload_n 0, 1) := by decide +kernel
theorem dX12_ticksUntilReady_34 : decode cX12_ticksUntilReady 34 = .ok (.getfield 9, 3) := by decide +kernel
theorem dX12_ticksUntilReady_37 : decode cX12_ticksUntilReady 37 = .ok (.bipush 6, 2) := by decide +kernel
theorem dX12_ticksUntilReady_39 : decode cX12_ticksUntilReady 39 = .ok (.iaload, 1) := by decide +kernel
theorem dX12_ticksUntilReady_40 : decode cX12_ticksUntilReady 40 = .ok (.iadd, 1) := by decide +kernel
theorem dX12_ticksUntilReady_41 : decode cX12_ticksUntilReady 41 = .ok (.aload_n 0, 1) := by decide +kernel
theorem dX12_ticksUntilReady_42 : decode cX12_ticksUntilReady 42 = .ok (.getfield 9, 3) := by decide +kernel
theorem dX12_ticksUntilReady_45 : decode cX12_ticksUntilReady 45 = .ok (.iconst 4, 1) := by decide +kernel
theorem dX12_ticksUntilReady_46 : decode cX12_ticksUntilReady 46 = .ok (.iaload, 1) := by decide +kernel
theorem dX12_ticksUntilReady_47 : decode cX12_ticksUntilReady 47 = .ok (.isub, 1) := by decide +kernel
theorem dX12_ticksUntilReady_48 : decode cX12_ticksUntilReady 48 = .ok (.istore_n 2, 1) := by decide +kernel
theorem dX12_ticksUntilReady_49 : decode cX12_ticksUntilReady 49 = .ok (.iload_n 2, 1) := by decide +kernel
theorem dX12_ticksUntilReady_50 : decode cX12_ticksUntilReady 50 = .ok (.ifCond .ge 7, 3) := by decide +kernel
theorem dX12_ticksUntilReady_53 : decode cX12_ticksUntilReady 53 = .ok (.iconst 0, 1) := by decide +kernel
theorem dX12_ticksUntilReady_54 : decode cX12_ticksUntilReady 54 = .ok (.goto 4, 3) := by decide +kernel
theorem dX12_ticksUntilReady_57 : decode cX12_ticksUntilReady 57 = .ok (.iload_n 2, 1) := by decide +kernel
theorem dX12_ticksUntilReady_58 : decode cX12_ticksUntilReady 58 = .ok (.ireturn, 1) := by decide +kernel
theorem dX12_cardCount_0 : decode cX12_cardCount 0 = .ok (.aload_n 0, 1) := by decide +kernel
theorem dX12_cardCount_1 : decode cX12_cardCount 1 = .ok (.iconst 3, 1) := by decide +kernel
theorem dX12_cardCount_2 : decode cX12_cardCount 2 = .ok (.invokevirtual 308, 3) := by decide +kernel
theorem dX12_cardCount_5 : decode cX12_cardCount 5 = .ok (.ireturn, 1) := by decide +kernel
theorem dX12_passOf_0 : decode cX12_passOf 0 = .ok (.aload_n 0, 1) := by decide +kernel
theorem dX12_passOf_1 : decode cX12_passOf 1 = .ok (.iconst 0, 1) := by decide +kernel
theorem dX12_passOf_2 : decode cX12_passOf 2 = .ok (.putfield 63, 3) := by decide +kernel
theorem dX12_passOf_5 : decode cX12_passOf 5 = .ok (.aload_n 0, 1) := by decide +kernel
theorem dX12_passOf_6 : decode cX12_passOf 6 = .ok (.iload_n 1, 1) := by decide +kernel
theorem dX12_passOf_7 : decode cX12_passOf 7 = .ok (.invokevirtual 181, 3) := by decide +kernel
theorem dX12_passOf_10 : decode cX12_passOf 10 = .ok (.ifCond .eq 7, 3) := by decide +kernel
theorem dX12_passOf_13 : decode cX12_passOf 13 = .ok (.iconst 0, 1) := by decide +kernel
theorem dX12_passOf_14 : decode cX12_passOf 14 = .ok (.goto 8, 3) := by decide +kernel
theorem dX12_passOf_17 : decode cX12_passOf 17 = .ok (.aload_n 0, 1) := by decide +kernel
theorem dX12_passOf_18 : decode cX12_passOf 18 = .ok (.iload_n 1, 1) := by decide +kernel
theorem dX12_passOf_19 : decode cX12_passOf 19 = .ok (.invokevirtual 108, 3) := by decide +kernel
theorem dX12_passOf_22 : decode cX12_passOf 22 = .ok (.ireturn, 1) := by decide +kernel
theorem dX12_isBlocked_0 : decode cX12_isBlocked 0 = .ok (.aload_n 0, 1) := by decide +kernel
theorem dX12_isBlocked_1 : decode cX12_isBlocked 1 = .ok (.iconst 0, 1) := by decide +kernel
theorem dX12_isBlocked_2 : decode cX12_isBlocked 2 = .ok (.putfield 63, 3) := by decide +kernel
theorem dX12_isBlocked_5 : decode cX12_isBlocked 5 = .ok (.aload_n 0, 1) := by decide +kernel
theorem dX12_isBlocked_6 : decode cX12_isBlocked 6 = .ok (.iload_n 1, 1) := by decide +kernel
theorem dX12_isBlocked_7 : decode cX12_isBlocked 7 = .ok (.invokevirtual 181, 3) := by decide +kernel
theorem dX12_isBlocked_10 : decode cX12_isBlocked 10 = .ok (.ifCond .ne 15, 3) := by decide +kernel
theorem dX12_isBlocked_13 : decode cX12_isBlocked 13 = .ok (.aload_n 0, 1) := by decide +kernel
theorem dX12_isBlocked_14 : decode cX12_isBlocked 14 = .ok (.iload_n 1, 1) := by decide +kernel
theorem dX12_isBlocked_15 : decode cX12_isBlocked 15 = .ok (.invokevirtual 111, 3) := by decide +kernel
theorem dX12_isBlocked_18 : decode cX12_isBlocked 18 = .ok (.ifCond .eq 7, 3) := by decide +kernel
theorem dX12_isBlocked_21 : decode cX12_isBlocked 21 = .ok (.iconst 1, 1) := by decide +kernel
theorem dX12_isBlocked_22 : decode cX12_isBlocked 22 = .ok (.goto 4, 3) := by decide +kernel
theorem dX12_isBlocked_25 : decode cX12_isBlocked 25 = .ok (.iconst 0, 1) := by decide +kernel
theorem dX12_isBlocked_26 : decode cX12_isBlocked 26 = .ok (.ireturn, 1) := by decide +kernel
theorem dX12_whyRefused_0 : decode cX12_whyRefused 0 = .ok (.aload_n 0, 1) := by decide +kernel
theorem dX12_whyRefused_1 : decode cX12_whyRefused 1 = .ok (.iconst 0, 1) := by decide +kernel
theorem dX12_whyRefused_2 : decode cX12_whyRefused 2 = .ok (.putfield 63, 3) := by decide +kernel
theorem dX12_whyRefused_5 : decode cX12_whyRefused 5 = .ok (.aload_n 0, 1) := by decide +kernel
theorem dX12_whyRefused_6 : decode cX12_whyRefused 6 = .ok (.iload_n 1, 1) := by decide +kernel
theorem dX12_whyRefused_7 : decode cX12_whyRefused 7 = .ok (.invokevirtual 181, 3) := by decide +kernel
theorem dX12_whyRefused_10 : decode cX12_whyRefused 10 = .ok (.ifCond .ne 11, 3) := by decide +kernel
theorem dX12_whyRefused_13 : decode cX12_whyRefused 13 = .ok (.aload_n 0, 1) := by decide +kernel
theorem dX12_whyRefused_14 : decode cX12_whyRefused 14 = .ok (.iload_n 2, 1) := by decide +kernel
theorem dX12_whyRefused_15 : decode cX12_whyRefused 15 = .ok (.invokevirtual 184, 3) := by decide +kernel
theorem dX12_whyRefused_18 : decode cX12_whyRefused 18 = .ok (.ifCond .eq 7, 3) := by decide +kernel
theorem dX12_whyRefused_21 : decode cX12_whyRefused 21 = .ok (.iconst 0, 1) := by decide +kernel
theorem dX12_whyRefused_22 : decode cX12_whyRefused 22 = .ok (.goto 9, 3) := by decide +kernel
theorem dX12_whyRefused_25 : decode cX12_whyRefused 25 = .ok (.aload_n 0, 1) := by decide +kernel
theorem dX12_whyRefused_26 : decode cX12_whyRefused 26 = .ok (.iload_n 1, 1) := by decide +kernel
theorem dX12_whyRefused_27 : decode cX12_whyRefused 27 = .ok (.iload_n 2, 1) := by decide +kernel
theorem dX12_whyRefused_28 : decode cX12_whyRefused 28 = .ok (.invokevirtual 117, 3) := by decide +kernel
theorem dX12_whyRefused_31 : decode cX12_whyRefused 31 = .ok (.ireturn, 1) := by decide +kernel
theorem dX12_sign_0 : decode cX12_sign 0 = .ok (.aload_n 0, 1) := by decide +kernel
theorem dX12_sign_1 : decode cX12_sign 1 = .ok (.iconst 0, 1) := by decide +kernel
theorem dX12_sign_2 : decode cX12_sign 2 = .ok (.putfield 63, 3) := by decide +kernel
theorem dX12_sign_5 : decode cX12_sign 5 = .ok (.aload_n 0, 1) := by decide +kernel
theorem dX12_sign_6 : decode cX12_sign 6 = .ok (.iload_n 1, 1) := by decide +kernel
theorem dX12_sign_7 : decode cX12_sign 7 = .ok (.invokevirtual 181, 3) := by decide +kernel
theorem dX12_sign_10 : decode cX12_sign 10 = .ok (.ifCond .ne 11, 3) := by decide +kernel
theorem dX12_sign_13 : decode cX12_sign 13 = .ok (.aload_n 0, 1) := by decide +kernel
theorem dX12_sign_14 : decode cX12_sign 14 = .ok (.iload_n 2, 1) := by decide +kernel
theorem dX12_sign_15 : decode cX12_sign 15 = .ok (.invokevirtual 184, 3) := by decide +kernel
theorem dX12_sign_18 : decode cX12_sign 18 = .ok (.ifCond .eq 5, 3) := by decide +kernel
theorem dX12_sign_21 : decode cX12_sign 21 = .ok (.iconst 0, 1) := by decide +kernel
theorem dX12_sign_22 : decode cX12_sign 22 = .ok (.ireturn, 1) := by decide +kernel
theorem dX12_sign_23 : decode cX12_sign 23 = .ok (.aload_n 0, 1) := by decide +kernel
theorem dX12_sign_24 : decode cX12_sign 24 = .ok (.iload_n 1, 1) := by decide +kernel
theorem dX12_sign_25 : decode cX12_sign 25 = .ok (.iload_n 2, 1) := by decide +kernel
theorem dX12_sign_26 : decode cX12_sign 26 = .ok (.invokevirtual 117, 3) := by decide +kernel
theorem dX12_sign_29 : decode cX12_sign 29 = .ok (.istore_n 3, 1) := by decide +kernel
theorem dX12_sign_30 : decode cX12_sign 30 = .ok (.iload_n 3, 1) := by decide +kernel
theorem dX12_sign_31 : decode cX12_sign 31 = .ok (.ifCond .ne 7, 3) := by decide +kernel
theorem dX12_sign_34 : decode cX12_sign 34 = .ok (.iconst 0, 1) := by decide +kernel
theorem dX12_sign_35 : decode cX12_sign 35 = .ok (.goto 13, 3) := by decide +kernel
theorem dX12_sign_38 : decode cX12_sign 38 = .ok (.iload_n 3, 1) := by decide +kernel
theorem dX12_sign_39 : decode cX12_sign 39 = .ok (.iconst 5, 1) := by decide +kernel
theorem dX12_sign_40 : decode cX12_sign 40 = .ok (.if_icmp .ne 7, 3) := by decide +kernel
theorem dX12_sign_43 : decode cX12_sign 43 = .ok (.iconst 1, 1) := by decide +kernel
theorem dX12_sign_44 : decode cX12_sign 44 = .ok (.goto 4, 3) := by decide +kernel
theorem dX12_sign_47 : decode cX12_sign 47 = .ok (.iconst 2, 1) := by decide +kernel
theorem dX12_sign_48 : decode cX12_sign 48 = .ok (.ireturn, 1) := by decide +kernel
theorem dX12_bedsFor_0 : decode cX12_bedsFor 0 = .ok (.aload_n 0, 1) := by decide +kernel
theorem dX12_bedsFor_1 : decode cX12_bedsFor 1 = .ok (.iconst 0, 1) := by decide +kernel
theorem dX12_bedsFor_2 : decode cX12_bedsFor 2 = .ok (.putfield 63, 3) := by decide +kernel
theorem dX12_bedsFor_5 : decode cX12_bedsFor 5 = .ok (.aload_n 0, 1) := by decide +kernel
theorem dX12_bedsFor_6 : decode cX12_bedsFor 6 = .ok (.iload_n 1, 1) := by decide +kernel
theorem dX12_bedsFor_7 : decode cX12_bedsFor 7 = .ok (.invokevirtual 181, 3) := by decide +kernel
theorem dX12_bedsFor_10 : decode cX12_bedsFor 10 = .ok (.ifCond .eq 5, 3) := by decide +kernel
theorem dX12_bedsFor_13 : decode cX12_bedsFor 13 = .ok (.iconst 0, 1) := by decide +kernel
theorem dX12_bedsFor_14 : decode cX12_bedsFor 14 = .ok (.ireturn, 1) := by decide +kernel
theorem dX12_bedsFor_15 : decode cX12_bedsFor 15 = .ok (.iconst 0, 1) := by decide +kernel
theorem dX12_bedsFor_16 : decode cX12_bedsFor 16 = .ok (.istore_n 2, 1) := by decide +kernel
theorem dX12_bedsFor_17 : decode cX12_bedsFor 17 = .ok (.iconst 0, 1) := by decide +kernel
theorem dX12_bedsFor_18 : decode cX12_bedsFor 18 = .ok (.istore_n 3, 1) := by decide +kernel
theorem dX12_bedsFor_19 : decode cX12_bedsFor 19 = .ok (.iload_n 3, 1) := by decide +kernel
theorem dX12_bedsFor_20 : decode cX12_bedsFor 20 = .ok (.aload_n 0, 1) := by decide +kernel
theorem dX12_bedsFor_21 : decode cX12_bedsFor 21 = .ok (.getfield 9, 3) := by decide +kernel
theorem dX12_bedsFor_24 : decode cX12_bedsFor 24 = .ok (.iconst 1, 1) := by decide +kernel
theorem dX12_bedsFor_25 : decode cX12_bedsFor 25 = .ok (.iaload, 1) := by decide +kernel
theorem dX12_bedsFor_26 : decode cX12_bedsFor 26 = .ok (.if_icmp .ge 28, 3) := by decide +kernel
theorem dX12_bedsFor_29 : decode cX12_bedsFor 29 = .ok (.iload_n 2, 1) := by decide +kernel
theorem dX12_bedsFor_30 : decode cX12_bedsFor 30 = .ok (.aload_n 0, 1) := by decide +kernel
theorem dX12_bedsFor_31 : decode cX12_bedsFor 31 = .ok (.iload_n 1, 1) := by decide +kernel
theorem dX12_bedsFor_32 : decode cX12_bedsFor 32 = .ok (.iload_n 3, 1) := by decide +kernel
theorem dX12_bedsFor_33 : decode cX12_bedsFor 33 = .ok (.invokevirtual 117, 3) := by decide +kernel
theorem dX12_bedsFor_36 : decode cX12_bedsFor 36 = .ok (.ifCond .ne 9, 3) := by decide +kernel
theorem dX12_bedsFor_39 : decode cX12_bedsFor 39 = .ok (.iconst 1, 1) := by decide +kernel
theorem dX12_bedsFor_40 : decode cX12_bedsFor 40 = .ok (.iload_n 3, 1) := by decide +kernel
theorem dX12_bedsFor_41 : decode cX12_bedsFor 41 = .ok (.ishl, 1) := by decide +kernel
theorem dX12_bedsFor_42 : decode cX12_bedsFor 42 = .ok (.goto 4, 3) := by decide +kernel
theorem dX12_bedsFor_45 : decode cX12_bedsFor 45 = .ok (.iconst 0, 1) := by decide +kernel
theorem dX12_bedsFor_46 : decode cX12_bedsFor 46 = .ok (.ior, 1) := by decide +kernel
theorem dX12_bedsFor_47 : decode cX12_bedsFor 47 = .ok (.istore_n 2, 1) := by decide +kernel
theorem dX12_bedsFor_48 : decode cX12_bedsFor 48 = .ok (.iinc 3 1, 3) := by decide +kernel
theorem dX12_bedsFor_51 : decode cX12_bedsFor 51 = .ok (.goto (-32), 3) := by decide +kernel
theorem dX12_bedsFor_54 : decode cX12_bedsFor 54 = .ok (.iload_n 2, 1) := by decide +kernel
theorem dX12_bedsFor_55 : decode cX12_bedsFor 55 = .ok (.ireturn, 1) := by decide +kernel
theorem dX12_quote_0 : decode cX12_quote 0 = .ok (.aload_n 0, 1) := by decide +kernel
theorem dX12_quote_1 : decode cX12_quote 1 = .ok (.iconst 0, 1) := by decide +kernel
theorem dX12_quote_2 : decode cX12_quote 2 = .ok (.putfield 63, 3) := by decide +kernel
theorem dX12_quote_5 : decode cX12_quote 5 = .ok (.aload_n 0, 1) := by decide +kernel
theorem dX12_quote_6 : decode cX12_quote 6 = .ok (.iload_n 1, 1) := by decide +kernel
theorem dX12_quote_7 : decode cX12_quote 7 = .ok (.iload_n 2, 1) := by decide +kernel
theorem dX12_quote_8 : decode cX12_quote 8 = .ok (.iload_n 3, 1) := by decide +kernel
theorem dX12_quote_9 : decode cX12_quote 9 = .ok (.invokevirtual 156, 3) := by decide +kernel
theorem dX12_quote_12 : decode cX12_quote 12 = .ok (.ifCond .eq 7, 3) := by decide +kernel
theorem dX12_quote_15 : decode cX12_quote 15 = .ok (.iconst 0, 1) := by decide +kernel
theorem dX12_quote_16 : decode cX12_quote 16 = .ok (.goto 10, 3) := by decide +kernel
theorem dX12_quote_19 : decode cX12_quote 19 = .ok (.aload_n 0, 1) := by decide +kernel
theorem dX12_quote_20 : decode cX12_quote 20 = .ok (.iload_n 1, 1) := by decide +kernel
theorem dX12_quote_21 : decode cX12_quote 21 = .ok (.iload_n 2, 1) := by decide +kernel
theorem dX12_quote_22 : decode cX12_quote 22 = .ok (.iload_n 3, 1) := by decide +kernel
theorem dX12_quote_23 : decode cX12_quote 23 = .ok (.invokevirtual 101, 3) := by decide +kernel
theorem dX12_quote_26 : decode cX12_quote 26 = .ok (.ireturn, 1) := by decide +kernel
theorem dX12_fineFor_0 : decode cX12_fineFor 0 = .ok (.aload_n 0, 1) := by decide +kernel
theorem dX12_fineFor_1 : decode cX12_fineFor 1 = .ok (.iconst 0, 1) := by decide +kernel
theorem dX12_fineFor_2 : decode cX12_fineFor 2 = .ok (.putfield 63, 3) := by decide +kernel
theorem dX12_fineFor_5 : decode cX12_fineFor 5 = .ok (.aload_n 0, 1) := by decide +kernel
theorem dX12_fineFor_6 : decode cX12_fineFor 6 = .ok (.iload_n 1, 1) := by decide +kernel
theorem dX12_fineFor_7 : decode cX12_fineFor 7 = .ok (.invokevirtual 184, 3) := by decide +kernel
theorem dX12_fineFor_10 : decode cX12_fineFor 10 = .ok (.ifCond .ne 15, 3) := by decide +kernel
theorem dX12_fineFor_13 : decode cX12_fineFor 13 = .ok (.aload_n 0, 1) := by decide +kernel
theorem dX12_fineFor_14 : decode cX12_fineFor 14 = .ok (.iload_n 2, 1) := by decide +kernel
theorem dX12_fineFor_15 : decode cX12_fineFor 15 = .ok (.iconst 1, 1) := by decide +kernel
theorem dX12_fineFor_16 : decode cX12_fineFor 16 = .ok (.bipush 9, 2) := by decide +kernel
theorem dX12_fineFor_18 : decode cX12_fineFor 18 = .ok (.iconst 2, 1) := by decide +kernel
theorem dX12_fineFor_19 : decode cX12_fineFor 19 = .ok (.invokevirtual 73, 3) := by decide +kernel
theorem dX12_fineFor_22 : decode cX12_fineFor 22 = .ok (.ifCond .eq 7, 3) := by decide +kernel
theorem dX12_fineFor_25 : decode cX12_fineFor 25 = .ok (.iconst 0, 1) := by decide +kernel
theorem dX12_fineFor_26 : decode cX12_fineFor 26 = .ok (.goto 9, 3) := by decide +kernel
theorem dX12_fineFor_29 : decode cX12_fineFor 29 = .ok (.aload_n 0, 1) := by decide +kernel
theorem dX12_fineFor_30 : decode cX12_fineFor 30 = .ok (.iload_n 1, 1) := by decide +kernel
theorem dX12_fineFor_31 : decode cX12_fineFor 31 = .ok (.iload_n 2, 1) := by decide +kernel
theorem dX12_fineFor_32 : decode cX12_fineFor 32 = .ok (.invokevirtual 120, 3) := by decide +kernel
theorem dX12_fineFor_35 : decode cX12_fineFor 35 = .ok (.ireturn, 1) := by decide +kernel
theorem dX12_takings_0 : decode cX12_takings 0 = .ok (.aload_n 0, 1) := by decide +kernel
theorem dX12_takings_1 : decode cX12_takings 1 = .ok (.bipush 9, 2) := by decide +kernel
theorem dX12_takings_3 : decode cX12_takings 3 = .ok (.invokevirtual 308, 3) := by decide +kernel
theorem dX12_takings_6 : decode cX12_takings 6 = .ok (.ireturn, 1) := by decide +kernel
theorem dX12_refunds_0 : decode cX12_refunds 0 = .ok (.aload_n 0, 1) := by decide +kernel
theorem dX12_refunds_1 : decode cX12_refunds 1 = .ok (.bipush 10, 2) := by decide +kernel
theorem dX12_refunds_3 : decode cX12_refunds 3 = .ok (.invokevirtual 308, 3) := by decide +kernel
theorem dX12_refunds_6 : decode cX12_refunds 6 = .ok (.ireturn, 1) := by decide +kernel
theorem dX12_finesPaid_0 : decode cX12_finesPaid 0 = .ok (.aload_n 0, 1) := by decide +kernel
theorem dX12_finesPaid_1 : decode cX12_finesPaid 1 = .ok (.bipush 11, 2) := by decide +kernel
theorem dX12_finesPaid_3 : decode cX12_finesPaid 3 = .ok (.invokevirtual 308, 3) := by decide +kernel
theorem dX12_finesPaid_6 : decode cX12_finesPaid 6 = .ok (.ireturn, 1) := by decide +kernel
theorem dX12_plucked_0 : decode cX12_plucked 0 = .ok (.aload_n 0, 1) := by decide +kernel
theorem dX12_plucked_1 : decode cX12_plucked 1 = .ok (.bipush 12, 2) := by decide +kernel
theorem dX12_plucked_3 : decode cX12_plucked 3 = .ok (.invokevirtual 308, 3) := by decide +kernel
theorem dX12_plucked_6 : decode cX12_plucked 6 = .ok (.ireturn, 1) := by decide +kernel
theorem dX12_alarms_0 : decode cX12_alarms 0 = .ok (.aload_n 0, 1) := by decide +kernel
theorem dX12_alarms_1 : decode cX12_alarms 1 = .ok (.bipush 13, 2) := by decide +kernel
theorem dX12_alarms_3 : decode cX12_alarms 3 = .ok (.invokevirtual 308, 3) := by decide +kernel
theorem dX12_alarms_6 : decode cX12_alarms 6 = .ok (.ireturn, 1) := by decide +kernel
theorem dX12_allVisits_0 : decode cX12_allVisits 0 = .ok (.iconst 0, 1) := by decide +kernel
theorem dX12_allVisits_1 : decode cX12_allVisits 1 = .ok (.istore_n 1, 1) := by decide +kernel
theorem dX12_allVisits_2 : decode cX12_allVisits 2 = .ok (.iconst 0, 1) := by decide +kernel
theorem dX12_allVisits_3 : decode cX12_allVisits 3 = .ok (.istore_n 2, 1) := by decide +kernel
theorem dX12_allVisits_4 : decode cX12_allVisits 4 = .ok (.iload_n 2, 1) := by decide +kernel
theorem dX12_allVisits_5 : decode cX12_allVisits 5 = .ok (.aload_n 0, 1) := by decide +kernel
theorem dX12_allVisits_6 : decode cX12_allVisits 6 = .ok (.getfield 9, 3) := by decide +kernel
theorem dX12_allVisits_9 : decode cX12_allVisits 9 = .ok (.iconst 1, 1) := by decide +kernel
theorem dX12_allVisits_10 : decode cX12_allVisits 10 = .ok (.iaload, 1) := by decide +kernel
theorem dX12_allVisits_11 : decode cX12_allVisits 11 = .ok (.if_icmp .ge 19, 3) := by decide +kernel
theorem dX12_allVisits_14 : decode cX12_allVisits 14 = .ok (.iload_n 1, 1) := by decide +kernel
theorem dX12_allVisits_15 : decode cX12_allVisits 15 = .ok (.aload_n 0, 1) := by decide +kernel
theorem dX12_allVisits_16 : decode cX12_allVisits 16 = .ok (.iload_n 2, 1) := by decide +kernel
theorem dX12_allVisits_17 : decode cX12_allVisits 17 = .ok (.bipush 6, 2) := by decide +kernel
theorem dX12_allVisits_19 : decode cX12_allVisits 19 = .ok (.invokevirtual 85, 3) := by decide +kernel
theorem dX12_allVisits_22 : decode cX12_allVisits 22 = .ok (.iadd, 1) := by decide +kernel
theorem dX12_allVisits_23 : decode cX12_allVisits 23 = .ok (.istore_n 1, 1) := by decide +kernel
theorem dX12_allVisits_24 : decode cX12_allVisits 24 = .ok (.iinc 2 1, 3) := by decide +kernel
theorem dX12_allVisits_27 : decode cX12_allVisits 27 = .ok (.goto (-23), 3) := by decide +kernel
theorem dX12_allVisits_30 : decode cX12_allVisits 30 = .ok (.iload_n 1, 1) := by decide +kernel
theorem dX12_allVisits_31 : decode cX12_allVisits 31 = .ok (.ireturn, 1) := by decide +kernel
theorem dX12_visitsPerDay_0 : decode cX12_visitsPerDay 0 = .ok (.aload_n 0, 1) := by decide +kernel
theorem dX12_visitsPerDay_1 : decode cX12_visitsPerDay 1 = .ok (.iconst 0, 1) := by decide +kernel
theorem dX12_visitsPerDay_2 : decode cX12_visitsPerDay 2 = .ok (.putfield 63, 3) := by decide +kernel
theorem dX12_visitsPerDay_5 : decode cX12_visitsPerDay 5 = .ok (.iconst 0, 1) := by decide +kernel
theorem dX12_visitsPerDay_6 : decode cX12_visitsPerDay 6 = .ok (.istore_n 1, 1) := by decide +kernel
theorem dX12_visitsPerDay_7 : decode cX12_visitsPerDay 7 = .ok (.iconst 0, 1) := by decide +kernel
theorem dX12_visitsPerDay_8 : decode cX12_visitsPerDay 8 = .ok (.istore_n 2, 1) := by decide +kernel
theorem dX12_visitsPerDay_9 : decode cX12_visitsPerDay 9 = .ok (.iload_n 2, 1) := by decide +kernel
theorem dX12_visitsPerDay_10 : decode cX12_visitsPerDay 10 = .ok (.aload_n 0, 1) := by decide +kernel
theorem dX12_visitsPerDay_11 : decode cX12_visitsPerDay 11 = .ok (.getfield 9, 3) := by decide +kernel
theorem dX12_visitsPerDay_14 : decode cX12_visitsPerDay 14 = .ok (.iconst 2, 1) := by decide +kernel
theorem dX12_visitsPerDay_15 : decode cX12_visitsPerDay 15 = .ok (.iaload, 1) := by decide +kernel
theorem dX12_visitsPerDay_16 : decode cX12_visitsPerDay 16 = .ok (.if_icmp .ge 22, 3) := by decide +kernel
theorem dX12_visitsPerDay_19 : decode cX12_visitsPerDay 19 = .ok (.iload_n 1, 1) := by decide +kernel
theorem dX12_visitsPerDay_20 : decode cX12_visitsPerDay 20 = .ok (.aload_n 0, 1) := by decide +kernel
theorem dX12_visitsPerDay_21 : decode cX12_visitsPerDay 21 = .ok (.iload_n 2, 1) := by decide +kernel
theorem dX12_visitsPerDay_22 : decode cX12_visitsPerDay 22 = .ok (.bipush 7, 2) := by decide +kernel
theorem dX12_visitsPerDay_24 : decode cX12_visitsPerDay 24 = .ok (.invokevirtual 88, 3) := by decide +kernel
theorem dX12_visitsPerDay_27 : decode cX12_visitsPerDay 27 = .ok (.invokestatic 317, 3) := by decide +kernel
theorem dX12_visitsPerDay_30 : decode cX12_visitsPerDay 30 = .ok (.iadd, 1) := by decide +kernel
theorem dX12_visitsPerDay_31 : decode cX12_visitsPerDay 31 = .ok (.istore_n 1, 1) := by decide +kernel
theorem dX12_visitsPerDay_32 : decode cX12_visitsPerDay 32 = .ok (.iinc 2 1, 3) := by decide +kernel
theorem dX12_visitsPerDay_35 : decode cX12_visitsPerDay 35 = .ok (.goto (-26), 3) := by decide +kernel
theorem dX12_visitsPerDay_38 : decode cX12_visitsPerDay 38 = .ok (.aload_n 0, 1) := by decide +kernel
theorem dX12_visitsPerDay_39 : decode cX12_visitsPerDay 39 = .ok (.invokevirtual 320, 3) := by decide +kernel
theorem dX12_visitsPerDay_42 : decode cX12_visitsPerDay 42 = .ok (.ifCond .ne 7, 3) := by decide +kernel
theorem dX12_visitsPerDay_45 : decode cX12_visitsPerDay 45 = .ok (.dconst 0, 1) := by decide +kernel
theorem dX12_visitsPerDay_46 : decode cX12_visitsPerDay 46 = .ok (.goto 11, 3) := by decide +kernel
theorem dX12_visitsPerDay_49 : decode cX12_visitsPerDay 49 = .ok (.aload_n 0, 1) := by decide +kernel
theorem dX12_visitsPerDay_50 : decode cX12_visitsPerDay 50 = .ok (.invokevirtual 320, 3) := by decide +kernel
theorem dX12_visitsPerDay_53 : decode cX12_visitsPerDay 53 = .ok (.i2d, 1) := by decide +kernel
theorem dX12_visitsPerDay_54 : decode cX12_visitsPerDay 54 = .ok (.iload_n 1, 1) := by decide +kernel
theorem dX12_visitsPerDay_55 : decode cX12_visitsPerDay 55 = .ok (.i2d, 1) := by decide +kernel
theorem dX12_visitsPerDay_56 : decode cX12_visitsPerDay 56 = .ok (.ddiv, 1) := by decide +kernel
theorem dX12_visitsPerDay_57 : decode cX12_visitsPerDay 57 = .ok (.dreturn, 1) := by decide +kernel
theorem dX12_blockedShare_0 : decode cX12_blockedShare 0 = .ok (.aload_n 0, 1) := by decide +kernel
theorem dX12_blockedShare_1 : decode cX12_blockedShare 1 = .ok (.iconst 0, 1) := by decide +kernel
theorem dX12_blockedShare_2 : decode cX12_blockedShare 2 = .ok (.putfield 63, 3) := by decide +kernel
theorem dX12_blockedShare_5 : decode cX12_blockedShare 5 = .ok (.iconst 0, 1) := by decide +kernel
theorem dX12_blockedShare_6 : decode cX12_blockedShare 6 = .ok (.istore_n 1, 1) := by decide +kernel
theorem dX12_blockedShare_7 : decode cX12_blockedShare 7 = .ok (.iconst 0, 1) := by decide +kernel
theorem dX12_blockedShare_8 : decode cX12_blockedShare 8 = .ok (.istore_n 2, 1) := by decide +kernel
theorem dX12_blockedShare_9 : decode cX12_blockedShare 9 = .ok (.iload_n 2, 1) := by decide +kernel
theorem dX12_blockedShare_10 : decode cX12_blockedShare 10 = .ok (.aload_n 0, 1) := by decide +kernel
theorem dX12_blockedShare_11 : decode cX12_blockedShare 11 = .ok (.getfield 9, 3) := by decide +kernel
theorem dX12_blockedShare_14 : decode cX12_blockedShare 14 = .ok (.iconst 3, 1) := by decide +kernel
theorem dX12_blockedShare_15 : decode cX12_blockedShare 15 = .ok (.iaload, 1) := by decide +kernel
theorem dX12_blockedShare_16 : decode cX12_blockedShare 16 = .ok (.if_icmp .ge 25, 3) := by decide +kernel
theorem dX12_blockedShare_19 : decode cX12_blockedShare 19 = .ok (.iload_n 1, 1) := by decide +kernel
theorem dX12_blockedShare_20 : decode cX12_blockedShare 20 = .ok (.aload_n 0, 1) := by decide +kernel
theorem dX12_blockedShare_21 : decode cX12_blockedShare 21 = .ok (.iload_n 2, 1) := by decide +kernel
theorem dX12_blockedShare_22 : decode cX12_blockedShare 22 = .ok (.invokevirtual 111, 3) := by decide +kernel
theorem dX12_blockedShare_25 : decode cX12_blockedShare 25 = .ok (.ifCond .eq 7, 3) := by decide +kernel
theorem dX12_blockedShare_28 : decode cX12_blockedShare 28 = .ok (.iconst 1, 1) := by decide +kernel
theorem dX12_blockedShare_29 : decode cX12_blockedShare 29 = .ok (.goto 4, 3) := by decide +kernel
theorem dX12_blockedShare_32 : decode cX12_blockedShare 32 = .ok (.iconst 0, 1) := by decide +kernel
theorem dX12_blockedShare_33 : decode cX12_blockedShare 33 = .ok (.iadd, 1) := by decide +kernel
theorem dX12_blockedShare_34 : decode cX12_blockedShare 34 = .ok (.istore_n 1, 1) := by decide +kernel
theorem dX12_blockedShare_35 : decode cX12_blockedShare 35 = .ok (.iinc 2 1, 3) := by decide +kernel
theorem dX12_blockedShare_38 : decode cX12_blockedShare 38 = .ok (.goto (-29), 3) := by decide +kernel
theorem dX12_blockedShare_41 : decode cX12_blockedShare 41 = .ok (.aload_n 0, 1) := by decide +kernel
theorem dX12_blockedShare_42 : decode cX12_blockedShare 42 = .ok (.getfield 9, 3) := by decide +kernel
theorem dX12_blockedShare_45 : decode cX12_blockedShare 45 = .ok (.iconst 3, 1) := by decide +kernel
theorem dX12_blockedShare_46 : decode cX12_blockedShare 46 = .ok (.iaload, 1) := by decide +kernel
theorem dX12_blockedShare_47 : decode cX12_blockedShare 47 = .ok (.ifCond .ne 7, 3) := by decide +kernel
theorem dX12_blockedShare_50 : decode cX12_blockedShare 50 = .ok (.fconst 0, 1) := by decide +kernel
theorem dX12_blockedShare_51 : decode cX12_blockedShare 51 = .ok (.goto 13, 3) := by decide +kernel
theorem dX12_blockedShare_54 : decode cX12_blockedShare 54 = .ok (.iload_n 1, 1) := by decide +kernel
theorem dX12_blockedShare_55 : decode cX12_blockedShare 55 = .ok (.i2f, 1) := by decide +kernel
theorem dX12_blockedShare_56 : decode cX12_blockedShare 56 = .ok (.aload_n 0, 1) := by decide +kernel
theorem dX12_blockedShare_57 : decode cX12_blockedShare 57 = .ok (.getfield 9, 3) := by decide +kernel
theorem dX12_blockedShare_60 : decode cX12_blockedShare 60 = .ok (.iconst 3, 1) := by decide +kernel
theorem dX12_blockedShare_61 : decode cX12_blockedShare 61 = .ok (.iaload, 1) := by decide +kernel
theorem dX12_blockedShare_62 : decode cX12_blockedShare 62 = .ok (.i2f, 1) := by decide +kernel
theorem dX12_blockedShare_63 : decode cX12_blockedShare 63 = .ok (.fdiv, 1) := by decide +kernel
theorem dX12_blockedShare_64 : decode cX12_blockedShare 64 = .ok (.freturn, 1) := by decide +kernel
theorem dX12_bit_0 : decode cX12_bit 0 = .ok (.iload_n 0, 1) := by decide +kernel
theorem dX12_bit_1 : decode cX12_bit 1 = .ok (.ifCond .eq 7, 3) := by decide +kernel
theorem dX12_bit_4 : decode cX12_bit 4 = .ok (.iconst 1, 1) := by decide +kernel
theorem dX12_bit_5 : decode cX12_bit 5 = .ok (.goto 4, 3) := by decide +kernel
theorem dX12_bit_8 : decode cX12_bit 8 = .ok (.iconst 0, 1) := by decide +kernel
theorem dX12_bit_9 : decode cX12_bit 9 = .ok (.ireturn, 1) := by decide +kernel
theorem dX12_wrongCard_0 : decode cX12_wrongCard 0 = .ok (.aload_n 0, 1) := by decide +kernel
theorem dX12_wrongCard_1 : decode cX12_wrongCard 1 = .ok (.iload_n 1, 1) := by decide +kernel
theorem dX12_wrongCard_2 : decode cX12_wrongCard 2 = .ok (.iconst 5, 1) := by decide +kernel
theorem dX12_wrongCard_3 : decode cX12_wrongCard 3 = .ok (.invokevirtual 88, 3) := by decide +kernel
theorem dX12_wrongCard_6 : decode cX12_wrongCard 6 = .ok (.istore_n 2, 1) := by decide +kernel
theorem dX12_wrongCard_7 : decode cX12_wrongCard 7 = .ok (.iload_n 2, 1) := by decide +kernel
theorem dX12_wrongCard_8 : decode cX12_wrongCard 8 = .ok (.iconst (-1), 1) := by decide +kernel
theorem dX12_wrongCard_9 : decode cX12_wrongCard 9 = .ok (.if_icmp .eq 24, 3) := by decide +kernel
theorem dX12_wrongCard_12 : decode cX12_wrongCard 12 = .ok (.aload_n 0, 1) := by decide +kernel
theorem dX12_wrongCard_13 : decode cX12_wrongCard 13 = .ok (.iload_n 2, 1) := by decide +kernel
theorem dX12_wrongCard_14 : decode cX12_wrongCard 14 = .ok (.invokevirtual 111, 3) := by decide +kernel
theorem dX12_wrongCard_17 : decode cX12_wrongCard 17 = .ok (.ifCond .ne 12, 3) := by decide +kernel
theorem dX12_wrongCard_20 : decode cX12_wrongCard 20 = .ok (.aload_n 0, 1) := by decide +kernel
theorem dX12_wrongCard_21 : decode cX12_wrongCard 21 = .ok (.iload_n 2, 1) := by decide +kernel
theorem dX12_wrongCard_22 : decode cX12_wrongCard 22 = .ok (.invokevirtual 108, 3) := by decide +kernel
theorem dX12_wrongCard_25 : decode cX12_wrongCard 25 = .ok (.iload_n 1, 1) := by decide +kernel
theorem dX12_wrongCard_26 : decode cX12_wrongCard 26 = .ok (.if_icmp .eq 7, 3) := by decide +kernel
theorem dX12_wrongCard_29 : decode cX12_wrongCard 29 = .ok (.iconst 1, 1) := by decide +kernel
theorem dX12_wrongCard_30 : decode cX12_wrongCard 30 = .ok (.goto 4, 3) := by decide +kernel
theorem dX12_wrongCard_33 : decode cX12_wrongCard 33 = .ok (.iconst 0, 1) := by decide +kernel
theorem dX12_wrongCard_34 : decode cX12_wrongCard 34 = .ok (.ireturn, 1) := by decide +kernel
theorem dX12_violations_0 : decode cX12_violations 0 = .ok (.aload_n 0, 1) := by decide +kernel
theorem dX12_violations_1 : decode cX12_violations 1 = .ok (.iconst 0, 1) := by decide +kernel
theorem dX12_violations_2 : decode cX12_violations 2 = .ok (.putfield 63, 3) := by decide +kernel
theorem dX12_violations_5 : decode cX12_violations 5 = .ok (.iconst 0, 1) := by decide +kernel
theorem dX12_violations_6 : decode cX12_violations 6 = .ok (.istore_n 1, 1) := by decide +kernel
theorem dX12_violations_7 : decode cX12_violations 7 = .ok (.iconst 0, 1) := by decide +kernel
theorem dX12_violations_8 : decode cX12_violations 8 = .ok (.istore_n 2, 1) := by decide +kernel
theorem dX12_violations_9 : decode cX12_violations 9 = .ok (.aload_n 0, 1) := by decide +kernel
theorem dX12_violations_10 : decode cX12_violations 10 = .ok (.getfield 9, 3) := by decide +kernel
theorem dX12_violations_13 : decode cX12_violations 13 = .ok (.bipush 11, 2) := by decide +kernel
theorem dX12_violations_15 : decode cX12_violations 15 = .ok (.iaload, 1) := by decide +kernel
theorem dX12_violations_16 : decode cX12_violations 16 = .ok (.istore_n 3, 1) := by decide +kernel
theorem dX12_violations_17 : decode cX12_violations 17 = .ok (.iconst 0, 1) := by decide +kernel
theorem dX12_violations_18 : decode cX12_violations 18 = .ok (.istore 4, 2) := by decide +kernel
theorem dX12_violations_20 : decode cX12_violations 20 = .ok (.iload 4, 2) := by decide +kernel
theorem dX12_violations_22 : decode cX12_violations 22 = .ok (.aload_n 0, 1) := by decide +kernel
theorem dX12_violations_23 : decode cX12_violations 23 = .ok (.getfield 9, 3) := by decide +kernel
theorem dX12_violations_26 : decode cX12_violations 26 = .ok (.iconst 2, 1) := by decide +kernel
theorem dX12_violations_27 : decode cX12_violations 27 = .ok (.iaload, 1) := by decide +kernel
theorem dX12_violations_28 : decode cX12_violations 28 = .ok (.if_icmp .ge 107, 3) := by decide +kernel
theorem dX12_violations_31 : decode cX12_violations 31 = .ok (.iload_n 1, 1) := by decide +kernel
theorem dX12_violations_32 : decode cX12_violations 32 = .ok (.aload_n 0, 1) := by decide +kernel
theorem dX12_violations_33 : decode cX12_violations 33 = .ok (.iload 4, 2) := by decide +kernel
theorem dX12_violations_35 : decode cX12_violations 35 = .ok (.bipush 7, 2) := by decide +kernel
theorem dX12_violations_37 : decode cX12_violations 37 = .ok (.invokevirtual 88, 3) := by decide +kernel
theorem dX12_violations_40 : decode cX12_violations 40 = .ok (.invokestatic 317, 3) := by decide +kernel
theorem dX12_violations_43 : decode cX12_violations 43 = .ok (.aload_n 0, 1) := by decide +kernel
theorem dX12_violations_44 : decode cX12_violations 44 = .ok (.iload 4, 2) := by decide +kernel
theorem dX12_violations_46 : decode cX12_violations 46 = .ok (.iconst 2, 1) := by decide +kernel
theorem dX12_violations_47 : decode cX12_violations 47 = .ok (.invokevirtual 88, 3) := by decide +kernel
theorem dX12_violations_50 : decode cX12_violations 50 = .ok (.if_icmp .le 7, 3) := by decide +kernel
theorem dX12_violations_53 : decode cX12_violations 53 = .ok (.iconst 1, 1) := by decide +kernel
theorem dX12_violations_54 : decode cX12_violations 54 = .ok (.goto 4, 3) := by decide +kernel
theorem dX12_violations_57 : decode cX12_violations 57 = .ok (.iconst 0, 1) := by decide +kernel
theorem dX12_violations_58 : decode cX12_violations 58 = .ok (.invokestatic 323, 3) := by decide +kernel
theorem dX12_violations_61 : decode cX12_violations 61 = .ok (.aload_n 0, 1) := by decide +kernel
theorem dX12_violations_62 : decode cX12_violations 62 = .ok (.iload 4, 2) := by decide +kernel
theorem dX12_violations_64 : decode cX12_violations 64 = .ok (.invokevirtual 327, 3) := by decide +kernel
theorem dX12_violations_67 : decode cX12_violations 67 = .ok (.invokestatic 323, 3) := by decide +kernel
theorem dX12_violations_70 : decode cX12_violations 70 = .ok (.iadd, 1) := by decide +kernel
theorem dX12_violations_71 : decode cX12_violations 71 = .ok (.iadd, 1) := by decide +kernel
theorem dX12_violations_72 : decode cX12_violations 72 = .ok (.istore_n 1, 1) := by decide +kernel
theorem dX12_violations_73 : decode cX12_violations 73 = .ok (.iload_n 1, 1) := by decide +kernel
theorem dX12_violations_74 : decode cX12_violations 74 = .ok (.aload_n 0, 1) := by decide +kernel
theorem dX12_violations_75 : decode cX12_violations 75 = .ok (.iload 4, 2) := by decide +kernel
theorem dX12_violations_77 : decode cX12_violations 77 = .ok (.bipush 6, 2) := by decide +kernel
theorem dX12_violations_79 : decode cX12_violations 79 = .ok (.invokevirtual 88, 3) := by decide +kernel
theorem dX12_violations_82 : decode cX12_violations 82 = .ok (.iconst 1, 1) := by decide +kernel
theorem dX12_violations_83 : decode cX12_violations 83 = .ok (.if_icmp .ne 18, 3) := by decide +kernel
theorem dX12_violations_86 : decode cX12_violations 86 = .ok (.aload_n 0, 1) := by decide +kernel
theorem dX12_violations_87 : decode cX12_violations 87 = .ok (.iload 4, 2) := by decide +kernel
theorem dX12_violations_89 : decode cX12_violations 89 = .ok (.iconst 5, 1) := by decide +kernel
theorem dX12_violations_90 : decode cX12_violations 90 = .ok (.invokevirtual 88, 3) := by decide +kernel
theorem dX12_violations_93 : decode cX12_violations 93 = .ok (.iconst (-1), 1) := by decide +kernel
theorem dX12_violations_94 : decode cX12_violations 94 = .ok (.if_icmp .eq 7, 3) := by decide +kernel
theorem dX12_violations_97 : decode cX12_violations 97 = .ok (.iconst 1, 1) := by decide +kernel
theorem dX12_violations_98 : decode cX12_violations 98 = .ok (.goto 4, 3) := by decide +kernel
theorem dX12_violations_101 : decode cX12_violations 101 = .ok (.iconst 0, 1) := by decide +kernel
theorem dX12_violations_102 : decode cX12_violations 102 = .ok (.invokestatic 323, 3) := by decide +kernel
theorem dX12_violations_105 : decode cX12_violations 105 = .ok (.iadd, 1) := by decide +kernel
theorem dX12_violations_106 : decode cX12_violations 106 = .ok (.istore_n 1, 1) := by decide +kernel
theorem dX12_violations_107 : decode cX12_violations 107 = .ok (.iload_n 2, 1) := by decide +kernel
theorem dX12_violations_108 : decode cX12_violations 108 = .ok (.aload_n 0, 1) := by decide +kernel
theorem dX12_violations_109 : decode cX12_violations 109 = .ok (.iload 4, 2) := by decide +kernel
theorem dX12_violations_111 : decode cX12_violations 111 = .ok (.bipush 8, 2) := by decide +kernel
theorem dX12_violations_113 : decode cX12_violations 113 = .ok (.invokevirtual 88, 3) := by decide +kernel
theorem dX12_violations_116 : decode cX12_violations 116 = .ok (.iadd, 1) := by decide +kernel
theorem dX12_violations_117 : decode cX12_violations 117 = .ok (.istore_n 2, 1) := by decide +kernel
theorem dX12_violations_118 : decode cX12_violations 118 = .ok (.iload_n 3, 1) := by decide +kernel
theorem dX12_violations_119 : decode cX12_violations 119 = .ok (.aload_n 0, 1) := by decide +kernel
theorem dX12_violations_120 : decode cX12_violations 120 = .ok (.iload 4, 2) := by decide +kernel
theorem dX12_violations_122 : decode cX12_violations 122 = .ok (.bipush 11, 2) := by decide +kernel
theorem dX12_violations_124 : decode cX12_violations 124 = .ok (.invokevirtual 88, 3) := by decide +kernel
theorem dX12_violations_127 : decode cX12_violations 127 = .ok (.iadd, 1) := by decide +kernel
theorem dX12_violations_128 : decode cX12_violations 128 = .ok (.istore_n 3, 1) := by decide +kernel
theorem dX12_violations_129 : decode cX12_violations 129 = .ok (.iinc 4 1, 3) := by decide +kernel
theorem dX12_violations_132 : decode cX12_violations 132 = .ok (.goto (-112), 3) := by decide +kernel
theorem dX12_violations_135 : decode cX12_violations 135 = .ok (.iconst 0, 1) := by decide +kernel
theorem dX12_violations_136 : decode cX12_violations 136 = .ok (.istore 4, 2) := by decide +kernel
theorem dX12_violations_138 : decode cX12_violations 138 = .ok (.iload 4, 2) := by decide +kernel
theorem dX12_violations_140 : decode cX12_violations 140 = .ok (.aload_n 0, 1) := by decide +kernel
theorem dX12_violations_141 : decode cX12_violations 141 = .ok (.getfield 9, 3) := by decide +kernel
theorem dX12_violations_144 : decode cX12_violations 144 = .ok (.iconst 1, 1) := by decide +kernel
theorem dX12_violations_145 : decode cX12_violations 145 = .ok (.iaload, 1) := by decide +kernel
theorem dX12_violations_146 : decode cX12_violations 146 = .ok (.if_icmp .ge 63, 3) := by decide +kernel
theorem dX12_violations_149 : decode cX12_violations 149 = .ok (.aload_n 0, 1) := by decide +kernel
theorem dX12_violations_150 : decode cX12_violations 150 = .ok (.iload 4, 2) := by decide +kernel
theorem dX12_violations_152 : decode cX12_violations 152 = .ok (.iconst 5, 1) := by decide +kernel
theorem dX12_violations_153 : decode cX12_violations 153 = .ok (.invokevirtual 85, 3) := by decide +kernel
theorem dX12_violations_156 : decode cX12_violations 156 = .ok (.aload_n 0, 1) := by decide +kernel
theorem dX12_violations_157 : decode cX12_violations 157 = .ok (.iload 4, 2) := by decide +kernel
theorem dX12_violations_159 : decode cX12_violations 159 = .ok (.iconst 1, 1) := by decide +kernel
theorem dX12_violations_160 : decode cX12_violations 160 = .ok (.invokevirtual 85, 3) := by decide +kernel
theorem dX12_violations_163 : decode cX12_violations 163 = .ok (.if_icmp .gt 25, 3) := by decide +kernel
theorem dX12_violations_166 : decode cX12_violations 166 = .ok (.aload_n 0, 1) := by decide +kernel
theorem dX12_violations_167 : decode cX12_violations 167 = .ok (.iload 4, 2) := by decide +kernel
theorem dX12_violations_169 : decode cX12_violations 169 = .ok (.iconst 4, 1) := by decide +kernel
theorem dX12_violations_170 : decode cX12_violations 170 = .ok (.invokevirtual 85, 3) := by decide +kernel
theorem dX12_violations_173 : decode cX12_violations 173 = .ok (.ifCond .lt 15, 3) := by decide +kernel
theorem dX12_violations_176 : decode cX12_violations 176 = .ok (.aload_n 0, 1) := by decide +kernel
theorem dX12_violations_177 : decode cX12_violations 177 = .ok (.iload 4, 2) := by decide +kernel
theorem dX12_violations_179 : decode cX12_violations 179 = .ok (.iconst 4, 1) := by decide +kernel
theorem dX12_violations_180 : decode cX12_violations 180 = .ok (.invokevirtual 85, 3) := by decide +kernel
theorem dX12_violations_183 : decode cX12_violations 183 = .ok (.bipush 50, 2) := by decide +kernel
theorem dX12_violations_185 : decode cX12_violations 185 = .ok (.if_icmp .le 7, 3) := by decide +kernel
theorem dX12_violations_188 : decode cX12_violations 188 = .ok (.iconst 1, 1) := by decide +kernel
theorem dX12_violations_189 : decode cX12_violations 189 = .ok (.goto 4, 3) := by decide +kernel
theorem dX12_violations_192 : decode cX12_violations 192 = .ok (.iconst 0, 1) := by decide +kernel
theorem dX12_violations_193 : decode cX12_violations 193 = .ok (.istore 5, 2) := by decide +kernel
theorem dX12_violations_195 : decode cX12_violations 195 = .ok (.iload_n 1, 1) := by decide +kernel
theorem dX12_violations_196 : decode cX12_violations 196 = .ok (.iload 5, 2) := by decide +kernel
theorem dX12_violations_198 : decode cX12_violations 198 = .ok (.invokestatic 323, 3) := by decide +kernel
theorem dX12_violations_201 : decode cX12_violations 201 = .ok (.iadd, 1) := by decide +kernel
theorem dX12_violations_202 : decode cX12_violations 202 = .ok (.istore_n 1, 1) := by decide +kernel
theorem dX12_violations_203 : decode cX12_violations 203 = .ok (.iinc 4 1, 3) := by decide +kernel
theorem dX12_violations_206 : decode cX12_violations 206 = .ok (.goto (-68), 3) := by decide +kernel
theorem dX12_violations_209 : decode cX12_violations 209 = .ok (.iload_n 1, 1) := by decide +kernel
theorem dX12_violations_210 : decode cX12_violations 210 = .ok (.iload_n 2, 1) := by decide +kernel
theorem dX12_violations_211 : decode cX12_violations 211 = .ok (.aload_n 0, 1) := by decide +kernel
theorem dX12_violations_212 : decode cX12_violations 212 = .ok (.invokevirtual 320, 3) := by decide +kernel
theorem dX12_violations_215 : decode cX12_violations 215 = .ok (.if_icmp .eq 7, 3) := by decide +kernel
theorem dX12_violations_218 : decode cX12_violations 218 = .ok (.iconst 1, 1) := by decide +kernel
theorem dX12_violations_219 : decode cX12_violations 219 = .ok (.goto 4, 3) := by decide +kernel
theorem dX12_violations_222 : decode cX12_violations 222 = .ok (.iconst 0, 1) := by decide +kernel
theorem dX12_violations_223 : decode cX12_violations 223 = .ok (.invokestatic 323, 3) := by decide +kernel
theorem dX12_violations_226 : decode cX12_violations 226 = .ok (.iadd, 1) := by decide +kernel
theorem dX12_violations_227 : decode cX12_violations 227 = .ok (.iload_n 3, 1) := by decide +kernel
theorem dX12_violations_228 : decode cX12_violations 228 = .ok (.aload_n 0, 1) := by decide +kernel
theorem dX12_violations_229 : decode cX12_violations 229 = .ok (.getfield 9, 3) := by decide +kernel
theorem dX12_violations_232 : decode cX12_violations 232 = .ok (.bipush 14, 2) := by decide +kernel
theorem dX12_violations_234 : decode cX12_violations 234 = .ok (.iaload, 1) := by decide +kernel
theorem dX12_violations_235 : decode cX12_violations 235 = .ok (.if_icmp .eq 7, 3) := by decide +kernel
theorem dX12_violations_238 : decode cX12_violations 238 = .ok (.iconst 1, 1) := by decide +kernel
theorem dX12_violations_239 : decode cX12_violations 239 = .ok (.goto 4, 3) := by decide +kernel
theorem dX12_violations_242 : decode cX12_violations 242 = .ok (.iconst 0, 1) := by decide +kernel
theorem dX12_violations_243 : decode cX12_violations 243 = .ok (.invokestatic 323, 3) := by decide +kernel
theorem dX12_violations_246 : decode cX12_violations 246 = .ok (.iadd, 1) := by decide +kernel
theorem dX12_violations_247 : decode cX12_violations 247 = .ok (.ireturn, 1) := by decide +kernel
theorem dX12_signOf_0 : decode cX12_signOf 0 = .ok (.aload_n 0, 1) := by decide +kernel
theorem dX12_signOf_1 : decode cX12_signOf 1 = .ok (.iload_n 1, 1) := by decide +kernel
theorem dX12_signOf_2 : decode cX12_signOf 2 = .ok (.bipush 7, 2) := by decide +kernel
theorem dX12_signOf_4 : decode cX12_signOf 4 = .ok (.invokevirtual 88, 3) := by decide +kernel
theorem dX12_signOf_7 : decode cX12_signOf 7 = .ok (.iload_n 2, 1) := by decide +kernel
theorem dX12_signOf_8 : decode cX12_signOf 8 = .ok (.ishr, 1) := by decide +kernel
theorem dX12_signOf_9 : decode cX12_signOf 9 = .ok (.iconst 1, 1) := by decide +kernel
theorem dX12_signOf_10 : decode cX12_signOf 10 = .ok (.iand, 1) := by decide +kernel
theorem dX12_signOf_11 : decode cX12_signOf 11 = .ok (.iconst 1, 1) := by decide +kernel
theorem dX12_signOf_12 : decode cX12_signOf 12 = .ok (.if_icmp .ne 6, 3) := by decide +kernel
theorem dX12_signOf_15 : decode cX12_signOf 15 = .ok (.bipush 120, 2) := by decide +kernel
theorem dX12_signOf_17 : decode cX12_signOf 17 = .ok (.ireturn, 1) := by decide +kernel
theorem dX12_signOf_18 : decode cX12_signOf 18 = .ok (.aload_n 0, 1) := by decide +kernel
theorem dX12_signOf_19 : decode cX12_signOf 19 = .ok (.iload_n 1, 1) := by decide +kernel
theorem dX12_signOf_20 : decode cX12_signOf 20 = .ok (.iconst 1, 1) := by decide +kernel
theorem dX12_signOf_21 : decode cX12_signOf 21 = .ok (.invokevirtual 88, 3) := by decide +kernel
theorem dX12_signOf_24 : decode cX12_signOf 24 = .ok (.iload_n 2, 1) := by decide +kernel
theorem dX12_signOf_25 : decode cX12_signOf 25 = .ok (.iadd, 1) := by decide +kernel
theorem dX12_signOf_26 : decode cX12_signOf 26 = .ok (.aload_n 0, 1) := by decide +kernel
theorem dX12_signOf_27 : decode cX12_signOf 27 = .ok (.invokevirtual 81, 3) := by decide +kernel
theorem dX12_signOf_30 : decode cX12_signOf 30 = .ok (.if_icmp .ge 8, 3) := by decide +kernel
theorem dX12_signOf_33 : decode cX12_signOf 33 = .ok (.bipush 45, 2) := by decide +kernel
theorem dX12_signOf_35 : decode cX12_signOf 35 = .ok (.goto 5, 3) := by decide +kernel
theorem dX12_signOf_38 : decode cX12_signOf 38 = .ok (.bipush 46, 2) := by decide +kernel
theorem dX12_signOf_40 : decode cX12_signOf 40 = .ok (.ireturn, 1) := by decide +kernel
theorem dX12_writePass_0 : decode cX12_writePass 0 = .ok (.aload_n 0, 1) := by decide +kernel
theorem dX12_writePass_1 : decode cX12_writePass 1 = .ok (.iconst 0, 1) := by decide +kernel
theorem dX12_writePass_2 : decode cX12_writePass 2 = .ok (.putfield 63, 3) := by decide +kernel
theorem dX12_writePass_5 : decode cX12_writePass 5 = .ok (.aload_n 0, 1) := by decide +kernel
theorem dX12_writePass_6 : decode cX12_writePass 6 = .ok (.iload_n 1, 1) := by decide +kernel
theorem dX12_writePass_7 : decode cX12_writePass 7 = .ok (.invokevirtual 163, 3) := by decide +kernel
theorem dX12_writePass_10 : decode cX12_writePass 10 = .ok (.ifCond .eq 5, 3) := by decide +kernel
theorem dX12_writePass_13 : decode cX12_writePass 13 = .ok (.iconst 0, 1) := by decide +kernel
theorem dX12_writePass_14 : decode cX12_writePass 14 = .ok (.ireturn, 1) := by decide +kernel
theorem dX12_writePass_15 : decode cX12_writePass 15 = .ok (.aload_n 0, 1) := by decide +kernel
theorem dX12_writePass_16 : decode cX12_writePass 16 = .ok (.aload_n 0, 1) := by decide +kernel
theorem dX12_writePass_17 : decode cX12_writePass 17 = .ok (.iload_n 1, 1) := by decide +kernel
theorem dX12_writePass_18 : decode cX12_writePass 18 = .ok (.iconst 2, 1) := by decide +kernel
theorem dX12_writePass_19 : decode cX12_writePass 19 = .ok (.invokevirtual 88, 3) := by decide +kernel
theorem dX12_writePass_22 : decode cX12_writePass 22 = .ok (.putfield 330, 3) := by decide +kernel
theorem dX12_writePass_25 : decode cX12_writePass 25 = .ok (.iconst 0, 1) := by decide +kernel
theorem dX12_writePass_26 : decode cX12_writePass 26 = .ok (.istore_n 2, 1) := by decide +kernel
theorem dX12_writePass_27 : decode cX12_writePass 27 = .ok (.iload_n 2, 1) := by decide +kernel
theorem dX12_writePass_28 : decode cX12_writePass 28 = .ok (.aload_n 0, 1) := by decide +kernel
theorem dX12_writePass_29 : decode cX12_writePass 29 = .ok (.getfield 330, 3) := by decide +kernel
theorem dX12_writePass_32 : decode cX12_writePass 32 = .ok (.if_icmp .ge 22, 3) := by decide +kernel
theorem dX12_writePass_35 : decode cX12_writePass 35 = .ok (.aload_n 0, 1) := by decide +kernel
theorem dX12_writePass_36 : decode cX12_writePass 36 = .ok (.getfield 27, 3) := by decide +kernel
theorem dX12_writePass_39 : decode cX12_writePass 39 = .ok (.iload_n 2, 1) := by decide +kernel
theorem dX12_writePass_40 : decode cX12_writePass 40 = .ok (.aload_n 0, 1) := by decide +kernel
theorem dX12_writePass_41 : decode cX12_writePass 41 = .ok (.iload_n 1, 1) := by decide +kernel
theorem dX12_writePass_42 : decode cX12_writePass 42 = .ok (.iload_n 2, 1) := by decide +kernel
theorem dX12_writePass_43 : decode cX12_writePass 43 = .ok (.invokevirtual 333, 3) := by decide +kernel
theorem dX12_writePass_46 : decode cX12_writePass 46 = .ok (.i2b, 1) := by decide +kernel
theorem dX12_writePass_47 : decode cX12_writePass 47 = .ok (.bastore, 1) := by decide +kernel
theorem dX12_writePass_48 : decode cX12_writePass 48 = .ok (.iinc 2 1, 3) := by decide +kernel
theorem dX12_writePass_51 : decode cX12_writePass 51 = .ok (.goto (-24), 3) := by decide +kernel
theorem dX12_writePass_54 : decode cX12_writePass 54 = .ok (.aload_n 0, 1) := by decide +kernel
theorem dX12_writePass_55 : decode cX12_writePass 55 = .ok (.getfield 330, 3) := by decide +kernel
theorem dX12_writePass_58 : decode cX12_writePass 58 = .ok (.ireturn, 1) := by decide +kernel
theorem dX12_reportByte_0 : decode cX12_reportByte 0 = .ok (.aload_n 0, 1) := by decide +kernel
theorem dX12_reportByte_1 : decode cX12_reportByte 1 = .ok (.iconst 0, 1) := by decide +kernel
theorem dX12_reportByte_2 : decode cX12_reportByte 2 = .ok (.putfield 63, 3) := by decide +kernel
theorem dX12_reportByte_5 : decode cX12_reportByte 5 = .ok (.iload_n 1, 1) := by decide +kernel
theorem dX12_reportByte_6 : decode cX12_reportByte 6 = .ok (.ifCond .lt 11, 3) := by decide +kernel
theorem dX12_reportByte_9 : decode cX12_reportByte 9 = .ok (.iload_n 1, 1) := by decide +kernel
theorem dX12_reportByte_10 : decode cX12_reportByte 10 = .ok (.aload_n 0, 1) := by decide +kernel
theorem dX12_reportByte_11 : decode cX12_reportByte 11 = .ok (.getfield 330, 3) := by decide +kernel
theorem dX12_reportByte_14 : decode cX12_reportByte 14 = .ok (.if_icmp .lt 7, 3) := by decide +kernel
theorem dX12_reportByte_17 : decode cX12_reportByte 17 = .ok (.iconst (-1), 1) := by decide +kernel
theorem dX12_reportByte_18 : decode cX12_reportByte 18 = .ok (.goto 9, 3) := by decide +kernel
theorem dX12_reportByte_21 : decode cX12_reportByte 21 = .ok (.aload_n 0, 1) := by decide +kernel
theorem dX12_reportByte_22 : decode cX12_reportByte 22 = .ok (.getfield 27, 3) := by decide +kernel
theorem dX12_reportByte_25 : decode cX12_reportByte 25 = .ok (.iload_n 1, 1) := by decide +kernel
theorem dX12_reportByte_26 : decode cX12_reportByte 26 = .ok (.baload, 1) := by decide +kernel
theorem dX12_reportByte_27 : decode cX12_reportByte 27 = .ok (.ireturn, 1) := by decide +kernel
theorem dJ6_bitCount_0f7a4_0 : decode cJ6_bitCount_0f7a4 0 = .ok (.iload_n 0, 1) := by decide +kernel
theorem dJ6_bitCount_0f7a4_1 : decode cJ6_bitCount_0f7a4 1 = .ok (.iload_n 0, 1) := by decide +kernel
theorem dJ6_bitCount_0f7a4_2 : decode cJ6_bitCount_0f7a4 2 = .ok (.iconst 1, 1) := by decide +kernel
theorem dJ6_bitCount_0f7a4_3 : decode cJ6_bitCount_0f7a4 3 = .ok (.iushr, 1) := by decide +kernel
theorem dJ6_bitCount_0f7a4_4 : decode cJ6_bitCount_0f7a4 4 = .ok (.ldc_w 265, 3) := by decide +kernel
theorem dJ6_bitCount_0f7a4_7 : decode cJ6_bitCount_0f7a4 7 = .ok (.iand, 1) := by decide +kernel
theorem dJ6_bitCount_0f7a4_8 : decode cJ6_bitCount_0f7a4 8 = .ok (.isub, 1) := by decide +kernel
theorem dJ6_bitCount_0f7a4_9 : decode cJ6_bitCount_0f7a4 9 = .ok (.istore_n 0, 1) := by decide +kernel
theorem dJ6_bitCount_0f7a4_10 : decode cJ6_bitCount_0f7a4 10 = .ok (.iload_n 0, 1) := by decide +kernel
theorem dJ6_bitCount_0f7a4_11 : decode cJ6_bitCount_0f7a4 11 = .ok (.ldc_w 266, 3) := by decide +kernel
theorem dJ6_bitCount_0f7a4_14 : decode cJ6_bitCount_0f7a4 14 = .ok (.iand, 1) := by decide +kernel
theorem dJ6_bitCount_0f7a4_15 : decode cJ6_bitCount_0f7a4 15 = .ok (.iload_n 0, 1) := by decide +kernel
theorem dJ6_bitCount_0f7a4_16 : decode cJ6_bitCount_0f7a4 16 = .ok (.iconst 2, 1) := by decide +kernel
theorem dJ6_bitCount_0f7a4_17 : decode cJ6_bitCount_0f7a4 17 = .ok (.iushr, 1) := by decide +kernel
theorem dJ6_bitCount_0f7a4_18 : decode cJ6_bitCount_0f7a4 18 = .ok (.ldc_w 266, 3) := by decide +kernel
theorem dJ6_bitCount_0f7a4_21 : decode cJ6_bitCount_0f7a4 21 = .ok (.iand, 1) := by decide +kernel
theorem dJ6_bitCount_0f7a4_22 : decode cJ6_bitCount_0f7a4 22 = .ok (.iadd, 1) := by decide +kernel
theorem dJ6_bitCount_0f7a4_23 : decode cJ6_bitCount_0f7a4 23 = .ok (.istore_n 0, 1) := by decide +kernel
theorem dJ6_bitCount_0f7a4_24 : decode cJ6_bitCount_0f7a4 24 = .ok (.iload_n 0, 1) := by decide +kernel
theorem dJ6_bitCount_0f7a4_25 : decode cJ6_bitCount_0f7a4 25 = .ok (.iload_n 0, 1) := by decide +kernel
theorem dJ6_bitCount_0f7a4_26 : decode cJ6_bitCount_0f7a4 26 = .ok (.iconst 4, 1) := by decide +kernel
theorem dJ6_bitCount_0f7a4_27 : decode cJ6_bitCount_0f7a4 27 = .ok (.iushr, 1) := by decide +kernel
theorem dJ6_bitCount_0f7a4_28 : decode cJ6_bitCount_0f7a4 28 = .ok (.iadd, 1) := by decide +kernel
theorem dJ6_bitCount_0f7a4_29 : decode cJ6_bitCount_0f7a4 29 = .ok (.ldc_w 267, 3) := by decide +kernel
theorem dJ6_bitCount_0f7a4_32 : decode cJ6_bitCount_0f7a4 32 = .ok (.iand, 1) := by decide +kernel
theorem dJ6_bitCount_0f7a4_33 : decode cJ6_bitCount_0f7a4 33 = .ok (.istore_n 0, 1) := by decide +kernel
theorem dJ6_bitCount_0f7a4_34 : decode cJ6_bitCount_0f7a4 34 = .ok (.iload_n 0, 1) := by decide +kernel
theorem dJ6_bitCount_0f7a4_35 : decode cJ6_bitCount_0f7a4 35 = .ok (.iload_n 0, 1) := by decide +kernel
theorem dJ6_bitCount_0f7a4_36 : decode cJ6_bitCount_0f7a4 36 = .ok (.bipush 8, 2) := by decide +kernel
theorem dJ6_bitCount_0f7a4_38 : decode cJ6_bitCount_0f7a4 38 = .ok (.iushr, 1) := by decide +kernel
theorem dJ6_bitCount_0f7a4_39 : decode cJ6_bitCount_0f7a4 39 = .ok (.iadd, 1) := by decide +kernel
theorem dJ6_bitCount_0f7a4_40 : decode cJ6_bitCount_0f7a4 40 = .ok (.istore_n 0, 1) := by decide +kernel
theorem dJ6_bitCount_0f7a4_41 : decode cJ6_bitCount_0f7a4 41 = .ok (.iload_n 0, 1) := by decide +kernel
theorem dJ6_bitCount_0f7a4_42 : decode cJ6_bitCount_0f7a4 42 = .ok (.iload_n 0, 1) := by decide +kernel
theorem dJ6_bitCount_0f7a4_43 : decode cJ6_bitCount_0f7a4 43 = .ok (.bipush 16, 2) := by decide +kernel
theorem dJ6_bitCount_0f7a4_45 : decode cJ6_bitCount_0f7a4 45 = .ok (.iushr, 1) := by decide +kernel
theorem dJ6_bitCount_0f7a4_46 : decode cJ6_bitCount_0f7a4 46 = .ok (.iadd, 1) := by decide +kernel
theorem dJ6_bitCount_0f7a4_47 : decode cJ6_bitCount_0f7a4 47 = .ok (.istore_n 0, 1) := by decide +kernel
theorem dJ6_bitCount_0f7a4_48 : decode cJ6_bitCount_0f7a4 48 = .ok (.iload_n 0, 1) := by decide +kernel
theorem dJ6_bitCount_0f7a4_49 : decode cJ6_bitCount_0f7a4 49 = .ok (.bipush 63, 2) := by decide +kernel
theorem dJ6_bitCount_0f7a4_51 : decode cJ6_bitCount_0f7a4 51 = .ok (.iand, 1) := by decide +kernel
theorem dJ6_bitCount_0f7a4_52 : decode cJ6_bitCount_0f7a4 52 = .ok (.ireturn, 1) := by decide +kernel
theorem dJ9_max_7cf53_0 : decode cJ9_max_7cf53 0 = .ok (.iload_n 0, 1) := by decide +kernel
theorem dJ9_max_7cf53_1 : decode cJ9_max_7cf53 1 = .ok (.iload_n 1, 1) := by decide +kernel
theorem dJ9_max_7cf53_2 : decode cJ9_max_7cf53 2 = .ok (.if_icmp .lt 7, 3) := by decide +kernel
theorem dJ9_max_7cf53_5 : decode cJ9_max_7cf53 5 = .ok (.iload_n 0, 1) := by decide +kernel
theorem dJ9_max_7cf53_6 : decode cJ9_max_7cf53 6 = .ok (.goto 4, 3) := by decide +kernel
theorem dJ9_max_7cf53_9 : decode cJ9_max_7cf53 9 = .ok (.iload_n 1, 1) := by decide +kernel
theorem dJ9_max_7cf53_10 : decode cJ9_max_7cf53 10 = .ok (.ireturn, 1) := by decide +kernel
theorem dJ9_min_7cf53_0 : decode cJ9_min_7cf53 0 = .ok (.iload_n 0, 1) := by decide +kernel
theorem dJ9_min_7cf53_1 : decode cJ9_min_7cf53 1 = .ok (.iload_n 1, 1) := by decide +kernel
theorem dJ9_min_7cf53_2 : decode cJ9_min_7cf53 2 = .ok (.if_icmp .gt 7, 3) := by decide +kernel
theorem dJ9_min_7cf53_5 : decode cJ9_min_7cf53 5 = .ok (.iload_n 0, 1) := by decide +kernel
theorem dJ9_min_7cf53_6 : decode cJ9_min_7cf53 6 = .ok (.goto 4, 3) := by decide +kernel
theorem dJ9_min_7cf53_9 : decode cJ9_min_7cf53 9 = .ok (.iload_n 1, 1) := by decide +kernel
theorem dJ9_min_7cf53_10 : decode cJ9_min_7cf53 10 = .ok (.ireturn, 1) := by decide +kernel
theorem dJ0_length_8abf5_0 : decode cJ0_length_8abf5 0 = .ok (.aload_n 0, 1) := by decide +kernel
theorem dJ0_length_8abf5_1 : decode cJ0_length_8abf5 1 = .ok (.getfield 9, 3) := by decide +kernel
theorem dJ0_length_8abf5_4 : decode cJ0_length_8abf5 4 = .ok (.arraylength, 1) := by decide +kernel
theorem dJ0_length_8abf5_5 : decode cJ0_length_8abf5 5 = .ok (.aload_n 0, 1) := by decide +kernel
theorem dJ0_length_8abf5_6 : decode cJ0_length_8abf5 6 = .ok (.invokevirtual 335, 3) := by decide +kernel
theorem dJ0_length_8abf5_9 : decode cJ0_length_8abf5 9 = .ok (.ishr, 1) := by decide +kernel
theorem dJ0_length_8abf5_10 : decode cJ0_length_8abf5 10 = .ok (.ireturn, 1) := by decide +kernel
theorem dJ0_charAt_5068e_0 : decode cJ0_charAt_5068e 0 = .ok (.aload_n 0, 1) := by decide +kernel
theorem dJ0_charAt_5068e_1 : decode cJ0_charAt_5068e 1 = .ok (.invokevirtual 492, 3) := by decide +kernel
theorem dJ0_charAt_5068e_4 : decode cJ0_charAt_5068e 4 = .ok (.ifCond .eq 12, 3) := by decide +kernel
theorem dJ0_charAt_5068e_7 : decode cJ0_charAt_5068e 7 = .ok (.aload_n 0, 1) := by decide +kernel
theorem dJ0_charAt_5068e_8 : decode cJ0_charAt_5068e 8 = .ok (.getfield 9, 3) := by decide +kernel
theorem dJ0_charAt_5068e_11 : decode cJ0_charAt_5068e 11 = .ok (.iload_n 1, 1) := by decide +kernel
theorem dJ0_charAt_5068e_12 : decode cJ0_charAt_5068e 12 = .ok (.invokestatic 495, 3) := by decide +kernel
theorem dJ0_charAt_5068e_15 : decode cJ0_charAt_5068e 15 = .ok (.ireturn, 1) := by decide +kernel
theorem dJ0_charAt_5068e_16 : decode cJ0_charAt_5068e 16 = .ok (.aload_n 0, 1) := by decide +kernel
theorem dJ0_charAt_5068e_17 : decode cJ0_charAt_5068e 17 = .ok (.getfield 9, 3) := by decide +kernel
theorem dJ0_charAt_5068e_20 : decode cJ0_charAt_5068e 20 = .ok (.iload_n 1, 1) := by decide +kernel
theorem dJ0_charAt_5068e_21 : decode cJ0_charAt_5068e 21 = .ok (.invokestatic 498, 3) := by decide +kernel
theorem dJ0_charAt_5068e_24 : decode cJ0_charAt_5068e 24 = .ok (.ireturn, 1) := by decide +kernel
theorem dJ0_coder_7d493_0 : decode cJ0_coder_7d493 0 = .ok (.getstatic 38, 3) := by decide +kernel
theorem dJ0_coder_7d493_3 : decode cJ0_coder_7d493 3 = .ok (.ifCond .eq 10, 3) := by decide +kernel
theorem dJ0_coder_7d493_6 : decode cJ0_coder_7d493 6 = .ok (.aload_n 0, 1) := by decide +kernel
theorem dJ0_coder_7d493_7 : decode cJ0_coder_7d493 7 = .ok (.getfield 15, 3) := by decide +kernel
theorem dJ0_coder_7d493_10 : decode cJ0_coder_7d493 10 = .ok (.goto 4, 3) := by decide +kernel
theorem dJ0_coder_7d493_13 : decode cJ0_coder_7d493 13 = .ok (.iconst 1, 1) := by decide +kernel
theorem dJ0_coder_7d493_14 : decode cJ0_coder_7d493 14 = .ok (.ireturn, 1) := by decide +kernel
theorem dJ0_isLatin1_aae02_0 : decode cJ0_isLatin1_aae02 0 = .ok (.getstatic 38, 3) := by decide +kernel
theorem dJ0_isLatin1_aae02_3 : decode cJ0_isLatin1_aae02 3 = .ok (.ifCond .eq 14, 3) := by decide +kernel
theorem dJ0_isLatin1_aae02_6 : decode cJ0_isLatin1_aae02 6 = .ok (.aload_n 0, 1) := by decide +kernel
theorem dJ0_isLatin1_aae02_7 : decode cJ0_isLatin1_aae02 7 = .ok (.getfield 15, 3) := by decide +kernel
theorem dJ0_isLatin1_aae02_10 : decode cJ0_isLatin1_aae02 10 = .ok (.ifCond .ne 7, 3) := by decide +kernel
theorem dJ0_isLatin1_aae02_13 : decode cJ0_isLatin1_aae02 13 = .ok (.iconst 1, 1) := by decide +kernel
theorem dJ0_isLatin1_aae02_14 : decode cJ0_isLatin1_aae02 14 = .ok (.goto 4, 3) := by decide +kernel
theorem dJ0_isLatin1_aae02_17 : decode cJ0_isLatin1_aae02 17 = .ok (.iconst 0, 1) := by decide +kernel
theorem dJ0_isLatin1_aae02_18 : decode cJ0_isLatin1_aae02 18 = .ok (.ireturn, 1) := by decide +kernel
theorem dJ0_checkIndex_df160_0 : decode cJ0_checkIndex_df160 0 = .ok (.iload_n 0, 1) := by decide +kernel
theorem dJ0_checkIndex_df160_1 : decode cJ0_checkIndex_df160 1 = .ok (.iload_n 1, 1) := by decide +kernel
theorem dJ0_checkIndex_df160_2 : decode cJ0_checkIndex_df160 2 = .ok (.getstatic 1053, 3) := by decide +kernel
theorem dJ0_checkIndex_df160_5 : decode cJ0_checkIndex_df160 5 = .ok (.invokestatic 1059, 3) := by decide +kernel
theorem dJ0_checkIndex_df160_8 : decode cJ0_checkIndex_df160 8 = .ok (.pop, 1) := by decide +kernel
theorem dJ0_checkIndex_df160_9 : decode cJ0_checkIndex_df160 9 = .ok (.return_, 1) := by decide +kernel
theorem dJ1_charAt_3b067_0 : decode cJ1_charAt_3b067 0 = .ok (.iload_n 1, 1) := by decide +kernel
theorem dJ1_charAt_3b067_1 : decode cJ1_charAt_3b067 1 = .ok (.aload_n 0, 1) := by decide +kernel
theorem dJ1_charAt_3b067_2 : decode cJ1_charAt_3b067 2 = .ok (.arraylength, 1) := by decide +kernel
theorem dJ1_charAt_3b067_3 : decode cJ1_charAt_3b067 3 = .ok (.invokestatic 9, 3) := by decide +kernel
theorem dJ1_charAt_3b067_6 : decode cJ1_charAt_3b067 6 = .ok (.aload_n 0, 1) := by decide +kernel
theorem dJ1_charAt_3b067_7 : decode cJ1_charAt_3b067 7 = .ok (.iload_n 1, 1) := by decide +kernel
theorem dJ1_charAt_3b067_8 : decode cJ1_charAt_3b067 8 = .ok (.baload, 1) := by decide +kernel
theorem dJ1_charAt_3b067_9 : decode cJ1_charAt_3b067 9 = .ok (.sipush 255, 3) := by decide +kernel
theorem dJ1_charAt_3b067_12 : decode cJ1_charAt_3b067 12 = .ok (.iand, 1) := by decide +kernel
theorem dJ1_charAt_3b067_13 : decode cJ1_charAt_3b067 13 = .ok (.i2c, 1) := by decide +kernel
theorem dJ1_charAt_3b067_14 : decode cJ1_charAt_3b067 14 = .ok (.ireturn, 1) := by decide +kernel
theorem dJ2_getChar_3b067_0 : decode cJ2_getChar_3b067 0 = .ok (.getstatic 44, 3) := by decide +kernel
theorem dJ2_getChar_3b067_3 : decode cJ2_getChar_3b067 3 = .ok (.ifCond .ne 25, 3) := by decide +kernel
theorem dJ2_getChar_3b067_6 : decode cJ2_getChar_3b067 6 = .ok (.iload_n 1, 1) := by decide +kernel
theorem dJ2_getChar_3b067_7 : decode cJ2_getChar_3b067 7 = .ok (.ifCond .lt 11, 3) := by decide +kernel
theorem dJ2_getChar_3b067_10 : decode cJ2_getChar_3b067 10 = .ok (.iload_n 1, 1) := by decide +kernel
theorem dJ2_getChar_3b067_11 : decode cJ2_getChar_3b067 11 = .ok (.aload_n 0, 1) := by decide +kernel
theorem dJ2_getChar_3b067_12 : decode cJ2_getChar_3b067 12 = .ok (.invokestatic 48, 3) := by decide +kernel
theorem dJ2_getChar_3b067_15 : decode cJ2_getChar_3b067 15 = .ok (.if_icmp .lt 13, 3) := by decide +kernel
theorem dJ2_getChar_3b067_18 : decode cJ2_getChar_3b067 18 = .ok (.new 52, 3) := by decide +kernel
theorem dJ2_getChar_3b067_21 : decode cJ2_getChar_3b067 21 = .ok (.dup, 1) := by decide +kernel
theorem dJ2_getChar_3b067_22 : decode cJ2_getChar_3b067 22 = .ok (.ldc 54, 2) := by decide +kernel
theorem dJ2_getChar_3b067_24 : decode cJ2_getChar_3b067 24 = .ok (.invokespecial 56, 3) := by decide +kernel
theorem dJ2_getChar_3b067_27 : decode cJ2_getChar_3b067 27 = .ok (.athrow, 1) := by decide +kernel
theorem dJ2_getChar_3b067_28 : decode cJ2_getChar_3b067 28 = .ok (.iload_n 1, 1) := by decide +kernel
theorem dJ2_getChar_3b067_29 : decode cJ2_getChar_3b067 29 = .ok (.iconst 1, 1) := by decide +kernel
theorem dJ2_getChar_3b067_30 : decode cJ2_getChar_3b067 30 = .ok (.ishl, 1) := by decide +kernel
theorem dJ2_getChar_3b067_31 : decode cJ2_getChar_3b067 31 = .ok (.istore_n 1, 1) := by decide +kernel
theorem dJ2_getChar_3b067_32 : decode cJ2_getChar_3b067 32 = .ok (.aload_n 0, 1) := by decide +kernel
theorem dJ2_getChar_3b067_33 : decode cJ2_getChar_3b067 33 = .ok (.iload_n 1, 1) := by decide +kernel
theorem dJ2_getChar_3b067_34 : decode cJ2_getChar_3b067 34 = .ok (.iinc 1 1, 3) := by decide +kernel
theorem dJ2_getChar_3b067_37 : decode cJ2_getChar_3b067 37 = .ok (.baload, 1) := by decide +kernel
theorem dJ2_getChar_3b067_38 : decode cJ2_getChar_3b067 38 = .ok (.sipush 255, 3) := by decide +kernel
theorem dJ2_getChar_3b067_41 : decode cJ2_getChar_3b067 41 = .ok (.iand, 1) := by decide +kernel
theorem dJ2_getChar_3b067_42 : decode cJ2_getChar_3b067 42 = .ok (.getstatic 59, 3) := by decide +kernel
theorem dJ2_getChar_3b067_45 : decode cJ2_getChar_3b067 45 = .ok (.ishl, 1) := by decide +kernel
theorem dJ2_getChar_3b067_46 : decode cJ2_getChar_3b067 46 = .ok (.aload_n 0, 1) := by decide +kernel
theorem dJ2_getChar_3b067_47 : decode cJ2_getChar_3b067 47 = .ok (.iload_n 1, 1) := by decide +kernel
theorem dJ2_getChar_3b067_48 : decode cJ2_getChar_3b067 48 = .ok (.baload, 1) := by decide +kernel
theorem dJ2_getChar_3b067_49 : decode cJ2_getChar_3b067 49 = .ok (.sipush 255, 3) := by decide +kernel
theorem dJ2_getChar_3b067_52 : decode cJ2_getChar_3b067 52 = .ok (.iand, 1) := by decide +kernel
theorem dJ2_getChar_3b067_53 : decode cJ2_getChar_3b067 53 = .ok (.getstatic 63, 3) := by decide +kernel
theorem dJ2_getChar_3b067_56 : decode cJ2_getChar_3b067 56 = .ok (.ishl, 1) := by decide +kernel
theorem dJ2_getChar_3b067_57 : decode cJ2_getChar_3b067 57 = .ok (.ior, 1) := by decide +kernel
theorem dJ2_getChar_3b067_58 : decode cJ2_getChar_3b067 58 = .ok (.i2c, 1) := by decide +kernel
theorem dJ2_getChar_3b067_59 : decode cJ2_getChar_3b067 59 = .ok (.ireturn, 1) := by decide +kernel
theorem dJ2_length_9d52b_0 : decode cJ2_length_9d52b 0 = .ok (.aload_n 0, 1) := by decide +kernel
theorem dJ2_length_9d52b_1 : decode cJ2_length_9d52b 1 = .ok (.arraylength, 1) := by decide +kernel
theorem dJ2_length_9d52b_2 : decode cJ2_length_9d52b 2 = .ok (.iconst 1, 1) := by decide +kernel
theorem dJ2_length_9d52b_3 : decode cJ2_length_9d52b 3 = .ok (.ishr, 1) := by decide +kernel
theorem dJ2_length_9d52b_4 : decode cJ2_length_9d52b 4 = .ok (.ireturn, 1) := by decide +kernel
theorem dJ2_charAt_3b067_0 : decode cJ2_charAt_3b067 0 = .ok (.iload_n 1, 1) := by decide +kernel
theorem dJ2_charAt_3b067_1 : decode cJ2_charAt_3b067 1 = .ok (.aload_n 0, 1) := by decide +kernel
theorem dJ2_charAt_3b067_2 : decode cJ2_charAt_3b067 2 = .ok (.invokestatic 67, 3) := by decide +kernel
theorem dJ2_charAt_3b067_5 : decode cJ2_charAt_3b067 5 = .ok (.aload_n 0, 1) := by decide +kernel
theorem dJ2_charAt_3b067_6 : decode cJ2_charAt_3b067 6 = .ok (.iload_n 1, 1) := by decide +kernel
theorem dJ2_charAt_3b067_7 : decode cJ2_charAt_3b067 7 = .ok (.invokestatic 71, 3) := by decide +kernel
theorem dJ2_charAt_3b067_10 : decode cJ2_charAt_3b067 10 = .ok (.ireturn, 1) := by decide +kernel
theorem dJ2_checkIndex_2214a_0 : decode cJ2_checkIndex_2214a 0 = .ok (.iload_n 0, 1) := by decide +kernel
theorem dJ2_checkIndex_2214a_1 : decode cJ2_checkIndex_2214a 1 = .ok (.aload_n 1, 1) := by decide +kernel
theorem dJ2_checkIndex_2214a_2 : decode cJ2_checkIndex_2214a 2 = .ok (.invokestatic 48, 3) := by decide +kernel
theorem dJ2_checkIndex_2214a_5 : decode cJ2_checkIndex_2214a 5 = .ok (.invokestatic 414, 3) := by decide +kernel
theorem dJ2_checkIndex_2214a_8 : decode cJ2_checkIndex_2214a 8 = .ok (.return_, 1) := by decide +kernel
theorem dJ3_checkIndex_8e157_0 : decode cJ3_checkIndex_8e157 0 = .ok (.iload_n 0, 1) := by decide +kernel
theorem dJ3_checkIndex_8e157_1 : decode cJ3_checkIndex_8e157 1 = .ok (.ifCond .lt 8, 3) := by decide +kernel
theorem dJ3_checkIndex_8e157_4 : decode cJ3_checkIndex_8e157 4 = .ok (.iload_n 0, 1) := by decide +kernel
theorem dJ3_checkIndex_8e157_5 : decode cJ3_checkIndex_8e157 5 = .ok (.iload_n 1, 1) := by decide +kernel
theorem dJ3_checkIndex_8e157_6 : decode cJ3_checkIndex_8e157 6 = .ok (.if_icmp .lt 10, 3) := by decide +kernel
theorem dJ3_checkIndex_8e157_9 : decode cJ3_checkIndex_8e157 9 = .ok (.aload_n 2, 1) := by decide +kernel
theorem dJ3_checkIndex_8e157_10 : decode cJ3_checkIndex_8e157 10 = .ok (.iload_n 0, 1) := by decide +kernel
theorem dJ3_checkIndex_8e157_11 : decode cJ3_checkIndex_8e157 11 = .ok (.iload_n 1, 1) := by decide +kernel
theorem dJ3_checkIndex_8e157_12 : decode cJ3_checkIndex_8e157 12 = .ok (.invokestatic 95, 3) := by decide +kernel
theorem dJ3_checkIndex_8e157_15 : decode cJ3_checkIndex_8e157 15 = .ok (.athrow, 1) := by decide +kernel
theorem dJ3_checkIndex_8e157_16 : decode cJ3_checkIndex_8e157 16 = .ok (.iload_n 0, 1) := by decide +kernel
theorem dJ3_checkIndex_8e157_17 : decode cJ3_checkIndex_8e157 17 = .ok (.ireturn, 1) := by decide +kernel
theorem dL_truncateInput_0 : decode cL_truncateInput 0 = .ok (.aload_n 2, 1) := by decide +kernel
theorem dL_truncateInput_1 : decode cL_truncateInput 1 = .ok (.iconst 0, 1) := by decide +kernel
theorem dL_truncateInput_2 : decode cL_truncateInput 2 = .ok (.aload_n 0, 1) := by decide +kernel
theorem dL_truncateInput_3 : decode cL_truncateInput 3 = .ok (.iload_n 1, 1) := by decide +kernel
theorem dL_truncateInput_4 : decode cL_truncateInput 4 = .ok (.invokevirtual 7, 3) := by decide +kernel
theorem dL_truncateInput_7 : decode cL_truncateInput 7 = .ok (.i2l, 1) := by decide +kernel
theorem dL_truncateInput_8 : decode cL_truncateInput 8 = .ok (.lastore, 1) := by decide +kernel
theorem dL_truncateInput_9 : decode cL_truncateInput 9 = .ok (.goto 6, 3) := by decide +kernel
theorem dL_truncateInput_12 : decode cL_truncateInput 12 = .ok (.astore_n 3, 1) := by decide +kernel
theorem dL_truncateInput_13 : decode cL_truncateInput 13 = .ok (.iconst 1, 1) := by decide +kernel
theorem dL_truncateInput_14 : decode cL_truncateInput 14 = .ok (.ireturn, 1) := by decide +kernel
theorem dL_truncateInput_15 : decode cL_truncateInput 15 = .ok (.iconst 0, 1) := by decide +kernel
theorem dL_truncateInput_16 : decode cL_truncateInput 16 = .ok (.ireturn, 1) := by decide +kernel
theorem dL_setPrice_0 : decode cL_setPrice 0 = .ok (.aload_n 3, 1) := by decide +kernel
theorem dL_setPrice_1 : decode cL_setPrice 1 = .ok (.iconst 0, 1) := by decide +kernel
theorem dL_setPrice_2 : decode cL_setPrice 2 = .ok (.aload_n 0, 1) := by decide +kernel
theorem dL_setPrice_3 : decode cL_setPrice 3 = .ok (.iload_n 1, 1) := by decide +kernel
theorem dL_setPrice_4 : decode cL_setPrice 4 = .ok (.iload_n 2, 1) := by decide +kernel
theorem dL_setPrice_5 : decode cL_setPrice 5 = .ok (.invokevirtual 15, 3) := by decide +kernel
theorem dL_setPrice_8 : decode cL_setPrice 8 = .ok (.i2l, 1) := by decide +kernel
theorem dL_setPrice_9 : decode cL_setPrice 9 = .ok (.lastore, 1) := by decide +kernel
theorem dL_setPrice_10 : decode cL_setPrice 10 = .ok (.goto 11, 3) := by decide +kernel
theorem dL_setPrice_13 : decode cL_setPrice 13 = .ok (.astore 4, 2) := by decide +kernel
theorem dL_setPrice_15 : decode cL_setPrice 15 = .ok (.iconst 1, 1) := by decide +kernel
theorem dL_setPrice_16 : decode cL_setPrice 16 = .ok (.ireturn, 1) := by decide +kernel
theorem dL_setPrice_17 : decode cL_setPrice 17 = .ok (.astore 4, 2) := by decide +kernel
theorem dL_setPrice_19 : decode cL_setPrice 19 = .ok (.iconst 2, 1) := by decide +kernel
theorem dL_setPrice_20 : decode cL_setPrice 20 = .ok (.ireturn, 1) := by decide +kernel
theorem dL_setPrice_21 : decode cL_setPrice 21 = .ok (.iconst 0, 1) := by decide +kernel
theorem dL_setPrice_22 : decode cL_setPrice 22 = .ok (.ireturn, 1) := by decide +kernel
theorem dL_setRate_0 : decode cL_setRate 0 = .ok (.aload_n 2, 1) := by decide +kernel
theorem dL_setRate_1 : decode cL_setRate 1 = .ok (.iconst 0, 1) := by decide +kernel
theorem dL_setRate_2 : decode cL_setRate 2 = .ok (.aload_n 0, 1) := by decide +kernel
theorem dL_setRate_3 : decode cL_setRate 3 = .ok (.iload_n 1, 1) := by decide +kernel
theorem dL_setRate_4 : decode cL_setRate 4 = .ok (.invokevirtual 21, 3) := by decide +kernel
theorem dL_setRate_7 : decode cL_setRate 7 = .ok (.i2l, 1) := by decide +kernel
theorem dL_setRate_8 : decode cL_setRate 8 = .ok (.lastore, 1) := by decide +kernel
theorem dL_setRate_9 : decode cL_setRate 9 = .ok (.goto 6, 3) := by decide +kernel
theorem dL_setRate_12 : decode cL_setRate 12 = .ok (.astore_n 3, 1) := by decide +kernel
theorem dL_setRate_13 : decode cL_setRate 13 = .ok (.iconst 1, 1) := by decide +kernel
theorem dL_setRate_14 : decode cL_setRate 14 = .ok (.ireturn, 1) := by decide +kernel
theorem dL_setRate_15 : decode cL_setRate 15 = .ok (.iconst 0, 1) := by decide +kernel
theorem dL_setRate_16 : decode cL_setRate 16 = .ok (.ireturn, 1) := by decide +kernel
theorem dL_layBed_0 : decode cL_layBed 0 = .ok (.aload 5, 2) := by decide +kernel
theorem dL_layBed_2 : decode cL_layBed 2 = .ok (.iconst 0, 1) := by decide +kernel
theorem dL_layBed_3 : decode cL_layBed 3 = .ok (.aload_n 0, 1) := by decide +kernel
theorem dL_layBed_4 : decode cL_layBed 4 = .ok (.iload_n 1, 1) := by decide +kernel
theorem dL_layBed_5 : decode cL_layBed 5 = .ok (.iload_n 2, 1) := by decide +kernel
theorem dL_layBed_6 : decode cL_layBed 6 = .ok (.iload_n 3, 1) := by decide +kernel
theorem dL_layBed_7 : decode cL_layBed 7 = .ok (.iload 4, 2) := by decide +kernel
theorem dL_layBed_9 : decode cL_layBed 9 = .ok (.invokevirtual 24, 3) := by decide +kernel
theorem dL_layBed_12 : decode cL_layBed 12 = .ok (.i2l, 1) := by decide +kernel
theorem dL_layBed_13 : decode cL_layBed 13 = .ok (.lastore, 1) := by decide +kernel
theorem dL_layBed_14 : decode cL_layBed 14 = .ok (.goto 15, 3) := by decide +kernel
theorem dL_layBed_17 : decode cL_layBed 17 = .ok (.astore 6, 2) := by decide +kernel
theorem dL_layBed_19 : decode cL_layBed 19 = .ok (.iconst 1, 1) := by decide +kernel
theorem dL_layBed_20 : decode cL_layBed 20 = .ok (.ireturn, 1) := by decide +kernel
theorem dL_layBed_21 : decode cL_layBed 21 = .ok (.astore 6, 2) := by decide +kernel
theorem dL_layBed_23 : decode cL_layBed 23 = .ok (.iconst 2, 1) := by decide +kernel
theorem dL_layBed_24 : decode cL_layBed 24 = .ok (.ireturn, 1) := by decide +kernel
theorem dL_layBed_25 : decode cL_layBed 25 = .ok (.astore 6, 2) := by decide +kernel
theorem dL_layBed_27 : decode cL_layBed 27 = .ok (.iconst 3, 1) := by decide +kernel
theorem dL_layBed_28 : decode cL_layBed 28 = .ok (.ireturn, 1) := by decide +kernel
theorem dL_layBed_29 : decode cL_layBed 29 = .ok (.iconst 0, 1) := by decide +kernel
theorem dL_layBed_30 : decode cL_layBed 30 = .ok (.ireturn, 1) := by decide +kernel
theorem dL_setPeacocks_0 : decode cL_setPeacocks 0 = .ok (.aload_n 3, 1) := by decide +kernel
theorem dL_setPeacocks_1 : decode cL_setPeacocks 1 = .ok (.iconst 0, 1) := by decide +kernel
theorem dL_setPeacocks_2 : decode cL_setPeacocks 2 = .ok (.aload_n 0, 1) := by decide +kernel
theorem dL_setPeacocks_3 : decode cL_setPeacocks 3 = .ok (.iload_n 1, 1) := by decide +kernel
theorem dL_setPeacocks_4 : decode cL_setPeacocks 4 = .ok (.iload_n 2, 1) := by decide +kernel
theorem dL_setPeacocks_5 : decode cL_setPeacocks 5 = .ok (.invokevirtual 30, 3) := by decide +kernel
theorem dL_setPeacocks_8 : decode cL_setPeacocks 8 = .ok (.i2l, 1) := by decide +kernel
theorem dL_setPeacocks_9 : decode cL_setPeacocks 9 = .ok (.lastore, 1) := by decide +kernel
theorem dL_setPeacocks_10 : decode cL_setPeacocks 10 = .ok (.goto 7, 3) := by decide +kernel
theorem dL_setPeacocks_13 : decode cL_setPeacocks 13 = .ok (.astore 4, 2) := by decide +kernel
theorem dL_setPeacocks_15 : decode cL_setPeacocks 15 = .ok (.iconst 1, 1) := by decide +kernel
theorem dL_setPeacocks_16 : decode cL_setPeacocks 16 = .ok (.ireturn, 1) := by decide +kernel
theorem dL_setPeacocks_17 : decode cL_setPeacocks 17 = .ok (.iconst 0, 1) := by decide +kernel
theorem dL_setPeacocks_18 : decode cL_setPeacocks 18 = .ok (.ireturn, 1) := by decide +kernel
theorem dL_setPause_0 : decode cL_setPause 0 = .ok (.aload_n 2, 1) := by decide +kernel
theorem dL_setPause_1 : decode cL_setPause 1 = .ok (.iconst 0, 1) := by decide +kernel
theorem dL_setPause_2 : decode cL_setPause 2 = .ok (.aload_n 0, 1) := by decide +kernel
theorem dL_setPause_3 : decode cL_setPause 3 = .ok (.iload_n 1, 1) := by decide +kernel
theorem dL_setPause_4 : decode cL_setPause 4 = .ok (.invokevirtual 33, 3) := by decide +kernel
theorem dL_setPause_7 : decode cL_setPause 7 = .ok (.i2l, 1) := by decide +kernel
theorem dL_setPause_8 : decode cL_setPause 8 = .ok (.lastore, 1) := by decide +kernel
theorem dL_setPause_9 : decode cL_setPause 9 = .ok (.goto 6, 3) := by decide +kernel
theorem dL_setPause_12 : decode cL_setPause 12 = .ok (.astore_n 3, 1) := by decide +kernel
theorem dL_setPause_13 : decode cL_setPause 13 = .ok (.iconst 1, 1) := by decide +kernel
theorem dL_setPause_14 : decode cL_setPause 14 = .ok (.ireturn, 1) := by decide +kernel
theorem dL_setPause_15 : decode cL_setPause 15 = .ok (.iconst 0, 1) := by decide +kernel
theorem dL_setPause_16 : decode cL_setPause 16 = .ok (.ireturn, 1) := by decide +kernel
theorem dL_sell_0 : decode cL_sell 0 = .ok (.aload 5, 2) := by decide +kernel
theorem dL_sell_2 : decode cL_sell 2 = .ok (.iconst 0, 1) := by decide +kernel
theorem dL_sell_3 : decode cL_sell 3 = .ok (.aload_n 0, 1) := by decide +kernel
theorem dL_sell_4 : decode cL_sell 4 = .ok (.iload_n 1, 1) := by decide +kernel
theorem dL_sell_5 : decode cL_sell 5 = .ok (.iload_n 2, 1) := by decide +kernel
theorem dL_sell_6 : decode cL_sell 6 = .ok (.iload_n 3, 1) := by decide +kernel
theorem dL_sell_7 : decode cL_sell 7 = .ok (.iload 4, 2) := by decide +kernel
theorem dL_sell_9 : decode cL_sell 9 = .ok (.invokevirtual 36, 3) := by decide +kernel
theorem dL_sell_12 : decode cL_sell 12 = .ok (.i2l, 1) := by decide +kernel
theorem dL_sell_13 : decode cL_sell 13 = .ok (.lastore, 1) := by decide +kernel
theorem dL_sell_14 : decode cL_sell 14 = .ok (.goto 11, 3) := by decide +kernel
theorem dL_sell_17 : decode cL_sell 17 = .ok (.astore 6, 2) := by decide +kernel
theorem dL_sell_19 : decode cL_sell 19 = .ok (.iconst 1, 1) := by decide +kernel
theorem dL_sell_20 : decode cL_sell 20 = .ok (.ireturn, 1) := by decide +kernel
theorem dL_sell_21 : decode cL_sell 21 = .ok (.astore 6, 2) := by decide +kernel
theorem dL_sell_23 : decode cL_sell 23 = .ok (.iconst 2, 1) := by decide +kernel
theorem dL_sell_24 : decode cL_sell 24 = .ok (.ireturn, 1) := by decide +kernel
theorem dL_sell_25 : decode cL_sell 25 = .ok (.iconst 0, 1) := by decide +kernel
theorem dL_sell_26 : decode cL_sell 26 = .ok (.ireturn, 1) := by decide +kernel
theorem dL_extend_0 : decode cL_extend 0 = .ok (.aload_n 3, 1) := by decide +kernel
theorem dL_extend_1 : decode cL_extend 1 = .ok (.iconst 0, 1) := by decide +kernel
theorem dL_extend_2 : decode cL_extend 2 = .ok (.aload_n 0, 1) := by decide +kernel
theorem dL_extend_3 : decode cL_extend 3 = .ok (.iload_n 1, 1) := by decide +kernel
theorem dL_extend_4 : decode cL_extend 4 = .ok (.iload_n 2, 1) := by decide +kernel
theorem dL_extend_5 : decode cL_extend 5 = .ok (.invokevirtual 39, 3) := by decide +kernel
theorem dL_extend_8 : decode cL_extend 8 = .ok (.i2l, 1) := by decide +kernel
theorem dL_extend_9 : decode cL_extend 9 = .ok (.lastore, 1) := by decide +kernel
theorem dL_extend_10 : decode cL_extend 10 = .ok (.goto 15, 3) := by decide +kernel
theorem dL_extend_13 : decode cL_extend 13 = .ok (.astore 4, 2) := by decide +kernel
theorem dL_extend_15 : decode cL_extend 15 = .ok (.iconst 1, 1) := by decide +kernel
theorem dL_extend_16 : decode cL_extend 16 = .ok (.ireturn, 1) := by decide +kernel
theorem dL_extend_17 : decode cL_extend 17 = .ok (.astore 4, 2) := by decide +kernel
theorem dL_extend_19 : decode cL_extend 19 = .ok (.iconst 2, 1) := by decide +kernel
theorem dL_extend_20 : decode cL_extend 20 = .ok (.ireturn, 1) := by decide +kernel
theorem dL_extend_21 : decode cL_extend 21 = .ok (.astore 4, 2) := by decide +kernel
theorem dL_extend_23 : decode cL_extend 23 = .ok (.iconst 3, 1) := by decide +kernel
theorem dL_extend_24 : decode cL_extend 24 = .ok (.ireturn, 1) := by decide +kernel
theorem dL_extend_25 : decode cL_extend 25 = .ok (.iconst 0, 1) := by decide +kernel
theorem dL_extend_26 : decode cL_extend 26 = .ok (.ireturn, 1) := by decide +kernel
theorem dL_addScent_0 : decode cL_addScent 0 = .ok (.aload_n 3, 1) := by decide +kernel
theorem dL_addScent_1 : decode cL_addScent 1 = .ok (.iconst 0, 1) := by decide +kernel
theorem dL_addScent_2 : decode cL_addScent 2 = .ok (.aload_n 0, 1) := by decide +kernel
theorem dL_addScent_3 : decode cL_addScent 3 = .ok (.iload_n 1, 1) := by decide +kernel
theorem dL_addScent_4 : decode cL_addScent 4 = .ok (.iload_n 2, 1) := by decide +kernel
theorem dL_addScent_5 : decode cL_addScent 5 = .ok (.invokevirtual 42, 3) := by decide +kernel
theorem dL_addScent_8 : decode cL_addScent 8 = .ok (.i2l, 1) := by decide +kernel
theorem dL_addScent_9 : decode cL_addScent 9 = .ok (.lastore, 1) := by decide +kernel
theorem dL_addScent_10 : decode cL_addScent 10 = .ok (.goto 11, 3) := by decide +kernel
theorem dL_addScent_13 : decode cL_addScent 13 = .ok (.astore 4, 2) := by decide +kernel
theorem dL_addScent_15 : decode cL_addScent 15 = .ok (.iconst 1, 1) := by decide +kernel
theorem dL_addScent_16 : decode cL_addScent 16 = .ok (.ireturn, 1) := by decide +kernel
theorem dL_addScent_17 : decode cL_addScent 17 = .ok (.astore 4, 2) := by decide +kernel
theorem dL_addScent_19 : decode cL_addScent 19 = .ok (.iconst 2, 1) := by decide +kernel
theorem dL_addScent_20 : decode cL_addScent 20 = .ok (.ireturn, 1) := by decide +kernel
theorem dL_addScent_21 : decode cL_addScent 21 = .ok (.iconst 0, 1) := by decide +kernel
theorem dL_addScent_22 : decode cL_addScent 22 = .ok (.ireturn, 1) := by decide +kernel
theorem dL_reportLost_0 : decode cL_reportLost 0 = .ok (.aload_n 2, 1) := by decide +kernel
theorem dL_reportLost_1 : decode cL_reportLost 1 = .ok (.iconst 0, 1) := by decide +kernel
theorem dL_reportLost_2 : decode cL_reportLost 2 = .ok (.aload_n 0, 1) := by decide +kernel
theorem dL_reportLost_3 : decode cL_reportLost 3 = .ok (.iload_n 1, 1) := by decide +kernel
theorem dL_reportLost_4 : decode cL_reportLost 4 = .ok (.invokevirtual 45, 3) := by decide +kernel
theorem dL_reportLost_7 : decode cL_reportLost 7 = .ok (.i2l, 1) := by decide +kernel
theorem dL_reportLost_8 : decode cL_reportLost 8 = .ok (.lastore, 1) := by decide +kernel
theorem dL_reportLost_9 : decode cL_reportLost 9 = .ok (.goto 9, 3) := by decide +kernel
theorem dL_reportLost_12 : decode cL_reportLost 12 = .ok (.astore_n 3, 1) := by decide +kernel
theorem dL_reportLost_13 : decode cL_reportLost 13 = .ok (.iconst 1, 1) := by decide +kernel
theorem dL_reportLost_14 : decode cL_reportLost 14 = .ok (.ireturn, 1) := by decide +kernel
theorem dL_reportLost_15 : decode cL_reportLost 15 = .ok (.astore_n 3, 1) := by decide +kernel
theorem dL_reportLost_16 : decode cL_reportLost 16 = .ok (.iconst 2, 1) := by decide +kernel
theorem dL_reportLost_17 : decode cL_reportLost 17 = .ok (.ireturn, 1) := by decide +kernel
theorem dL_reportLost_18 : decode cL_reportLost 18 = .ok (.iconst 0, 1) := by decide +kernel
theorem dL_reportLost_19 : decode cL_reportLost 19 = .ok (.ireturn, 1) := by decide +kernel
theorem dL_replaceCard_0 : decode cL_replaceCard 0 = .ok (.aload_n 2, 1) := by decide +kernel
theorem dL_replaceCard_1 : decode cL_replaceCard 1 = .ok (.iconst 0, 1) := by decide +kernel
theorem dL_replaceCard_2 : decode cL_replaceCard 2 = .ok (.aload_n 0, 1) := by decide +kernel
theorem dL_replaceCard_3 : decode cL_replaceCard 3 = .ok (.iload_n 1, 1) := by decide +kernel
theorem dL_replaceCard_4 : decode cL_replaceCard 4 = .ok (.invokevirtual 48, 3) := by decide +kernel
theorem dL_replaceCard_7 : decode cL_replaceCard 7 = .ok (.i2l, 1) := by decide +kernel
theorem dL_replaceCard_8 : decode cL_replaceCard 8 = .ok (.lastore, 1) := by decide +kernel
theorem dL_replaceCard_9 : decode cL_replaceCard 9 = .ok (.goto 9, 3) := by decide +kernel
theorem dL_replaceCard_12 : decode cL_replaceCard 12 = .ok (.astore_n 3, 1) := by decide +kernel
theorem dL_replaceCard_13 : decode cL_replaceCard 13 = .ok (.iconst 1, 1) := by decide +kernel
theorem dL_replaceCard_14 : decode cL_replaceCard 14 = .ok (.ireturn, 1) := by decide +kernel
theorem dL_replaceCard_15 : decode cL_replaceCard 15 = .ok (.astore_n 3, 1) := by decide +kernel
theorem dL_replaceCard_16 : decode cL_replaceCard 16 = .ok (.iconst 2, 1) := by decide +kernel
theorem dL_replaceCard_17 : decode cL_replaceCard 17 = .ok (.ireturn, 1) := by decide +kernel
theorem dL_replaceCard_18 : decode cL_replaceCard 18 = .ok (.iconst 0, 1) := by decide +kernel
theorem dL_replaceCard_19 : decode cL_replaceCard 19 = .ok (.ireturn, 1) := by decide +kernel
theorem dL_refundPass_0 : decode cL_refundPass 0 = .ok (.aload_n 2, 1) := by decide +kernel
theorem dL_refundPass_1 : decode cL_refundPass 1 = .ok (.iconst 0, 1) := by decide +kernel
theorem dL_refundPass_2 : decode cL_refundPass 2 = .ok (.aload_n 0, 1) := by decide +kernel
theorem dL_refundPass_3 : decode cL_refundPass 3 = .ok (.iload_n 1, 1) := by decide +kernel
theorem dL_refundPass_4 : decode cL_refundPass 4 = .ok (.invokevirtual 51, 3) := by decide +kernel
theorem dL_refundPass_7 : decode cL_refundPass 7 = .ok (.i2l, 1) := by decide +kernel
theorem dL_refundPass_8 : decode cL_refundPass 8 = .ok (.lastore, 1) := by decide +kernel
theorem dL_refundPass_9 : decode cL_refundPass 9 = .ok (.goto 9, 3) := by decide +kernel
theorem dL_refundPass_12 : decode cL_refundPass 12 = .ok (.astore_n 3, 1) := by decide +kernel
theorem dL_refundPass_13 : decode cL_refundPass 13 = .ok (.iconst 1, 1) := by decide +kernel
theorem dL_refundPass_14 : decode cL_refundPass 14 = .ok (.ireturn, 1) := by decide +kernel
theorem dL_refundPass_15 : decode cL_refundPass 15 = .ok (.astore_n 3, 1) := by decide +kernel
theorem dL_refundPass_16 : decode cL_refundPass 16 = .ok (.iconst 2, 1) := by decide +kernel
theorem dL_refundPass_17 : decode cL_refundPass 17 = .ok (.ireturn, 1) := by decide +kernel
theorem dL_refundPass_18 : decode cL_refundPass 18 = .ok (.iconst 0, 1) := by decide +kernel
theorem dL_refundPass_19 : decode cL_refundPass 19 = .ok (.ireturn, 1) := by decide +kernel
theorem dL_visit_0 : decode cL_visit 0 = .ok (.aload_n 3, 1) := by decide +kernel
theorem dL_visit_1 : decode cL_visit 1 = .ok (.iconst 0, 1) := by decide +kernel
theorem dL_visit_2 : decode cL_visit 2 = .ok (.aload_n 0, 1) := by decide +kernel
theorem dL_visit_3 : decode cL_visit 3 = .ok (.iload_n 1, 1) := by decide +kernel
theorem dL_visit_4 : decode cL_visit 4 = .ok (.iload_n 2, 1) := by decide +kernel
theorem dL_visit_5 : decode cL_visit 5 = .ok (.invokevirtual 54, 3) := by decide +kernel
theorem dL_visit_8 : decode cL_visit 8 = .ok (.i2l, 1) := by decide +kernel
theorem dL_visit_9 : decode cL_visit 9 = .ok (.lastore, 1) := by decide +kernel
theorem dL_visit_10 : decode cL_visit 10 = .ok (.goto 7, 3) := by decide +kernel
theorem dL_visit_13 : decode cL_visit 13 = .ok (.astore 4, 2) := by decide +kernel
theorem dL_visit_15 : decode cL_visit 15 = .ok (.iconst 1, 1) := by decide +kernel
theorem dL_visit_16 : decode cL_visit 16 = .ok (.ireturn, 1) := by decide +kernel
theorem dL_visit_17 : decode cL_visit 17 = .ok (.iconst 0, 1) := by decide +kernel
theorem dL_visit_18 : decode cL_visit 18 = .ok (.ireturn, 1) := by decide +kernel
theorem dL_pluck_0 : decode cL_pluck 0 = .ok (.aload_n 3, 1) := by decide +kernel
theorem dL_pluck_1 : decode cL_pluck 1 = .ok (.iconst 0, 1) := by decide +kernel
theorem dL_pluck_2 : decode cL_pluck 2 = .ok (.aload_n 0, 1) := by decide +kernel
theorem dL_pluck_3 : decode cL_pluck 3 = .ok (.iload_n 1, 1) := by decide +kernel
theorem dL_pluck_4 : decode cL_pluck 4 = .ok (.iload_n 2, 1) := by decide +kernel
theorem dL_pluck_5 : decode cL_pluck 5 = .ok (.invokevirtual 57, 3) := by decide +kernel
theorem dL_pluck_8 : decode cL_pluck 8 = .ok (.i2l, 1) := by decide +kernel
theorem dL_pluck_9 : decode cL_pluck 9 = .ok (.lastore, 1) := by decide +kernel
theorem dL_pluck_10 : decode cL_pluck 10 = .ok (.goto 15, 3) := by decide +kernel
theorem dL_pluck_13 : decode cL_pluck 13 = .ok (.astore 4, 2) := by decide +kernel
theorem dL_pluck_15 : decode cL_pluck 15 = .ok (.iconst 1, 1) := by decide +kernel
theorem dL_pluck_16 : decode cL_pluck 16 = .ok (.ireturn, 1) := by decide +kernel
theorem dL_pluck_17 : decode cL_pluck 17 = .ok (.astore 4, 2) := by decide +kernel
theorem dL_pluck_19 : decode cL_pluck 19 = .ok (.iconst 2, 1) := by decide +kernel
theorem dL_pluck_20 : decode cL_pluck 20 = .ok (.ireturn, 1) := by decide +kernel
theorem dL_pluck_21 : decode cL_pluck 21 = .ok (.astore 4, 2) := by decide +kernel
theorem dL_pluck_23 : decode cL_pluck 23 = .ok (.iconst 3, 1) := by decide +kernel
theorem dL_pluck_24 : decode cL_pluck 24 = .ok (.ireturn, 1) := by decide +kernel
theorem dL_pluck_25 : decode cL_pluck 25 = .ok (.iconst 0, 1) := by decide +kernel
theorem dL_pluck_26 : decode cL_pluck 26 = .ok (.ireturn, 1) := by decide +kernel
theorem dL_payFines_0 : decode cL_payFines 0 = .ok (.aload_n 3, 1) := by decide +kernel
theorem dL_payFines_1 : decode cL_payFines 1 = .ok (.iconst 0, 1) := by decide +kernel
theorem dL_payFines_2 : decode cL_payFines 2 = .ok (.aload_n 0, 1) := by decide +kernel
theorem dL_payFines_3 : decode cL_payFines 3 = .ok (.iload_n 1, 1) := by decide +kernel
theorem dL_payFines_4 : decode cL_payFines 4 = .ok (.iload_n 2, 1) := by decide +kernel
theorem dL_payFines_5 : decode cL_payFines 5 = .ok (.invokevirtual 60, 3) := by decide +kernel
theorem dL_payFines_8 : decode cL_payFines 8 = .ok (.i2l, 1) := by decide +kernel
theorem dL_payFines_9 : decode cL_payFines 9 = .ok (.lastore, 1) := by decide +kernel
theorem dL_payFines_10 : decode cL_payFines 10 = .ok (.goto 15, 3) := by decide +kernel
theorem dL_payFines_13 : decode cL_payFines 13 = .ok (.astore 4, 2) := by decide +kernel
theorem dL_payFines_15 : decode cL_payFines 15 = .ok (.iconst 1, 1) := by decide +kernel
theorem dL_payFines_16 : decode cL_payFines 16 = .ok (.ireturn, 1) := by decide +kernel
theorem dL_payFines_17 : decode cL_payFines 17 = .ok (.astore 4, 2) := by decide +kernel
theorem dL_payFines_19 : decode cL_payFines 19 = .ok (.iconst 2, 1) := by decide +kernel
theorem dL_payFines_20 : decode cL_payFines 20 = .ok (.ireturn, 1) := by decide +kernel
theorem dL_payFines_21 : decode cL_payFines 21 = .ok (.astore 4, 2) := by decide +kernel
theorem dL_payFines_23 : decode cL_payFines 23 = .ok (.iconst 3, 1) := by decide +kernel
theorem dL_payFines_24 : decode cL_payFines 24 = .ok (.ireturn, 1) := by decide +kernel
theorem dL_payFines_25 : decode cL_payFines 25 = .ok (.iconst 0, 1) := by decide +kernel
theorem dL_payFines_26 : decode cL_payFines 26 = .ok (.ireturn, 1) := by decide +kernel
theorem dL_pass_0 : decode cL_pass 0 = .ok (.aload_n 2, 1) := by decide +kernel
theorem dL_pass_1 : decode cL_pass 1 = .ok (.iconst 0, 1) := by decide +kernel
theorem dL_pass_2 : decode cL_pass 2 = .ok (.aload_n 0, 1) := by decide +kernel
theorem dL_pass_3 : decode cL_pass 3 = .ok (.iload_n 1, 1) := by decide +kernel
theorem dL_pass_4 : decode cL_pass 4 = .ok (.invokevirtual 63, 3) := by decide +kernel
theorem dL_pass_7 : decode cL_pass 7 = .ok (.i2l, 1) := by decide +kernel
theorem dL_pass_8 : decode cL_pass 8 = .ok (.lastore, 1) := by decide +kernel
theorem dL_pass_9 : decode cL_pass 9 = .ok (.goto 9, 3) := by decide +kernel
theorem dL_pass_12 : decode cL_pass 12 = .ok (.astore_n 3, 1) := by decide +kernel
theorem dL_pass_13 : decode cL_pass 13 = .ok (.iconst 1, 1) := by decide +kernel
theorem dL_pass_14 : decode cL_pass 14 = .ok (.ireturn, 1) := by decide +kernel
theorem dL_pass_15 : decode cL_pass 15 = .ok (.astore_n 3, 1) := by decide +kernel
theorem dL_pass_16 : decode cL_pass 16 = .ok (.iconst 2, 1) := by decide +kernel
theorem dL_pass_17 : decode cL_pass 17 = .ok (.ireturn, 1) := by decide +kernel
theorem dL_pass_18 : decode cL_pass 18 = .ok (.iconst 0, 1) := by decide +kernel
theorem dL_pass_19 : decode cL_pass 19 = .ok (.ireturn, 1) := by decide +kernel
theorem dL_restoreSnapshot_0 : decode cL_restoreSnapshot 0 = .ok (.aload_n 1, 1) := by decide +kernel
theorem dL_restoreSnapshot_1 : decode cL_restoreSnapshot 1 = .ok (.iconst 0, 1) := by decide +kernel
theorem dL_restoreSnapshot_2 : decode cL_restoreSnapshot 2 = .ok (.aload_n 0, 1) := by decide +kernel
theorem dL_restoreSnapshot_3 : decode cL_restoreSnapshot 3 = .ok (.invokevirtual 66, 3) := by decide +kernel
theorem dL_restoreSnapshot_6 : decode cL_restoreSnapshot 6 = .ok (.i2l, 1) := by decide +kernel
theorem dL_restoreSnapshot_7 : decode cL_restoreSnapshot 7 = .ok (.lastore, 1) := by decide +kernel
theorem dL_restoreSnapshot_8 : decode cL_restoreSnapshot 8 = .ok (.goto 6, 3) := by decide +kernel
theorem dL_restoreSnapshot_11 : decode cL_restoreSnapshot 11 = .ok (.astore_n 2, 1) := by decide +kernel
theorem dL_restoreSnapshot_12 : decode cL_restoreSnapshot 12 = .ok (.iconst 1, 1) := by decide +kernel
theorem dL_restoreSnapshot_13 : decode cL_restoreSnapshot 13 = .ok (.ireturn, 1) := by decide +kernel
theorem dL_restoreSnapshot_14 : decode cL_restoreSnapshot 14 = .ok (.iconst 0, 1) := by decide +kernel
theorem dL_restoreSnapshot_15 : decode cL_restoreSnapshot 15 = .ok (.ireturn, 1) := by decide +kernel
theorem dL_scentOf_0 : decode cL_scentOf 0 = .ok (.aload_n 2, 1) := by decide +kernel
theorem dL_scentOf_1 : decode cL_scentOf 1 = .ok (.iconst 0, 1) := by decide +kernel
theorem dL_scentOf_2 : decode cL_scentOf 2 = .ok (.aload_n 0, 1) := by decide +kernel
theorem dL_scentOf_3 : decode cL_scentOf 3 = .ok (.iload_n 1, 1) := by decide +kernel
theorem dL_scentOf_4 : decode cL_scentOf 4 = .ok (.invokevirtual 72, 3) := by decide +kernel
theorem dL_scentOf_7 : decode cL_scentOf 7 = .ok (.i2l, 1) := by decide +kernel
theorem dL_scentOf_8 : decode cL_scentOf 8 = .ok (.lastore, 1) := by decide +kernel
theorem dL_scentOf_9 : decode cL_scentOf 9 = .ok (.goto 6, 3) := by decide +kernel
theorem dL_scentOf_12 : decode cL_scentOf 12 = .ok (.astore_n 3, 1) := by decide +kernel
theorem dL_scentOf_13 : decode cL_scentOf 13 = .ok (.iconst 1, 1) := by decide +kernel
theorem dL_scentOf_14 : decode cL_scentOf 14 = .ok (.ireturn, 1) := by decide +kernel
theorem dL_scentOf_15 : decode cL_scentOf 15 = .ok (.iconst 0, 1) := by decide +kernel
theorem dL_scentOf_16 : decode cL_scentOf 16 = .ok (.ireturn, 1) := by decide +kernel
theorem dL_isInSeason_0 : decode cL_isInSeason 0 = .ok (.aload_n 2, 1) := by decide +kernel
theorem dL_isInSeason_1 : decode cL_isInSeason 1 = .ok (.iconst 0, 1) := by decide +kernel
theorem dL_isInSeason_2 : decode cL_isInSeason 2 = .ok (.aload_n 0, 1) := by decide +kernel
theorem dL_isInSeason_3 : decode cL_isInSeason 3 = .ok (.iload_n 1, 1) := by decide +kernel
theorem dL_isInSeason_4 : decode cL_isInSeason 4 = .ok (.invokevirtual 75, 3) := by decide +kernel
theorem dL_isInSeason_7 : decode cL_isInSeason 7 = .ok (.ifCond .eq 7, 3) := by decide +kernel
theorem dL_isInSeason_10 : decode cL_isInSeason 10 = .ok (.lconst 1, 1) := by decide +kernel
theorem dL_isInSeason_11 : decode cL_isInSeason 11 = .ok (.goto 4, 3) := by decide +kernel
theorem dL_isInSeason_14 : decode cL_isInSeason 14 = .ok (.lconst 0, 1) := by decide +kernel
theorem dL_isInSeason_15 : decode cL_isInSeason 15 = .ok (.lastore, 1) := by decide +kernel
theorem dL_isInSeason_16 : decode cL_isInSeason 16 = .ok (.goto 6, 3) := by decide +kernel
theorem dL_isInSeason_19 : decode cL_isInSeason 19 = .ok (.astore_n 3, 1) := by decide +kernel
theorem dL_isInSeason_20 : decode cL_isInSeason 20 = .ok (.iconst 1, 1) := by decide +kernel
theorem dL_isInSeason_21 : decode cL_isInSeason 21 = .ok (.ireturn, 1) := by decide +kernel
theorem dL_isInSeason_22 : decode cL_isInSeason 22 = .ok (.iconst 0, 1) := by decide +kernel
theorem dL_isInSeason_23 : decode cL_isInSeason 23 = .ok (.ireturn, 1) := by decide +kernel
theorem dL_blooms_0 : decode cL_blooms 0 = .ok (.aload_n 2, 1) := by decide +kernel
theorem dL_blooms_1 : decode cL_blooms 1 = .ok (.iconst 0, 1) := by decide +kernel
theorem dL_blooms_2 : decode cL_blooms 2 = .ok (.aload_n 0, 1) := by decide +kernel
theorem dL_blooms_3 : decode cL_blooms 3 = .ok (.iload_n 1, 1) := by decide +kernel
theorem dL_blooms_4 : decode cL_blooms 4 = .ok (.invokevirtual 79, 3) := by decide +kernel
theorem dL_blooms_7 : decode cL_blooms 7 = .ok (.i2l, 1) := by decide +kernel
theorem dL_blooms_8 : decode cL_blooms 8 = .ok (.lastore, 1) := by decide +kernel
theorem dL_blooms_9 : decode cL_blooms 9 = .ok (.goto 6, 3) := by decide +kernel
theorem dL_blooms_12 : decode cL_blooms 12 = .ok (.astore_n 3, 1) := by decide +kernel
theorem dL_blooms_13 : decode cL_blooms 13 = .ok (.iconst 1, 1) := by decide +kernel
theorem dL_blooms_14 : decode cL_blooms 14 = .ok (.ireturn, 1) := by decide +kernel
theorem dL_blooms_15 : decode cL_blooms 15 = .ok (.iconst 0, 1) := by decide +kernel
theorem dL_blooms_16 : decode cL_blooms 16 = .ok (.ireturn, 1) := by decide +kernel
theorem dL_placesLeft_0 : decode cL_placesLeft 0 = .ok (.aload_n 2, 1) := by decide +kernel
theorem dL_placesLeft_1 : decode cL_placesLeft 1 = .ok (.iconst 0, 1) := by decide +kernel
theorem dL_placesLeft_2 : decode cL_placesLeft 2 = .ok (.aload_n 0, 1) := by decide +kernel
theorem dL_placesLeft_3 : decode cL_placesLeft 3 = .ok (.iload_n 1, 1) := by decide +kernel
theorem dL_placesLeft_4 : decode cL_placesLeft 4 = .ok (.invokevirtual 82, 3) := by decide +kernel
theorem dL_placesLeft_7 : decode cL_placesLeft 7 = .ok (.i2l, 1) := by decide +kernel
theorem dL_placesLeft_8 : decode cL_placesLeft 8 = .ok (.lastore, 1) := by decide +kernel
theorem dL_placesLeft_9 : decode cL_placesLeft 9 = .ok (.goto 6, 3) := by decide +kernel
theorem dL_placesLeft_12 : decode cL_placesLeft 12 = .ok (.astore_n 3, 1) := by decide +kernel
theorem dL_placesLeft_13 : decode cL_placesLeft 13 = .ok (.iconst 1, 1) := by decide +kernel
theorem dL_placesLeft_14 : decode cL_placesLeft 14 = .ok (.ireturn, 1) := by decide +kernel
theorem dL_placesLeft_15 : decode cL_placesLeft 15 = .ok (.iconst 0, 1) := by decide +kernel
theorem dL_placesLeft_16 : decode cL_placesLeft 16 = .ok (.ireturn, 1) := by decide +kernel
theorem dL_visitsTo_0 : decode cL_visitsTo 0 = .ok (.aload_n 2, 1) := by decide +kernel
theorem dL_visitsTo_1 : decode cL_visitsTo 1 = .ok (.iconst 0, 1) := by decide +kernel
theorem dL_visitsTo_2 : decode cL_visitsTo 2 = .ok (.aload_n 0, 1) := by decide +kernel
theorem dL_visitsTo_3 : decode cL_visitsTo 3 = .ok (.iload_n 1, 1) := by decide +kernel
theorem dL_visitsTo_4 : decode cL_visitsTo 4 = .ok (.invokevirtual 85, 3) := by decide +kernel
theorem dL_visitsTo_7 : decode cL_visitsTo 7 = .ok (.i2l, 1) := by decide +kernel
theorem dL_visitsTo_8 : decode cL_visitsTo 8 = .ok (.lastore, 1) := by decide +kernel
theorem dL_visitsTo_9 : decode cL_visitsTo 9 = .ok (.goto 6, 3) := by decide +kernel
theorem dL_visitsTo_12 : decode cL_visitsTo 12 = .ok (.astore_n 3, 1) := by decide +kernel
theorem dL_visitsTo_13 : decode cL_visitsTo 13 = .ok (.iconst 1, 1) := by decide +kernel
theorem dL_visitsTo_14 : decode cL_visitsTo 14 = .ok (.ireturn, 1) := by decide +kernel
theorem dL_visitsTo_15 : decode cL_visitsTo 15 = .ok (.iconst 0, 1) := by decide +kernel
theorem dL_visitsTo_16 : decode cL_visitsTo 16 = .ok (.ireturn, 1) := by decide +kernel
theorem dL_scentsOf_0 : decode cL_scentsOf 0 = .ok (.aload_n 2, 1) := by decide +kernel
theorem dL_scentsOf_1 : decode cL_scentsOf 1 = .ok (.iconst 0, 1) := by decide +kernel
theorem dL_scentsOf_2 : decode cL_scentsOf 2 = .ok (.aload_n 0, 1) := by decide +kernel
theorem dL_scentsOf_3 : decode cL_scentsOf 3 = .ok (.iload_n 1, 1) := by decide +kernel
theorem dL_scentsOf_4 : decode cL_scentsOf 4 = .ok (.invokevirtual 88, 3) := by decide +kernel
theorem dL_scentsOf_7 : decode cL_scentsOf 7 = .ok (.i2l, 1) := by decide +kernel
theorem dL_scentsOf_8 : decode cL_scentsOf 8 = .ok (.lastore, 1) := by decide +kernel
theorem dL_scentsOf_9 : decode cL_scentsOf 9 = .ok (.goto 6, 3) := by decide +kernel
theorem dL_scentsOf_12 : decode cL_scentsOf 12 = .ok (.astore_n 3, 1) := by decide +kernel
theorem dL_scentsOf_13 : decode cL_scentsOf 13 = .ok (.iconst 1, 1) := by decide +kernel
theorem dL_scentsOf_14 : decode cL_scentsOf 14 = .ok (.ireturn, 1) := by decide +kernel
theorem dL_scentsOf_15 : decode cL_scentsOf 15 = .ok (.iconst 0, 1) := by decide +kernel
theorem dL_scentsOf_16 : decode cL_scentsOf 16 = .ok (.ireturn, 1) := by decide +kernel
theorem dL_firstDay_0 : decode cL_firstDay 0 = .ok (.aload_n 2, 1) := by decide +kernel
theorem dL_firstDay_1 : decode cL_firstDay 1 = .ok (.iconst 0, 1) := by decide +kernel
theorem dL_firstDay_2 : decode cL_firstDay 2 = .ok (.aload_n 0, 1) := by decide +kernel
theorem dL_firstDay_3 : decode cL_firstDay 3 = .ok (.iload_n 1, 1) := by decide +kernel
theorem dL_firstDay_4 : decode cL_firstDay 4 = .ok (.invokevirtual 91, 3) := by decide +kernel
theorem dL_firstDay_7 : decode cL_firstDay 7 = .ok (.i2l, 1) := by decide +kernel
theorem dL_firstDay_8 : decode cL_firstDay 8 = .ok (.lastore, 1) := by decide +kernel
theorem dL_firstDay_9 : decode cL_firstDay 9 = .ok (.goto 6, 3) := by decide +kernel
theorem dL_firstDay_12 : decode cL_firstDay 12 = .ok (.astore_n 3, 1) := by decide +kernel
theorem dL_firstDay_13 : decode cL_firstDay 13 = .ok (.iconst 1, 1) := by decide +kernel
theorem dL_firstDay_14 : decode cL_firstDay 14 = .ok (.ireturn, 1) := by decide +kernel
theorem dL_firstDay_15 : decode cL_firstDay 15 = .ok (.iconst 0, 1) := by decide +kernel
theorem dL_firstDay_16 : decode cL_firstDay 16 = .ok (.ireturn, 1) := by decide +kernel
theorem dL_lastDay_0 : decode cL_lastDay 0 = .ok (.aload_n 2, 1) := by decide +kernel
theorem dL_lastDay_1 : decode cL_lastDay 1 = .ok (.iconst 0, 1) := by decide +kernel
theorem dL_lastDay_2 : decode cL_lastDay 2 = .ok (.aload_n 0, 1) := by decide +kernel
theorem dL_lastDay_3 : decode cL_lastDay 3 = .ok (.iload_n 1, 1) := by decide +kernel
theorem dL_lastDay_4 : decode cL_lastDay 4 = .ok (.invokevirtual 94, 3) := by decide +kernel
theorem dL_lastDay_7 : decode cL_lastDay 7 = .ok (.i2l, 1) := by decide +kernel
theorem dL_lastDay_8 : decode cL_lastDay 8 = .ok (.lastore, 1) := by decide +kernel
theorem dL_lastDay_9 : decode cL_lastDay 9 = .ok (.goto 6, 3) := by decide +kernel
theorem dL_lastDay_12 : decode cL_lastDay 12 = .ok (.astore_n 3, 1) := by decide +kernel
theorem dL_lastDay_13 : decode cL_lastDay 13 = .ok (.iconst 1, 1) := by decide +kernel
theorem dL_lastDay_14 : decode cL_lastDay 14 = .ok (.ireturn, 1) := by decide +kernel
theorem dL_lastDay_15 : decode cL_lastDay 15 = .ok (.iconst 0, 1) := by decide +kernel
theorem dL_lastDay_16 : decode cL_lastDay 16 = .ok (.ireturn, 1) := by decide +kernel
theorem dL_priceOf_0 : decode cL_priceOf 0 = .ok (.aload_n 2, 1) := by decide +kernel
theorem dL_priceOf_1 : decode cL_priceOf 1 = .ok (.iconst 0, 1) := by decide +kernel
theorem dL_priceOf_2 : decode cL_priceOf 2 = .ok (.aload_n 0, 1) := by decide +kernel
theorem dL_priceOf_3 : decode cL_priceOf 3 = .ok (.iload_n 1, 1) := by decide +kernel
theorem dL_priceOf_4 : decode cL_priceOf 4 = .ok (.invokevirtual 97, 3) := by decide +kernel
theorem dL_priceOf_7 : decode cL_priceOf 7 = .ok (.i2l, 1) := by decide +kernel
theorem dL_priceOf_8 : decode cL_priceOf 8 = .ok (.lastore, 1) := by decide +kernel
theorem dL_priceOf_9 : decode cL_priceOf 9 = .ok (.goto 6, 3) := by decide +kernel
theorem dL_priceOf_12 : decode cL_priceOf 12 = .ok (.astore_n 3, 1) := by decide +kernel
theorem dL_priceOf_13 : decode cL_priceOf 13 = .ok (.iconst 1, 1) := by decide +kernel
theorem dL_priceOf_14 : decode cL_priceOf 14 = .ok (.ireturn, 1) := by decide +kernel
theorem dL_priceOf_15 : decode cL_priceOf 15 = .ok (.iconst 0, 1) := by decide +kernel
theorem dL_priceOf_16 : decode cL_priceOf 16 = .ok (.ireturn, 1) := by decide +kernel
theorem dL_cardOf_0 : decode cL_cardOf 0 = .ok (.aload_n 2, 1) := by decide +kernel
theorem dL_cardOf_1 : decode cL_cardOf 1 = .ok (.iconst 0, 1) := by decide +kernel
theorem dL_cardOf_2 : decode cL_cardOf 2 = .ok (.aload_n 0, 1) := by decide +kernel
theorem dL_cardOf_3 : decode cL_cardOf 3 = .ok (.iload_n 1, 1) := by decide +kernel
theorem dL_cardOf_4 : decode cL_cardOf 4 = .ok (.invokevirtual 100, 3) := by decide +kernel
theorem dL_cardOf_7 : decode cL_cardOf 7 = .ok (.i2l, 1) := by decide +kernel
theorem dL_cardOf_8 : decode cL_cardOf 8 = .ok (.lastore, 1) := by decide +kernel
theorem dL_cardOf_9 : decode cL_cardOf 9 = .ok (.goto 6, 3) := by decide +kernel
theorem dL_cardOf_12 : decode cL_cardOf 12 = .ok (.astore_n 3, 1) := by decide +kernel
theorem dL_cardOf_13 : decode cL_cardOf 13 = .ok (.iconst 1, 1) := by decide +kernel
theorem dL_cardOf_14 : decode cL_cardOf 14 = .ok (.ireturn, 1) := by decide +kernel
theorem dL_cardOf_15 : decode cL_cardOf 15 = .ok (.iconst 0, 1) := by decide +kernel
theorem dL_cardOf_16 : decode cL_cardOf 16 = .ok (.ireturn, 1) := by decide +kernel
theorem dL_isReturned_0 : decode cL_isReturned 0 = .ok (.aload_n 2, 1) := by decide +kernel
theorem dL_isReturned_1 : decode cL_isReturned 1 = .ok (.iconst 0, 1) := by decide +kernel
theorem dL_isReturned_2 : decode cL_isReturned 2 = .ok (.aload_n 0, 1) := by decide +kernel
theorem dL_isReturned_3 : decode cL_isReturned 3 = .ok (.iload_n 1, 1) := by decide +kernel
theorem dL_isReturned_4 : decode cL_isReturned 4 = .ok (.invokevirtual 103, 3) := by decide +kernel
theorem dL_isReturned_7 : decode cL_isReturned 7 = .ok (.ifCond .eq 7, 3) := by decide +kernel
theorem dL_isReturned_10 : decode cL_isReturned 10 = .ok (.lconst 1, 1) := by decide +kernel
theorem dL_isReturned_11 : decode cL_isReturned 11 = .ok (.goto 4, 3) := by decide +kernel
theorem dL_isReturned_14 : decode cL_isReturned 14 = .ok (.lconst 0, 1) := by decide +kernel
theorem dL_isReturned_15 : decode cL_isReturned 15 = .ok (.lastore, 1) := by decide +kernel
theorem dL_isReturned_16 : decode cL_isReturned 16 = .ok (.goto 6, 3) := by decide +kernel
theorem dL_isReturned_19 : decode cL_isReturned 19 = .ok (.astore_n 3, 1) := by decide +kernel
theorem dL_isReturned_20 : decode cL_isReturned 20 = .ok (.iconst 1, 1) := by decide +kernel
theorem dL_isReturned_21 : decode cL_isReturned 21 = .ok (.ireturn, 1) := by decide +kernel
theorem dL_isReturned_22 : decode cL_isReturned 22 = .ok (.iconst 0, 1) := by decide +kernel
theorem dL_isReturned_23 : decode cL_isReturned 23 = .ok (.ireturn, 1) := by decide +kernel
theorem dL_usedDays_0 : decode cL_usedDays 0 = .ok (.aload_n 2, 1) := by decide +kernel
theorem dL_usedDays_1 : decode cL_usedDays 1 = .ok (.iconst 0, 1) := by decide +kernel
theorem dL_usedDays_2 : decode cL_usedDays 2 = .ok (.aload_n 0, 1) := by decide +kernel
theorem dL_usedDays_3 : decode cL_usedDays 3 = .ok (.iload_n 1, 1) := by decide +kernel
theorem dL_usedDays_4 : decode cL_usedDays 4 = .ok (.invokevirtual 106, 3) := by decide +kernel
theorem dL_usedDays_7 : decode cL_usedDays 7 = .ok (.i2l, 1) := by decide +kernel
theorem dL_usedDays_8 : decode cL_usedDays 8 = .ok (.lastore, 1) := by decide +kernel
theorem dL_usedDays_9 : decode cL_usedDays 9 = .ok (.goto 6, 3) := by decide +kernel
theorem dL_usedDays_12 : decode cL_usedDays 12 = .ok (.astore_n 3, 1) := by decide +kernel
theorem dL_usedDays_13 : decode cL_usedDays 13 = .ok (.iconst 1, 1) := by decide +kernel
theorem dL_usedDays_14 : decode cL_usedDays 14 = .ok (.ireturn, 1) := by decide +kernel
theorem dL_usedDays_15 : decode cL_usedDays 15 = .ok (.iconst 0, 1) := by decide +kernel
theorem dL_usedDays_16 : decode cL_usedDays 16 = .ok (.ireturn, 1) := by decide +kernel
theorem dL_visitsWith_0 : decode cL_visitsWith 0 = .ok (.aload_n 2, 1) := by decide +kernel
theorem dL_visitsWith_1 : decode cL_visitsWith 1 = .ok (.iconst 0, 1) := by decide +kernel
theorem dL_visitsWith_2 : decode cL_visitsWith 2 = .ok (.aload_n 0, 1) := by decide +kernel
theorem dL_visitsWith_3 : decode cL_visitsWith 3 = .ok (.iload_n 1, 1) := by decide +kernel
theorem dL_visitsWith_4 : decode cL_visitsWith 4 = .ok (.invokevirtual 109, 3) := by decide +kernel
theorem dL_visitsWith_7 : decode cL_visitsWith 7 = .ok (.i2l, 1) := by decide +kernel
theorem dL_visitsWith_8 : decode cL_visitsWith 8 = .ok (.lastore, 1) := by decide +kernel
theorem dL_visitsWith_9 : decode cL_visitsWith 9 = .ok (.goto 6, 3) := by decide +kernel
theorem dL_visitsWith_12 : decode cL_visitsWith 12 = .ok (.astore_n 3, 1) := by decide +kernel
theorem dL_visitsWith_13 : decode cL_visitsWith 13 = .ok (.iconst 1, 1) := by decide +kernel
theorem dL_visitsWith_14 : decode cL_visitsWith 14 = .ok (.ireturn, 1) := by decide +kernel
theorem dL_visitsWith_15 : decode cL_visitsWith 15 = .ok (.iconst 0, 1) := by decide +kernel
theorem dL_visitsWith_16 : decode cL_visitsWith 16 = .ok (.ireturn, 1) := by decide +kernel
theorem dL_refundOf_0 : decode cL_refundOf 0 = .ok (.aload_n 2, 1) := by decide +kernel
theorem dL_refundOf_1 : decode cL_refundOf 1 = .ok (.iconst 0, 1) := by decide +kernel
theorem dL_refundOf_2 : decode cL_refundOf 2 = .ok (.aload_n 0, 1) := by decide +kernel
theorem dL_refundOf_3 : decode cL_refundOf 3 = .ok (.iload_n 1, 1) := by decide +kernel
theorem dL_refundOf_4 : decode cL_refundOf 4 = .ok (.invokevirtual 112, 3) := by decide +kernel
theorem dL_refundOf_7 : decode cL_refundOf 7 = .ok (.i2l, 1) := by decide +kernel
theorem dL_refundOf_8 : decode cL_refundOf 8 = .ok (.lastore, 1) := by decide +kernel
theorem dL_refundOf_9 : decode cL_refundOf 9 = .ok (.goto 6, 3) := by decide +kernel
theorem dL_refundOf_12 : decode cL_refundOf 12 = .ok (.astore_n 3, 1) := by decide +kernel
theorem dL_refundOf_13 : decode cL_refundOf 13 = .ok (.iconst 1, 1) := by decide +kernel
theorem dL_refundOf_14 : decode cL_refundOf 14 = .ok (.ireturn, 1) := by decide +kernel
theorem dL_refundOf_15 : decode cL_refundOf 15 = .ok (.iconst 0, 1) := by decide +kernel
theorem dL_refundOf_16 : decode cL_refundOf 16 = .ok (.ireturn, 1) := by decide +kernel
theorem dL_owed_0 : decode cL_owed 0 = .ok (.aload_n 2, 1) := by decide +kernel
theorem dL_owed_1 : decode cL_owed 1 = .ok (.iconst 0, 1) := by decide +kernel
theorem dL_owed_2 : decode cL_owed 2 = .ok (.aload_n 0, 1) := by decide +kernel
theorem dL_owed_3 : decode cL_owed 3 = .ok (.iload_n 1, 1) := by decide +kernel
theorem dL_owed_4 : decode cL_owed 4 = .ok (.invokevirtual 115, 3) := by decide +kernel
theorem dL_owed_7 : decode cL_owed 7 = .ok (.i2l, 1) := by decide +kernel
theorem dL_owed_8 : decode cL_owed 8 = .ok (.lastore, 1) := by decide +kernel
theorem dL_owed_9 : decode cL_owed 9 = .ok (.goto 6, 3) := by decide +kernel
theorem dL_owed_12 : decode cL_owed 12 = .ok (.astore_n 3, 1) := by decide +kernel
theorem dL_owed_13 : decode cL_owed 13 = .ok (.iconst 1, 1) := by decide +kernel
theorem dL_owed_14 : decode cL_owed 14 = .ok (.ireturn, 1) := by decide +kernel
theorem dL_owed_15 : decode cL_owed 15 = .ok (.iconst 0, 1) := by decide +kernel
theorem dL_owed_16 : decode cL_owed 16 = .ok (.ireturn, 1) := by decide +kernel
theorem dL_ticksUntilReady_0 : decode cL_ticksUntilReady 0 = .ok (.aload_n 2, 1) := by decide +kernel
theorem dL_ticksUntilReady_1 : decode cL_ticksUntilReady 1 = .ok (.iconst 0, 1) := by decide +kernel
theorem dL_ticksUntilReady_2 : decode cL_ticksUntilReady 2 = .ok (.aload_n 0, 1) := by decide +kernel
theorem dL_ticksUntilReady_3 : decode cL_ticksUntilReady 3 = .ok (.iload_n 1, 1) := by decide +kernel
theorem dL_ticksUntilReady_4 : decode cL_ticksUntilReady 4 = .ok (.invokevirtual 118, 3) := by decide +kernel
theorem dL_ticksUntilReady_7 : decode cL_ticksUntilReady 7 = .ok (.i2l, 1) := by decide +kernel
theorem dL_ticksUntilReady_8 : decode cL_ticksUntilReady 8 = .ok (.lastore, 1) := by decide +kernel
theorem dL_ticksUntilReady_9 : decode cL_ticksUntilReady 9 = .ok (.goto 6, 3) := by decide +kernel
theorem dL_ticksUntilReady_12 : decode cL_ticksUntilReady 12 = .ok (.astore_n 3, 1) := by decide +kernel
theorem dL_ticksUntilReady_13 : decode cL_ticksUntilReady 13 = .ok (.iconst 1, 1) := by decide +kernel
theorem dL_ticksUntilReady_14 : decode cL_ticksUntilReady 14 = .ok (.ireturn, 1) := by decide +kernel
theorem dL_ticksUntilReady_15 : decode cL_ticksUntilReady 15 = .ok (.iconst 0, 1) := by decide +kernel
theorem dL_ticksUntilReady_16 : decode cL_ticksUntilReady 16 = .ok (.ireturn, 1) := by decide +kernel
theorem dL_passOf_0 : decode cL_passOf 0 = .ok (.aload_n 2, 1) := by decide +kernel
theorem dL_passOf_1 : decode cL_passOf 1 = .ok (.iconst 0, 1) := by decide +kernel
theorem dL_passOf_2 : decode cL_passOf 2 = .ok (.aload_n 0, 1) := by decide +kernel
theorem dL_passOf_3 : decode cL_passOf 3 = .ok (.iload_n 1, 1) := by decide +kernel
theorem dL_passOf_4 : decode cL_passOf 4 = .ok (.invokevirtual 121, 3) := by decide +kernel
theorem dL_passOf_7 : decode cL_passOf 7 = .ok (.i2l, 1) := by decide +kernel
theorem dL_passOf_8 : decode cL_passOf 8 = .ok (.lastore, 1) := by decide +kernel
theorem dL_passOf_9 : decode cL_passOf 9 = .ok (.goto 6, 3) := by decide +kernel
theorem dL_passOf_12 : decode cL_passOf 12 = .ok (.astore_n 3, 1) := by decide +kernel
theorem dL_passOf_13 : decode cL_passOf 13 = .ok (.iconst 1, 1) := by decide +kernel
theorem dL_passOf_14 : decode cL_passOf 14 = .ok (.ireturn, 1) := by decide +kernel
theorem dL_passOf_15 : decode cL_passOf 15 = .ok (.iconst 0, 1) := by decide +kernel
theorem dL_passOf_16 : decode cL_passOf 16 = .ok (.ireturn, 1) := by decide +kernel
theorem dL_isBlocked_0 : decode cL_isBlocked 0 = .ok (.aload_n 2, 1) := by decide +kernel
theorem dL_isBlocked_1 : decode cL_isBlocked 1 = .ok (.iconst 0, 1) := by decide +kernel
theorem dL_isBlocked_2 : decode cL_isBlocked 2 = .ok (.aload_n 0, 1) := by decide +kernel
theorem dL_isBlocked_3 : decode cL_isBlocked 3 = .ok (.iload_n 1, 1) := by decide +kernel
theorem dL_isBlocked_4 : decode cL_isBlocked 4 = .ok (.invokevirtual 124, 3) := by decide +kernel
theorem dL_isBlocked_7 : decode cL_isBlocked 7 = .ok (.ifCond .eq 7, 3) := by decide +kernel
theorem dL_isBlocked_10 : decode cL_isBlocked 10 = .ok (.lconst 1, 1) := by decide +kernel
theorem dL_isBlocked_11 : decode cL_isBlocked 11 = .ok (.goto 4, 3) := by decide +kernel
theorem dL_isBlocked_14 : decode cL_isBlocked 14 = .ok (.lconst 0, 1) := by decide +kernel
theorem dL_isBlocked_15 : decode cL_isBlocked 15 = .ok (.lastore, 1) := by decide +kernel
theorem dL_isBlocked_16 : decode cL_isBlocked 16 = .ok (.goto 6, 3) := by decide +kernel
theorem dL_isBlocked_19 : decode cL_isBlocked 19 = .ok (.astore_n 3, 1) := by decide +kernel
theorem dL_isBlocked_20 : decode cL_isBlocked 20 = .ok (.iconst 1, 1) := by decide +kernel
theorem dL_isBlocked_21 : decode cL_isBlocked 21 = .ok (.ireturn, 1) := by decide +kernel
theorem dL_isBlocked_22 : decode cL_isBlocked 22 = .ok (.iconst 0, 1) := by decide +kernel
theorem dL_isBlocked_23 : decode cL_isBlocked 23 = .ok (.ireturn, 1) := by decide +kernel
theorem dL_whyRefused_0 : decode cL_whyRefused 0 = .ok (.aload_n 3, 1) := by decide +kernel
theorem dL_whyRefused_1 : decode cL_whyRefused 1 = .ok (.iconst 0, 1) := by decide +kernel
theorem dL_whyRefused_2 : decode cL_whyRefused 2 = .ok (.aload_n 0, 1) := by decide +kernel
theorem dL_whyRefused_3 : decode cL_whyRefused 3 = .ok (.iload_n 1, 1) := by decide +kernel
theorem dL_whyRefused_4 : decode cL_whyRefused 4 = .ok (.iload_n 2, 1) := by decide +kernel
theorem dL_whyRefused_5 : decode cL_whyRefused 5 = .ok (.invokevirtual 127, 3) := by decide +kernel
theorem dL_whyRefused_8 : decode cL_whyRefused 8 = .ok (.i2l, 1) := by decide +kernel
theorem dL_whyRefused_9 : decode cL_whyRefused 9 = .ok (.lastore, 1) := by decide +kernel
theorem dL_whyRefused_10 : decode cL_whyRefused 10 = .ok (.goto 7, 3) := by decide +kernel
theorem dL_whyRefused_13 : decode cL_whyRefused 13 = .ok (.astore 4, 2) := by decide +kernel
theorem dL_whyRefused_15 : decode cL_whyRefused 15 = .ok (.iconst 1, 1) := by decide +kernel
theorem dL_whyRefused_16 : decode cL_whyRefused 16 = .ok (.ireturn, 1) := by decide +kernel
theorem dL_whyRefused_17 : decode cL_whyRefused 17 = .ok (.iconst 0, 1) := by decide +kernel
theorem dL_whyRefused_18 : decode cL_whyRefused 18 = .ok (.ireturn, 1) := by decide +kernel
theorem dL_sign_0 : decode cL_sign 0 = .ok (.aload_n 3, 1) := by decide +kernel
theorem dL_sign_1 : decode cL_sign 1 = .ok (.iconst 0, 1) := by decide +kernel
theorem dL_sign_2 : decode cL_sign 2 = .ok (.aload_n 0, 1) := by decide +kernel
theorem dL_sign_3 : decode cL_sign 3 = .ok (.iload_n 1, 1) := by decide +kernel
theorem dL_sign_4 : decode cL_sign 4 = .ok (.iload_n 2, 1) := by decide +kernel
theorem dL_sign_5 : decode cL_sign 5 = .ok (.invokevirtual 130, 3) := by decide +kernel
theorem dL_sign_8 : decode cL_sign 8 = .ok (.i2l, 1) := by decide +kernel
theorem dL_sign_9 : decode cL_sign 9 = .ok (.lastore, 1) := by decide +kernel
theorem dL_sign_10 : decode cL_sign 10 = .ok (.goto 7, 3) := by decide +kernel
theorem dL_sign_13 : decode cL_sign 13 = .ok (.astore 4, 2) := by decide +kernel
theorem dL_sign_15 : decode cL_sign 15 = .ok (.iconst 1, 1) := by decide +kernel
theorem dL_sign_16 : decode cL_sign 16 = .ok (.ireturn, 1) := by decide +kernel
theorem dL_sign_17 : decode cL_sign 17 = .ok (.iconst 0, 1) := by decide +kernel
theorem dL_sign_18 : decode cL_sign 18 = .ok (.ireturn, 1) := by decide +kernel
theorem dL_bedsFor_0 : decode cL_bedsFor 0 = .ok (.aload_n 2, 1) := by decide +kernel
theorem dL_bedsFor_1 : decode cL_bedsFor 1 = .ok (.iconst 0, 1) := by decide +kernel
theorem dL_bedsFor_2 : decode cL_bedsFor 2 = .ok (.aload_n 0, 1) := by decide +kernel
theorem dL_bedsFor_3 : decode cL_bedsFor 3 = .ok (.iload_n 1, 1) := by decide +kernel
theorem dL_bedsFor_4 : decode cL_bedsFor 4 = .ok (.invokevirtual 133, 3) := by decide +kernel
theorem dL_bedsFor_7 : decode cL_bedsFor 7 = .ok (.i2l, 1) := by decide +kernel
theorem dL_bedsFor_8 : decode cL_bedsFor 8 = .ok (.lastore, 1) := by decide +kernel
theorem dL_bedsFor_9 : decode cL_bedsFor 9 = .ok (.goto 6, 3) := by decide +kernel
theorem dL_bedsFor_12 : decode cL_bedsFor 12 = .ok (.astore_n 3, 1) := by decide +kernel
theorem dL_bedsFor_13 : decode cL_bedsFor 13 = .ok (.iconst 1, 1) := by decide +kernel
theorem dL_bedsFor_14 : decode cL_bedsFor 14 = .ok (.ireturn, 1) := by decide +kernel
theorem dL_bedsFor_15 : decode cL_bedsFor 15 = .ok (.iconst 0, 1) := by decide +kernel
theorem dL_bedsFor_16 : decode cL_bedsFor 16 = .ok (.ireturn, 1) := by decide +kernel
theorem dL_quote_0 : decode cL_quote 0 = .ok (.aload 4, 2) := by decide +kernel
theorem dL_quote_2 : decode cL_quote 2 = .ok (.iconst 0, 1) := by decide +kernel
theorem dL_quote_3 : decode cL_quote 3 = .ok (.aload_n 0, 1) := by decide +kernel
theorem dL_quote_4 : decode cL_quote 4 = .ok (.iload_n 1, 1) := by decide +kernel
theorem dL_quote_5 : decode cL_quote 5 = .ok (.iload_n 2, 1) := by decide +kernel
theorem dL_quote_6 : decode cL_quote 6 = .ok (.iload_n 3, 1) := by decide +kernel
theorem dL_quote_7 : decode cL_quote 7 = .ok (.invokevirtual 136, 3) := by decide +kernel
theorem dL_quote_10 : decode cL_quote 10 = .ok (.i2l, 1) := by decide +kernel
theorem dL_quote_11 : decode cL_quote 11 = .ok (.lastore, 1) := by decide +kernel
theorem dL_quote_12 : decode cL_quote 12 = .ok (.goto 7, 3) := by decide +kernel
theorem dL_quote_15 : decode cL_quote 15 = .ok (.astore 5, 2) := by decide +kernel
theorem dL_quote_17 : decode cL_quote 17 = .ok (.iconst 1, 1) := by decide +kernel
theorem dL_quote_18 : decode cL_quote 18 = .ok (.ireturn, 1) := by decide +kernel
theorem dL_quote_19 : decode cL_quote 19 = .ok (.iconst 0, 1) := by decide +kernel
theorem dL_quote_20 : decode cL_quote 20 = .ok (.ireturn, 1) := by decide +kernel
theorem dL_fineFor_0 : decode cL_fineFor 0 = .ok (.aload_n 3, 1) := by decide +kernel
theorem dL_fineFor_1 : decode cL_fineFor 1 = .ok (.iconst 0, 1) := by decide +kernel
theorem dL_fineFor_2 : decode cL_fineFor 2 = .ok (.aload_n 0, 1) := by decide +kernel
theorem dL_fineFor_3 : decode cL_fineFor 3 = .ok (.iload_n 1, 1) := by decide +kernel
theorem dL_fineFor_4 : decode cL_fineFor 4 = .ok (.iload_n 2, 1) := by decide +kernel
theorem dL_fineFor_5 : decode cL_fineFor 5 = .ok (.invokevirtual 140, 3) := by decide +kernel
theorem dL_fineFor_8 : decode cL_fineFor 8 = .ok (.i2l, 1) := by decide +kernel
theorem dL_fineFor_9 : decode cL_fineFor 9 = .ok (.lastore, 1) := by decide +kernel
theorem dL_fineFor_10 : decode cL_fineFor 10 = .ok (.goto 11, 3) := by decide +kernel
theorem dL_fineFor_13 : decode cL_fineFor 13 = .ok (.astore 4, 2) := by decide +kernel
theorem dL_fineFor_15 : decode cL_fineFor 15 = .ok (.iconst 1, 1) := by decide +kernel
theorem dL_fineFor_16 : decode cL_fineFor 16 = .ok (.ireturn, 1) := by decide +kernel
theorem dL_fineFor_17 : decode cL_fineFor 17 = .ok (.astore 4, 2) := by decide +kernel
theorem dL_fineFor_19 : decode cL_fineFor 19 = .ok (.iconst 2, 1) := by decide +kernel
theorem dL_fineFor_20 : decode cL_fineFor 20 = .ok (.ireturn, 1) := by decide +kernel
theorem dL_fineFor_21 : decode cL_fineFor 21 = .ok (.iconst 0, 1) := by decide +kernel
theorem dL_fineFor_22 : decode cL_fineFor 22 = .ok (.ireturn, 1) := by decide +kernel
theorem dL_writePass_0 : decode cL_writePass 0 = .ok (.aload_n 2, 1) := by decide +kernel
theorem dL_writePass_1 : decode cL_writePass 1 = .ok (.iconst 0, 1) := by decide +kernel
theorem dL_writePass_2 : decode cL_writePass 2 = .ok (.aload_n 0, 1) := by decide +kernel
theorem dL_writePass_3 : decode cL_writePass 3 = .ok (.iload_n 1, 1) := by decide +kernel
theorem dL_writePass_4 : decode cL_writePass 4 = .ok (.invokevirtual 143, 3) := by decide +kernel
theorem dL_writePass_7 : decode cL_writePass 7 = .ok (.i2l, 1) := by decide +kernel
theorem dL_writePass_8 : decode cL_writePass 8 = .ok (.lastore, 1) := by decide +kernel
theorem dL_writePass_9 : decode cL_writePass 9 = .ok (.goto 6, 3) := by decide +kernel
theorem dL_writePass_12 : decode cL_writePass 12 = .ok (.astore_n 3, 1) := by decide +kernel
theorem dL_writePass_13 : decode cL_writePass 13 = .ok (.iconst 1, 1) := by decide +kernel
theorem dL_writePass_14 : decode cL_writePass 14 = .ok (.ireturn, 1) := by decide +kernel
theorem dL_writePass_15 : decode cL_writePass 15 = .ok (.iconst 0, 1) := by decide +kernel
theorem dL_writePass_16 : decode cL_writePass 16 = .ok (.ireturn, 1) := by decide +kernel
