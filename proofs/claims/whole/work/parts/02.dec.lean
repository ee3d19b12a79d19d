theorem dX0_init_0 : decode cX0_init 0 = .ok (.aload_n 0, 1) := by decide +kernel
theorem dX0_init_1 : decode cX0_init 1 = .ok (.invokespecial 3, 3) := by decide +kernel
theorem dX0_init_4 : decode cX0_init 4 = .ok (.aload_n 0, 1) := by decide +kernel
theorem dX0_init_5 : decode cX0_init 5 = .ok (.bipush 10, 2) := by decide +kernel
theorem dX0_init_7 : decode cX0_init 7 = .ok (.newarray .int, 2) := by decide +kernel
theorem dX0_init_9 : decode cX0_init 9 = .ok (.putfield 9, 3) := by decide +kernel
theorem dX0_init_12 : decode cX0_init 12 = .ok (.aload_n 0, 1) := by decide +kernel
theorem dX0_init_13 : decode cX0_init 13 = .ok (.bipush 10, 2) := by decide +kernel
theorem dX0_init_15 : decode cX0_init 15 = .ok (.newarray .int, 2) := by decide +kernel
theorem dX0_init_17 : decode cX0_init 17 = .ok (.putfield 15, 3) := by decide +kernel
theorem dX0_init_20 : decode cX0_init 20 = .ok (.aload_n 0, 1) := by decide +kernel
theorem dX0_init_21 : decode cX0_init 21 = .ok (.bipush 6, 2) := by decide +kernel
theorem dX0_init_23 : decode cX0_init 23 = .ok (.newarray .int, 2) := by decide +kernel
theorem dX0_init_25 : decode cX0_init 25 = .ok (.putfield 18, 3) := by decide +kernel
theorem dX0_init_28 : decode cX0_init 28 = .ok (.aload_n 0, 1) := by decide +kernel
theorem dX0_init_29 : decode cX0_init 29 = .ok (.bipush 6, 2) := by decide +kernel
theorem dX0_init_31 : decode cX0_init 31 = .ok (.newarray .int, 2) := by decide +kernel
theorem dX0_init_33 : decode cX0_init 33 = .ok (.putfield 21, 3) := by decide +kernel
theorem dX0_init_36 : decode cX0_init 36 = .ok (.aload_n 0, 1) := by decide +kernel
theorem dX0_init_37 : decode cX0_init 37 = .ok (.bipush 6, 2) := by decide +kernel
theorem dX0_init_39 : decode cX0_init 39 = .ok (.newarray .int, 2) := by decide +kernel
theorem dX0_init_41 : decode cX0_init 41 = .ok (.putfield 24, 3) := by decide +kernel
theorem dX0_init_44 : decode cX0_init 44 = .ok (.aload_n 0, 1) := by decide +kernel
theorem dX0_init_45 : decode cX0_init 45 = .ok (.bipush 6, 2) := by decide +kernel
theorem dX0_init_47 : decode cX0_init 47 = .ok (.newarray .int, 2) := by decide +kernel
theorem dX0_init_49 : decode cX0_init 49 = .ok (.putfield 27, 3) := by decide +kernel
theorem dX0_init_52 : decode cX0_init 52 = .ok (.aload_n 0, 1) := by decide +kernel
theorem dX0_init_53 : decode cX0_init 53 = .ok (.bipush 6, 2) := by decide +kernel
theorem dX0_init_55 : decode cX0_init 55 = .ok (.newarray .int, 2) := by decide +kernel
theorem dX0_init_57 : decode cX0_init 57 = .ok (.putfield 30, 3) := by decide +kernel
theorem dX0_init_60 : decode cX0_init 60 = .ok (.aload_n 0, 1) := by decide +kernel
theorem dX0_init_61 : decode cX0_init 61 = .ok (.iconst 0, 1) := by decide +kernel
theorem dX0_init_62 : decode cX0_init 62 = .ok (.putfield 33, 3) := by decide +kernel
theorem dX0_init_65 : decode cX0_init 65 = .ok (.aload_n 0, 1) := by decide +kernel
theorem dX0_init_66 : decode cX0_init 66 = .ok (.iconst 0, 1) := by decide +kernel
theorem dX0_init_67 : decode cX0_init 67 = .ok (.putfield 37, 3) := by decide +kernel
theorem dX0_init_70 : decode cX0_init 70 = .ok (.aload_n 0, 1) := by decide +kernel
theorem dX0_init_71 : decode cX0_init 71 = .ok (.iconst 0, 1) := by decide +kernel
theorem dX0_init_72 : decode cX0_init 72 = .ok (.putfield 40, 3) := by decide +kernel
theorem dX0_init_75 : decode cX0_init 75 = .ok (.aload_n 0, 1) := by decide +kernel
theorem dX0_init_76 : decode cX0_init 76 = .ok (.iconst 0, 1) := by decide +kernel
theorem dX0_init_77 : decode cX0_init 77 = .ok (.putfield 43, 3) := by decide +kernel
theorem dX0_init_80 : decode cX0_init 80 = .ok (.aload_n 0, 1) := by decide +kernel
theorem dX0_init_81 : decode cX0_init 81 = .ok (.iconst 0, 1) := by decide +kernel
theorem dX0_init_82 : decode cX0_init 82 = .ok (.putfield 46, 3) := by decide +kernel
theorem dX0_init_85 : decode cX0_init 85 = .ok (.aload_n 0, 1) := by decide +kernel
theorem dX0_init_86 : decode cX0_init 86 = .ok (.iconst 0, 1) := by decide +kernel
theorem dX0_init_87 : decode cX0_init 87 = .ok (.putfield 49, 3) := by decide +kernel
theorem dX0_init_90 : decode cX0_init 90 = .ok (.aload_n 0, 1) := by decide +kernel
theorem dX0_init_91 : decode cX0_init 91 = .ok (.getfield 9, 3) := by decide +kernel
theorem dX0_init_94 : decode cX0_init 94 = .ok (.bipush 100, 2) := by decide +kernel
theorem dX0_init_96 : decode cX0_init 96 = .ok (.invokestatic 52, 3) := by decide +kernel
theorem dX0_init_99 : decode cX0_init 99 = .ok (.return_, 1) := by decide +kernel
theorem dX0_becomes_0 : decode cX0_becomes 0 = .ok (.aload_n 1, 1) := by decide +kernel
theorem dX0_becomes_1 : decode cX0_becomes 1 = .ok (.getfield 9, 3) := by decide +kernel
theorem dX0_becomes_4 : decode cX0_becomes 4 = .ok (.iconst 0, 1) := by decide +kernel
theorem dX0_becomes_5 : decode cX0_becomes 5 = .ok (.aload_n 0, 1) := by decide +kernel
theorem dX0_becomes_6 : decode cX0_becomes 6 = .ok (.getfield 9, 3) := by decide +kernel
theorem dX0_becomes_9 : decode cX0_becomes 9 = .ok (.iconst 0, 1) := by decide +kernel
theorem dX0_becomes_10 : decode cX0_becomes 10 = .ok (.bipush 10, 2) := by decide +kernel
theorem dX0_becomes_12 : decode cX0_becomes 12 = .ok (.invokestatic 58, 3) := by decide +kernel
theorem dX0_becomes_15 : decode cX0_becomes 15 = .ok (.aload_n 1, 1) := by decide +kernel
theorem dX0_becomes_16 : decode cX0_becomes 16 = .ok (.getfield 15, 3) := by decide +kernel
theorem dX0_becomes_19 : decode cX0_becomes 19 = .ok (.iconst 0, 1) := by decide +kernel
theorem dX0_becomes_20 : decode cX0_becomes 20 = .ok (.aload_n 0, 1) := by decide +kernel
theorem dX0_becomes_21 : decode cX0_becomes 21 = .ok (.getfield 15, 3) := by decide +kernel
theorem dX0_becomes_24 : decode cX0_becomes 24 = .ok (.iconst 0, 1) := by decide +kernel
theorem dX0_becomes_25 : decode cX0_becomes 25 = .ok (.bipush 10, 2) := by decide +kernel
theorem dX0_becomes_27 : decode cX0_becomes 27 = .ok (.invokestatic 58, 3) := by decide +kernel
theorem dX0_becomes_30 : decode cX0_becomes 30 = .ok (.aload_n 1, 1) := by decide +kernel
theorem dX0_becomes_31 : decode cX0_becomes 31 = .ok (.getfield 18, 3) := by decide +kernel
theorem dX0_becomes_34 : decode cX0_becomes 34 = .ok (.iconst 0, 1) := by decide +kernel
theorem dX0_becomes_35 : decode cX0_becomes 35 = .ok (.aload_n 0, 1) := by decide +kernel
theorem dX0_becomes_36 : decode cX0_becomes 36 = .ok (.getfield 18, 3) := by decide +kernel
theorem dX0_becomes_39 : decode cX0_becomes 39 = .ok (.iconst 0, 1) := by decide +kernel
theorem dX0_becomes_40 : decode cX0_becomes 40 = .ok (.bipush 6, 2) := by decide +kernel
theorem dX0_becomes_42 : decode cX0_becomes 42 = .ok (.invokestatic 58, 3) := by decide +kernel
theorem dX0_becomes_45 : decode cX0_becomes 45 = .ok (.aload_n 1, 1) := by decide +kernel
theorem dX0_becomes_46 : decode cX0_becomes 46 = .ok (.getfield 21, 3) := by decide +kernel
theorem dX0_becomes_49 : decode cX0_becomes 49 = .ok (.iconst 0, 1) := by decide +kernel
theorem dX0_becomes_50 : decode cX0_becomes 50 = .ok (.aload_n 0, 1) := by decide +kernel
theorem dX0_becomes_51 : decode cX0_becomes 51 = .ok (.getfield 21, 3) := by decide +kernel
theorem dX0_becomes_54 : decode cX0_becomes 54 = .ok (.iconst 0, 1) := by decide +kernel
theorem dX0_becomes_55 : decode cX0_becomes 55 = .ok (.bipush 6, 2) := by decide +kernel
theorem dX0_becomes_57 : decode cX0_becomes 57 = .ok (.invokestatic 58, 3) := by decide +kernel
theorem dX0_becomes_60 : decode cX0_becomes 60 = .ok (.aload_n 1, 1) := by decide +kernel
theorem dX0_becomes_61 : decode cX0_becomes 61 = .ok (.getfield 24, 3) := by decide +kernel
theorem dX0_becomes_64 : decode cX0_becomes 64 = .ok (.iconst 0, 1) := by decide +kernel
theorem dX0_becomes_65 : decode cX0_becomes 65 = .ok (.aload_n 0, 1) := by decide +kernel
theorem dX0_becomes_66 : decode cX0_becomes 66 = .ok (.getfield 24, 3) := by decide +kernel
theorem dX0_becomes_69 : decode cX0_becomes 69 = .ok (.iconst 0, 1) := by decide +kernel
theorem dX0_becomes_70 : decode cX0_becomes 70 = .ok (.bipush 6, 2) := by decide +kernel
theorem dX0_becomes_72 : decode cX0_becomes 72 = .ok (.invokestatic 58, 3) := by decide +kernel
theorem dX0_becomes_75 : decode cX0_becomes 75 = .ok (.aload_n 1, 1) := by decide +kernel
theorem dX0_becomes_76 : decode cX0_becomes 76 = .ok (.getfield 27, 3) := by decide +kernel
theorem dX0_becomes_79 : decode cX0_becomes 79 = .ok (.iconst 0, 1) := by decide +kernel
theorem dX0_becomes_80 : decode cX0_becomes 80 = .ok (.aload_n 0, 1) := by decide +kernel
theorem dX0_becomes_81 : decode cX0_becomes 81 = .ok (.getfield 27, 3) := by decide +kernel
theorem dX0_becomes_84 : decode cX0_becomes 84 = .ok (.iconst 0, 1) := by decide +kernel
theorem dX0_becomes_85 : decode cX0_becomes 85 = .ok (.bipush 6, 2) := by decide +kernel
theorem dX0_becomes_87 : decode cX0_becomes 87 = .ok (.invokestatic 58, 3) := by decide +kernel
theorem dX0_becomes_90 : decode cX0_becomes 90 = .ok (.aload_n 1, 1) := by decide +kernel
theorem dX0_becomes_91 : decode cX0_becomes 91 = .ok (.getfield 30, 3) := by decide +kernel
theorem dX0_becomes_94 : decode cX0_becomes 94 = .ok (.iconst 0, 1) := by decide +kernel
theorem dX0_becomes_95 : decode cX0_becomes 95 = .ok (.aload_n 0, 1) := by decide +kernel
theorem dX0_becomes_96 : decode cX0_becomes 96 = .ok (.getfield 30, 3) := by decide +kernel
theorem dX0_becomes_99 : decode cX0_becomes 99 = .ok (.iconst 0, 1) := by decide +kernel
theorem dX0_becomes_100 : decode cX0_becomes 100 = .ok (.bipush 6, 2) := by decide +kernel
theorem dX0_becomes_102 : decode cX0_becomes 102 = .ok (.invokestatic 58, 3) := by decide +kernel
theorem dX0_becomes_105 : decode cX0_becomes 105 = .ok (.aload_n 0, 1) := by decide +kernel
theorem dX0_becomes_106 : decode cX0_becomes 106 = .ok (.aload_n 1, 1) := by decide +kernel
theorem dX0_becomes_107 : decode cX0_becomes 107 = .ok (.getfield 33, 3) := by decide +kernel
theorem dX0_becomes_110 : decode cX0_becomes 110 = .ok (.putfield 33, 3) := by decide +kernel
theorem dX0_becomes_113 : decode cX0_becomes 113 = .ok (.aload_n 0, 1) := by decide +kernel
theorem dX0_becomes_114 : decode cX0_becomes 114 = .ok (.aload_n 1, 1) := by decide +kernel
theorem dX0_becomes_115 : decode cX0_becomes 115 = .ok (.getfield 37, 3) := by decide +kernel
theorem dX0_becomes_118 : decode cX0_becomes 118 = .ok (.putfield 37, 3) := by decide +kernel
theorem dX0_becomes_121 : decode cX0_becomes 121 = .ok (.aload_n 0, 1) := by decide +kernel
theorem dX0_becomes_122 : decode cX0_becomes 122 = .ok (.iconst 0, 1) := by decide +kernel
theorem dX0_becomes_123 : decode cX0_becomes 123 = .ok (.putfield 40, 3) := by decide +kernel
theorem dX0_becomes_126 : decode cX0_becomes 126 = .ok (.aload_n 0, 1) := by decide +kernel
theorem dX0_becomes_127 : decode cX0_becomes 127 = .ok (.aload_n 1, 1) := by decide +kernel
theorem dX0_becomes_128 : decode cX0_becomes 128 = .ok (.getfield 43, 3) := by decide +kernel
theorem dX0_becomes_131 : decode cX0_becomes 131 = .ok (.putfield 43, 3) := by decide +kernel
theorem dX0_becomes_134 : decode cX0_becomes 134 = .ok (.aload_n 0, 1) := by decide +kernel
theorem dX0_becomes_135 : decode cX0_becomes 135 = .ok (.aload_n 1, 1) := by decide +kernel
theorem dX0_becomes_136 : decode cX0_becomes 136 = .ok (.getfield 46, 3) := by decide +kernel
theorem dX0_becomes_139 : decode cX0_becomes 139 = .ok (.putfield 46, 3) := by decide +kernel
theorem dX0_becomes_142 : decode cX0_becomes 142 = .ok (.aload_n 0, 1) := by decide +kernel
theorem dX0_becomes_143 : decode cX0_becomes 143 = .ok (.iconst 0, 1) := by decide +kernel
theorem dX0_becomes_144 : decode cX0_becomes 144 = .ok (.putfield 49, 3) := by decide +kernel
theorem dX0_becomes_147 : decode cX0_becomes 147 = .ok (.return_, 1) := by decide +kernel
theorem dX0_hasRoom_0 : decode cX0_hasRoom 0 = .ok (.aload_n 0, 1) := by decide +kernel
theorem dX0_hasRoom_1 : decode cX0_hasRoom 1 = .ok (.getfield 33, 3) := by decide +kernel
theorem dX0_hasRoom_4 : decode cX0_hasRoom 4 = .ok (.bipush 6, 2) := by decide +kernel
theorem dX0_hasRoom_6 : decode cX0_hasRoom 6 = .ok (.if_icmp .ge 7, 3) := by decide +kernel
theorem dX0_hasRoom_9 : decode cX0_hasRoom 9 = .ok (.iconst 1, 1) := by decide +kernel
theorem dX0_hasRoom_10 : decode cX0_hasRoom 10 = .ok (.goto 4, 3) := by decide +kernel
theorem dX0_hasRoom_13 : decode cX0_hasRoom 13 = .ok (.iconst 0, 1) := by decide +kernel
theorem dX0_hasRoom_14 : decode cX0_hasRoom 14 = .ok (.ireturn, 1) := by decide +kernel
theorem dX0_takesIn_0 : decode cX0_takesIn 0 = .ok (.aload_n 0, 1) := by decide +kernel
theorem dX0_takesIn_1 : decode cX0_takesIn 1 = .ok (.invokevirtual 64, 3) := by decide +kernel
theorem dX0_takesIn_4 : decode cX0_takesIn 4 = .ok (.ifCond .ne 4, 3) := by decide +kernel
theorem dX0_takesIn_7 : decode cX0_takesIn 7 = .ok (.return_, 1) := by decide +kernel
theorem dX0_takesIn_8 : decode cX0_takesIn 8 = .ok (.aload_n 0, 1) := by decide +kernel
theorem dX0_takesIn_9 : decode cX0_takesIn 9 = .ok (.getfield 18, 3) := by decide +kernel
theorem dX0_takesIn_12 : decode cX0_takesIn 12 = .ok (.aload_n 0, 1) := by decide +kernel
theorem dX0_takesIn_13 : decode cX0_takesIn 13 = .ok (.getfield 33, 3) := by decide +kernel
theorem dX0_takesIn_16 : decode cX0_takesIn 16 = .ok (.iload_n 1, 1) := by decide +kernel
theorem dX0_takesIn_17 : decode cX0_takesIn 17 = .ok (.iastore, 1) := by decide +kernel
theorem dX0_takesIn_18 : decode cX0_takesIn 18 = .ok (.aload_n 0, 1) := by decide +kernel
theorem dX0_takesIn_19 : decode cX0_takesIn 19 = .ok (.getfield 21, 3) := by decide +kernel
theorem dX0_takesIn_22 : decode cX0_takesIn 22 = .ok (.aload_n 0, 1) := by decide +kernel
theorem dX0_takesIn_23 : decode cX0_takesIn 23 = .ok (.getfield 33, 3) := by decide +kernel
theorem dX0_takesIn_26 : decode cX0_takesIn 26 = .ok (.iload_n 2, 1) := by decide +kernel
theorem dX0_takesIn_27 : decode cX0_takesIn 27 = .ok (.iastore, 1) := by decide +kernel
theorem dX0_takesIn_28 : decode cX0_takesIn 28 = .ok (.aload_n 0, 1) := by decide +kernel
theorem dX0_takesIn_29 : decode cX0_takesIn 29 = .ok (.getfield 24, 3) := by decide +kernel
theorem dX0_takesIn_32 : decode cX0_takesIn 32 = .ok (.aload_n 0, 1) := by decide +kernel
theorem dX0_takesIn_33 : decode cX0_takesIn 33 = .ok (.getfield 33, 3) := by decide +kernel
theorem dX0_takesIn_36 : decode cX0_takesIn 36 = .ok (.iload_n 3, 1) := by decide +kernel
theorem dX0_takesIn_37 : decode cX0_takesIn 37 = .ok (.iastore, 1) := by decide +kernel
theorem dX0_takesIn_38 : decode cX0_takesIn 38 = .ok (.aload_n 0, 1) := by decide +kernel
theorem dX0_takesIn_39 : decode cX0_takesIn 39 = .ok (.getfield 27, 3) := by decide +kernel
theorem dX0_takesIn_42 : decode cX0_takesIn 42 = .ok (.aload_n 0, 1) := by decide +kernel
theorem dX0_takesIn_43 : decode cX0_takesIn 43 = .ok (.getfield 33, 3) := by decide +kernel
theorem dX0_takesIn_46 : decode cX0_takesIn 46 = .ok (.iload 4, 2) := by decide +kernel
theorem dX0_takesIn_48 : decode cX0_takesIn 48 = .ok (.iastore, 1) := by decide +kernel
theorem dX0_takesIn_49 : decode cX0_takesIn 49 = .ok (.aload_n 0, 1) := by decide +kernel
theorem dX0_takesIn_50 : decode cX0_takesIn 50 = .ok (.getfield 30, 3) := by decide +kernel
theorem dX0_takesIn_53 : decode cX0_takesIn 53 = .ok (.aload_n 0, 1) := by decide +kernel
theorem dX0_takesIn_54 : decode cX0_takesIn 54 = .ok (.getfield 33, 3) := by decide +kernel
theorem dX0_takesIn_57 : decode cX0_takesIn 57 = .ok (.iconst 0, 1) := by decide +kernel
theorem dX0_takesIn_58 : decode cX0_takesIn 58 = .ok (.iastore, 1) := by decide +kernel
theorem dX0_takesIn_59 : decode cX0_takesIn 59 = .ok (.aload_n 0, 1) := by decide +kernel
theorem dX0_takesIn_60 : decode cX0_takesIn 60 = .ok (.dup, 1) := by decide +kernel
theorem dX0_takesIn_61 : decode cX0_takesIn 61 = .ok (.getfield 33, 3) := by decide +kernel
theorem dX0_takesIn_64 : decode cX0_takesIn 64 = .ok (.iconst 1, 1) := by decide +kernel
theorem dX0_takesIn_65 : decode cX0_takesIn 65 = .ok (.iadd, 1) := by decide +kernel
theorem dX0_takesIn_66 : decode cX0_takesIn 66 = .ok (.putfield 33, 3) := by decide +kernel
theorem dX0_takesIn_69 : decode cX0_takesIn 69 = .ok (.return_, 1) := by decide +kernel
theorem dX0_refill_0 : decode cX0_refill 0 = .ok (.aload_n 0, 1) := by decide +kernel
theorem dX0_refill_1 : decode cX0_refill 1 = .ok (.getfield 9, 3) := by decide +kernel
theorem dX0_refill_4 : decode cX0_refill 4 = .ok (.iload_n 1, 1) := by decide +kernel
theorem dX0_refill_5 : decode cX0_refill 5 = .ok (.iload_n 2, 1) := by decide +kernel
theorem dX0_refill_6 : decode cX0_refill 6 = .ok (.iastore, 1) := by decide +kernel
theorem dX0_refill_7 : decode cX0_refill 7 = .ok (.aload_n 0, 1) := by decide +kernel
theorem dX0_refill_8 : decode cX0_refill 8 = .ok (.getfield 15, 3) := by decide +kernel
theorem dX0_refill_11 : decode cX0_refill 11 = .ok (.iload_n 1, 1) := by decide +kernel
theorem dX0_refill_12 : decode cX0_refill 12 = .ok (.iconst 0, 1) := by decide +kernel
theorem dX0_refill_13 : decode cX0_refill 13 = .ok (.iastore, 1) := by decide +kernel
theorem dX0_refill_14 : decode cX0_refill 14 = .ok (.return_, 1) := by decide +kernel
theorem dX0_turnRest_0 : decode cX0_turnRest 0 = .ok (.aload_n 0, 1) := by decide +kernel
theorem dX0_turnRest_1 : decode cX0_turnRest 1 = .ok (.dup, 1) := by decide +kernel
theorem dX0_turnRest_2 : decode cX0_turnRest 2 = .ok (.getfield 37, 3) := by decide +kernel
theorem dX0_turnRest_5 : decode cX0_turnRest 5 = .ok (.iconst 1, 1) := by decide +kernel
theorem dX0_turnRest_6 : decode cX0_turnRest 6 = .ok (.iload_n 1, 1) := by decide +kernel
theorem dX0_turnRest_7 : decode cX0_turnRest 7 = .ok (.ishl, 1) := by decide +kernel
theorem dX0_turnRest_8 : decode cX0_turnRest 8 = .ok (.ixor, 1) := by decide +kernel
theorem dX0_turnRest_9 : decode cX0_turnRest 9 = .ok (.putfield 37, 3) := by decide +kernel
theorem dX0_turnRest_12 : decode cX0_turnRest 12 = .ok (.return_, 1) := by decide +kernel
theorem dX0_setBack_0 : decode cX0_setBack 0 = .ok (.aload_n 0, 1) := by decide +kernel
theorem dX0_setBack_1 : decode cX0_setBack 1 = .ok (.getfield 15, 3) := by decide +kernel
theorem dX0_setBack_4 : decode cX0_setBack 4 = .ok (.iconst 0, 1) := by decide +kernel
theorem dX0_setBack_5 : decode cX0_setBack 5 = .ok (.invokestatic 52, 3) := by decide +kernel
theorem dX0_setBack_8 : decode cX0_setBack 8 = .ok (.aload_n 0, 1) := by decide +kernel
theorem dX0_setBack_9 : decode cX0_setBack 9 = .ok (.getfield 30, 3) := by decide +kernel
theorem dX0_setBack_12 : decode cX0_setBack 12 = .ok (.iconst 0, 1) := by decide +kernel
theorem dX0_setBack_13 : decode cX0_setBack 13 = .ok (.invokestatic 52, 3) := by decide +kernel
theorem dX0_setBack_16 : decode cX0_setBack 16 = .ok (.return_, 1) := by decide +kernel
theorem dX0_leftIn_0 : decode cX0_leftIn 0 = .ok (.aload_n 0, 1) := by decide +kernel
theorem dX0_leftIn_1 : decode cX0_leftIn 1 = .ok (.getfield 9, 3) := by decide +kernel
theorem dX0_leftIn_4 : decode cX0_leftIn 4 = .ok (.iload_n 1, 1) := by decide +kernel
theorem dX0_leftIn_5 : decode cX0_leftIn 5 = .ok (.iaload, 1) := by decide +kernel
theorem dX0_leftIn_6 : decode cX0_leftIn 6 = .ok (.aload_n 0, 1) := by decide +kernel
theorem dX0_leftIn_7 : decode cX0_leftIn 7 = .ok (.getfield 15, 3) := by decide +kernel
theorem dX0_leftIn_10 : decode cX0_leftIn 10 = .ok (.iload_n 1, 1) := by decide +kernel
theorem dX0_leftIn_11 : decode cX0_leftIn 11 = .ok (.iaload, 1) := by decide +kernel
theorem dX0_leftIn_12 : decode cX0_leftIn 12 = .ok (.isub, 1) := by decide +kernel
theorem dX0_leftIn_13 : decode cX0_leftIn 13 = .ok (.ireturn, 1) := by decide +kernel
theorem dX0_isDone_0 : decode cX0_isDone 0 = .ok (.aload_n 0, 1) := by decide +kernel
theorem dX0_isDone_1 : decode cX0_isDone 1 = .ok (.getfield 15, 3) := by decide +kernel
theorem dX0_isDone_4 : decode cX0_isDone 4 = .ok (.iload_n 1, 1) := by decide +kernel
theorem dX0_isDone_5 : decode cX0_isDone 5 = .ok (.iaload, 1) := by decide +kernel
theorem dX0_isDone_6 : decode cX0_isDone 6 = .ok (.aload_n 0, 1) := by decide +kernel
theorem dX0_isDone_7 : decode cX0_isDone 7 = .ok (.getfield 9, 3) := by decide +kernel
theorem dX0_isDone_10 : decode cX0_isDone 10 = .ok (.iload_n 1, 1) := by decide +kernel
theorem dX0_isDone_11 : decode cX0_isDone 11 = .ok (.iaload, 1) := by decide +kernel
theorem dX0_isDone_12 : decode cX0_isDone 12 = .ok (.if_icmp .ne 7, 3) := by decide +kernel
theorem dX0_isDone_15 : decode cX0_isDone 15 = .ok (.iconst 1, 1) := by decide +kernel
theorem dX0_isDone_16 : decode cX0_isDone 16 = .ok (.goto 4, 3) := by decide +kernel
theorem dX0_isDone_19 : decode cX0_isDone 19 = .ok (.iconst 0, 1) := by decide +kernel
theorem dX0_isDone_20 : decode cX0_isDone 20 = .ok (.ireturn, 1) := by decide +kernel
theorem dX0_doneDips_0 : decode cX0_doneDips 0 = .ok (.iconst 0, 1) := by decide +kernel
theorem dX0_doneDips_1 : decode cX0_doneDips 1 = .ok (.istore_n 1, 1) := by decide +kernel
theorem dX0_doneDips_2 : decode cX0_doneDips 2 = .ok (.iconst 0, 1) := by decide +kernel
theorem dX0_doneDips_3 : decode cX0_doneDips 3 = .ok (.istore_n 2, 1) := by decide +kernel
theorem dX0_doneDips_4 : decode cX0_doneDips 4 = .ok (.iload_n 2, 1) := by decide +kernel
theorem dX0_doneDips_5 : decode cX0_doneDips 5 = .ok (.bipush 10, 2) := by decide +kernel
theorem dX0_doneDips_7 : decode cX0_doneDips 7 = .ok (.if_icmp .ge 27, 3) := by decide +kernel
theorem dX0_doneDips_10 : decode cX0_doneDips 10 = .ok (.iload_n 1, 1) := by decide +kernel
theorem dX0_doneDips_11 : decode cX0_doneDips 11 = .ok (.aload_n 0, 1) := by decide +kernel
theorem dX0_doneDips_12 : decode cX0_doneDips 12 = .ok (.iload_n 2, 1) := by decide +kernel
theorem dX0_doneDips_13 : decode cX0_doneDips 13 = .ok (.invokevirtual 68, 3) := by decide +kernel
theorem dX0_doneDips_16 : decode cX0_doneDips 16 = .ok (.ifCond .eq 9, 3) := by decide +kernel
theorem dX0_doneDips_19 : decode cX0_doneDips 19 = .ok (.iconst 1, 1) := by decide +kernel
theorem dX0_doneDips_20 : decode cX0_doneDips 20 = .ok (.iload_n 2, 1) := by decide +kernel
theorem dX0_doneDips_21 : decode cX0_doneDips 21 = .ok (.ishl, 1) := by decide +kernel
theorem dX0_doneDips_22 : decode cX0_doneDips 22 = .ok (.goto 4, 3) := by decide +kernel
theorem dX0_doneDips_25 : decode cX0_doneDips 25 = .ok (.iconst 0, 1) := by decide +kernel
theorem dX0_doneDips_26 : decode cX0_doneDips 26 = .ok (.ior, 1) := by decide +kernel
theorem dX0_doneDips_27 : decode cX0_doneDips 27 = .ok (.istore_n 1, 1) := by decide +kernel
theorem dX0_doneDips_28 : decode cX0_doneDips 28 = .ok (.iinc 2 1, 3) := by decide +kernel
theorem dX0_doneDips_31 : decode cX0_doneDips 31 = .ok (.goto (-27), 3) := by decide +kernel
theorem dX0_doneDips_34 : decode cX0_doneDips 34 = .ok (.iload_n 1, 1) := by decide +kernel
theorem dX0_doneDips_35 : decode cX0_doneDips 35 = .ok (.ireturn, 1) := by decide +kernel
theorem dX0_whoIsAt_0 : decode cX0_whoIsAt 0 = .ok (.iconst 0, 1) := by decide +kernel
theorem dX0_whoIsAt_1 : decode cX0_whoIsAt 1 = .ok (.istore_n 2, 1) := by decide +kernel
theorem dX0_whoIsAt_2 : decode cX0_whoIsAt 2 = .ok (.iconst 0, 1) := by decide +kernel
theorem dX0_whoIsAt_3 : decode cX0_whoIsAt 3 = .ok (.istore_n 3, 1) := by decide +kernel
theorem dX0_whoIsAt_4 : decode cX0_whoIsAt 4 = .ok (.iload_n 3, 1) := by decide +kernel
theorem dX0_whoIsAt_5 : decode cX0_whoIsAt 5 = .ok (.aload_n 0, 1) := by decide +kernel
theorem dX0_whoIsAt_6 : decode cX0_whoIsAt 6 = .ok (.getfield 33, 3) := by decide +kernel
theorem dX0_whoIsAt_9 : decode cX0_whoIsAt 9 = .ok (.if_icmp .ge 29, 3) := by decide +kernel
theorem dX0_whoIsAt_12 : decode cX0_whoIsAt 12 = .ok (.iload_n 2, 1) := by decide +kernel
theorem dX0_whoIsAt_13 : decode cX0_whoIsAt 13 = .ok (.aload_n 0, 1) := by decide +kernel
theorem dX0_whoIsAt_14 : decode cX0_whoIsAt 14 = .ok (.getfield 24, 3) := by decide +kernel
theorem dX0_whoIsAt_17 : decode cX0_whoIsAt 17 = .ok (.iload_n 3, 1) := by decide +kernel
theorem dX0_whoIsAt_18 : decode cX0_whoIsAt 18 = .ok (.iaload, 1) := by decide +kernel
theorem dX0_whoIsAt_19 : decode cX0_whoIsAt 19 = .ok (.iload_n 1, 1) := by decide +kernel
theorem dX0_whoIsAt_20 : decode cX0_whoIsAt 20 = .ok (.if_icmp .ne 9, 3) := by decide +kernel
theorem dX0_whoIsAt_23 : decode cX0_whoIsAt 23 = .ok (.iconst 1, 1) := by decide +kernel
theorem dX0_whoIsAt_24 : decode cX0_whoIsAt 24 = .ok (.iload_n 3, 1) := by decide +kernel
theorem dX0_whoIsAt_25 : decode cX0_whoIsAt 25 = .ok (.ishl, 1) := by decide +kernel
theorem dX0_whoIsAt_26 : decode cX0_whoIsAt 26 = .ok (.goto 4, 3) := by decide +kernel
theorem dX0_whoIsAt_29 : decode cX0_whoIsAt 29 = .ok (.iconst 0, 1) := by decide +kernel
theorem dX0_whoIsAt_30 : decode cX0_whoIsAt 30 = .ok (.ior, 1) := by decide +kernel
theorem dX0_whoIsAt_31 : decode cX0_whoIsAt 31 = .ok (.istore_n 2, 1) := by decide +kernel
theorem dX0_whoIsAt_32 : decode cX0_whoIsAt 32 = .ok (.iinc 3 1, 3) := by decide +kernel
theorem dX0_whoIsAt_35 : decode cX0_whoIsAt 35 = .ok (.goto (-31), 3) := by decide +kernel
theorem dX0_whoIsAt_38 : decode cX0_whoIsAt 38 = .ok (.iload_n 2, 1) := by decide +kernel
theorem dX0_whoIsAt_39 : decode cX0_whoIsAt 39 = .ok (.ireturn, 1) := by decide +kernel
theorem dX0_allGrains_0 : decode cX0_allGrains 0 = .ok (.iconst 0, 1) := by decide +kernel
theorem dX0_allGrains_1 : decode cX0_allGrains 1 = .ok (.istore_n 1, 1) := by decide +kernel
theorem dX0_allGrains_2 : decode cX0_allGrains 2 = .ok (.iconst 0, 1) := by decide +kernel
theorem dX0_allGrains_3 : decode cX0_allGrains 3 = .ok (.istore_n 2, 1) := by decide +kernel
theorem dX0_allGrains_4 : decode cX0_allGrains 4 = .ok (.iload_n 2, 1) := by decide +kernel
theorem dX0_allGrains_5 : decode cX0_allGrains 5 = .ok (.bipush 10, 2) := by decide +kernel
theorem dX0_allGrains_7 : decode cX0_allGrains 7 = .ok (.if_icmp .ge 18, 3) := by decide +kernel
theorem dX0_allGrains_10 : decode cX0_allGrains 10 = .ok (.iload_n 1, 1) := by decide +kernel
theorem dX0_allGrains_11 : decode cX0_allGrains 11 = .ok (.aload_n 0, 1) := by decide +kernel
theorem dX0_allGrains_12 : decode cX0_allGrains 12 = .ok (.getfield 9, 3) := by decide +kernel
theorem dX0_allGrains_15 : decode cX0_allGrains 15 = .ok (.iload_n 2, 1) := by decide +kernel
theorem dX0_allGrains_16 : decode cX0_allGrains 16 = .ok (.iaload, 1) := by decide +kernel
theorem dX0_allGrains_17 : decode cX0_allGrains 17 = .ok (.iadd, 1) := by decide +kernel
theorem dX0_allGrains_18 : decode cX0_allGrains 18 = .ok (.istore_n 1, 1) := by decide +kernel
theorem dX0_allGrains_19 : decode cX0_allGrains 19 = .ok (.iinc 2 1, 3) := by decide +kernel
theorem dX0_allGrains_22 : decode cX0_allGrains 22 = .ok (.goto (-18), 3) := by decide +kernel
theorem dX0_allGrains_25 : decode cX0_allGrains 25 = .ok (.iload_n 1, 1) := by decide +kernel
theorem dX0_allGrains_26 : decode cX0_allGrains 26 = .ok (.ireturn, 1) := by decide +kernel
theorem dX0_allDone_0 : decode cX0_allDone 0 = .ok (.iconst 0, 1) := by decide +kernel
theorem dX0_allDone_1 : decode cX0_allDone 1 = .ok (.istore_n 1, 1) := by decide +kernel
theorem dX0_allDone_2 : decode cX0_allDone 2 = .ok (.iconst 0, 1) := by decide +kernel
theorem dX0_allDone_3 : decode cX0_allDone 3 = .ok (.istore_n 2, 1) := by decide +kernel
theorem dX0_allDone_4 : decode cX0_allDone 4 = .ok (.iload_n 2, 1) := by decide +kernel
theorem dX0_allDone_5 : decode cX0_allDone 5 = .ok (.bipush 10, 2) := by decide +kernel
theorem dX0_allDone_7 : decode cX0_allDone 7 = .ok (.if_icmp .ge 18, 3) := by decide +kernel
theorem dX0_allDone_10 : decode cX0_allDone 10 = .ok (.iload_n 1, 1) := by decide +kernel
theorem dX0_allDone_11 : decode cX0_allDone 11 = .ok (.aload_n 0, 1) := by decide +kernel
theorem dX0_allDone_12 : decode cX0_allDone 12 = .ok (.getfield 15, 3) := by decide +kernel
theorem dX0_allDone_15 : decode cX0_allDone 15 = .ok (.iload_n 2, 1) := by decide +kernel
theorem dX0_allDone_16 : decode cX0_allDone 16 = .ok (.iaload, 1) := by decide +kernel
theorem dX0_allDone_17 : decode cX0_allDone 17 = .ok (.iadd, 1) := by decide +kernel
theorem dX0_allDone_18 : decode cX0_allDone 18 = .ok (.istore_n 1, 1) := by decide +kernel
theorem dX0_allDone_19 : decode cX0_allDone 19 = .ok (.iinc 2 1, 3) := by decide +kernel
theorem dX0_allDone_22 : decode cX0_allDone 22 = .ok (.goto (-18), 3) := by decide +kernel
theorem dX0_allDone_25 : decode cX0_allDone 25 = .ok (.iload_n 1, 1) := by decide +kernel
theorem dX0_allDone_26 : decode cX0_allDone 26 = .ok (.ireturn, 1) := by decide +kernel
theorem dX0_allBooks_0 : decode cX0_allBooks 0 = .ok (.iconst 0, 1) := by decide +kernel
theorem dX0_allBooks_1 : decode cX0_allBooks 1 = .ok (.istore_n 1, 1) := by decide +kernel
theorem dX0_allBooks_2 : decode cX0_allBooks 2 = .ok (.iconst 0, 1) := by decide +kernel
theorem dX0_allBooks_3 : decode cX0_allBooks 3 = .ok (.istore_n 2, 1) := by decide +kernel
theorem dX0_allBooks_4 : decode cX0_allBooks 4 = .ok (.iload_n 2, 1) := by decide +kernel
theorem dX0_allBooks_5 : decode cX0_allBooks 5 = .ok (.aload_n 0, 1) := by decide +kernel
theorem dX0_allBooks_6 : decode cX0_allBooks 6 = .ok (.getfield 33, 3) := by decide +kernel
theorem dX0_allBooks_9 : decode cX0_allBooks 9 = .ok (.if_icmp .ge 18, 3) := by decide +kernel
theorem dX0_allBooks_12 : decode cX0_allBooks 12 = .ok (.iload_n 1, 1) := by decide +kernel
theorem dX0_allBooks_13 : decode cX0_allBooks 13 = .ok (.aload_n 0, 1) := by decide +kernel
theorem dX0_allBooks_14 : decode cX0_allBooks 14 = .ok (.getfield 30, 3) := by decide +kernel
theorem dX0_allBooks_17 : decode cX0_allBooks 17 = .ok (.iload_n 2, 1) := by decide +kernel
theorem dX0_allBooks_18 : decode cX0_allBooks 18 = .ok (.iaload, 1) := by decide +kernel
theorem dX0_allBooks_19 : decode cX0_allBooks 19 = .ok (.iadd, 1) := by decide +kernel
theorem dX0_allBooks_20 : decode cX0_allBooks 20 = .ok (.istore_n 1, 1) := by decide +kernel
theorem dX0_allBooks_21 : decode cX0_allBooks 21 = .ok (.iinc 2 1, 3) := by decide +kernel
theorem dX0_allBooks_24 : decode cX0_allBooks 24 = .ok (.goto (-20), 3) := by decide +kernel
theorem dX0_allBooks_27 : decode cX0_allBooks 27 = .ok (.iload_n 1, 1) := by decide +kernel
theorem dX0_allBooks_28 : decode cX0_allBooks 28 = .ok (.ireturn, 1) := by decide +kernel
theorem dX0_passDays_0 : decode cX0_passDays 0 = .ok (.iconst 0, 1) := by decide +kernel
theorem dX0_passDays_1 : decode cX0_passDays 1 = .ok (.istore_n 2, 1) := by decide +kernel
theorem dX0_passDays_2 : decode cX0_passDays 2 = .ok (.iload_n 2, 1) := by decide +kernel
theorem dX0_passDays_3 : decode cX0_passDays 3 = .ok (.iload_n 1, 1) := by decide +kernel
theorem dX0_passDays_4 : decode cX0_passDays 4 = .ok (.if_icmp .ge 13, 3) := by decide +kernel
theorem dX0_passDays_7 : decode cX0_passDays 7 = .ok (.aload_n 0, 1) := by decide +kernel
theorem dX0_passDays_8 : decode cX0_passDays 8 = .ok (.invokevirtual 72, 3) := by decide +kernel
theorem dX0_passDays_11 : decode cX0_passDays 11 = .ok (.iinc 2 1, 3) := by decide +kernel
theorem dX0_passDays_14 : decode cX0_passDays 14 = .ok (.goto (-12), 3) := by decide +kernel
theorem dX0_passDays_17 : decode cX0_passDays 17 = .ok (.return_, 1) := by decide +kernel
theorem dX0_passDay_0 : decode cX0_passDay 0 = .ok (.aload_n 0, 1) := by decide +kernel
theorem dX0_passDay_1 : decode cX0_passDay 1 = .ok (.dup, 1) := by decide +kernel
theorem dX0_passDay_2 : decode cX0_passDay 2 = .ok (.getfield 46, 3) := by decide +kernel
theorem dX0_passDay_5 : decode cX0_passDay 5 = .ok (.iconst 1, 1) := by decide +kernel
theorem dX0_passDay_6 : decode cX0_passDay 6 = .ok (.iadd, 1) := by decide +kernel
theorem dX0_passDay_7 : decode cX0_passDay 7 = .ok (.putfield 46, 3) := by decide +kernel
theorem dX0_passDay_10 : decode cX0_passDay 10 = .ok (.iconst 0, 1) := by decide +kernel
theorem dX0_passDay_11 : decode cX0_passDay 11 = .ok (.istore_n 1, 1) := by decide +kernel
theorem dX0_passDay_12 : decode cX0_passDay 12 = .ok (.iload_n 1, 1) := by decide +kernel
theorem dX0_passDay_13 : decode cX0_passDay 13 = .ok (.aload_n 0, 1) := by decide +kernel
theorem dX0_passDay_14 : decode cX0_passDay 14 = .ok (.getfield 33, 3) := by decide +kernel
theorem dX0_passDay_17 : decode cX0_passDay 17 = .ok (.if_icmp .ge 46, 3) := by decide +kernel
theorem dX0_passDay_20 : decode cX0_passDay 20 = .ok (.aload_n 0, 1) := by decide +kernel
theorem dX0_passDay_21 : decode cX0_passDay 21 = .ok (.getfield 40, 3) := by decide +kernel
theorem dX0_passDay_24 : decode cX0_passDay 24 = .ok (.iload_n 1, 1) := by decide +kernel
theorem dX0_passDay_25 : decode cX0_passDay 25 = .ok (.invokestatic 75, 3) := by decide +kernel
theorem dX0_passDay_28 : decode cX0_passDay 28 = .ok (.ifCond .eq 13, 3) := by decide +kernel
theorem dX0_passDay_31 : decode cX0_passDay 31 = .ok (.aload_n 0, 1) := by decide +kernel
theorem dX0_passDay_32 : decode cX0_passDay 32 = .ok (.iload_n 1, 1) := by decide +kernel
theorem dX0_passDay_33 : decode cX0_passDay 33 = .ok (.bipush 15, 2) := by decide +kernel
theorem dX0_passDay_35 : decode cX0_passDay 35 = .ok (.invokevirtual 79, 3) := by decide +kernel
theorem dX0_passDay_38 : decode cX0_passDay 38 = .ok (.goto 19, 3) := by decide +kernel
theorem dX0_passDay_41 : decode cX0_passDay 41 = .ok (.aload_n 0, 1) := by decide +kernel
theorem dX0_passDay_42 : decode cX0_passDay 42 = .ok (.getfield 37, 3) := by decide +kernel
theorem dX0_passDay_45 : decode cX0_passDay 45 = .ok (.iload_n 1, 1) := by decide +kernel
theorem dX0_passDay_46 : decode cX0_passDay 46 = .ok (.invokestatic 75, 3) := by decide +kernel
theorem dX0_passDay_49 : decode cX0_passDay 49 = .ok (.ifCond .ne 8, 3) := by decide +kernel
theorem dX0_passDay_52 : decode cX0_passDay 52 = .ok (.aload_n 0, 1) := by decide +kernel
theorem dX0_passDay_53 : decode cX0_passDay 53 = .ok (.iload_n 1, 1) := by decide +kernel
theorem dX0_passDay_54 : decode cX0_passDay 54 = .ok (.invokevirtual 83, 3) := by decide +kernel
theorem dX0_passDay_57 : decode cX0_passDay 57 = .ok (.iinc 1 1, 3) := by decide +kernel
theorem dX0_passDay_60 : decode cX0_passDay 60 = .ok (.goto (-48), 3) := by decide +kernel
theorem dX0_passDay_63 : decode cX0_passDay 63 = .ok (.aload_n 0, 1) := by decide +kernel
theorem dX0_passDay_64 : decode cX0_passDay 64 = .ok (.getfield 43, 3) := by decide +kernel
theorem dX0_passDay_67 : decode cX0_passDay 67 = .ok (.ifCond .le 31, 3) := by decide +kernel
theorem dX0_passDay_70 : decode cX0_passDay 70 = .ok (.bipush 8, 2) := by decide +kernel
theorem dX0_passDay_72 : decode cX0_passDay 72 = .ok (.istore_n 1, 1) := by decide +kernel
theorem dX0_passDay_73 : decode cX0_passDay 73 = .ok (.iload_n 1, 1) := by decide +kernel
theorem dX0_passDay_74 : decode cX0_passDay 74 = .ok (.ifCond .lt 21, 3) := by decide +kernel
theorem dX0_passDay_77 : decode cX0_passDay 77 = .ok (.aload_n 0, 1) := by decide +kernel
theorem dX0_passDay_78 : decode cX0_passDay 78 = .ok (.iload_n 1, 1) := by decide +kernel
theorem dX0_passDay_79 : decode cX0_passDay 79 = .ok (.iload_n 1, 1) := by decide +kernel
theorem dX0_passDay_80 : decode cX0_passDay 80 = .ok (.iconst 1, 1) := by decide +kernel
theorem dX0_passDay_81 : decode cX0_passDay 81 = .ok (.iadd, 1) := by decide +kernel
theorem dX0_passDay_82 : decode cX0_passDay 82 = .ok (.aload_n 0, 1) := by decide +kernel
theorem dX0_passDay_83 : decode cX0_passDay 83 = .ok (.getfield 43, 3) := by decide +kernel
theorem dX0_passDay_86 : decode cX0_passDay 86 = .ok (.invokevirtual 87, 3) := by decide +kernel
theorem dX0_passDay_89 : decode cX0_passDay 89 = .ok (.iinc 1 (-1), 3) := by decide +kernel
theorem dX0_passDay_92 : decode cX0_passDay 92 = .ok (.goto (-19), 3) := by decide +kernel
theorem dX0_passDay_95 : decode cX0_passDay 95 = .ok (.goto 37, 3) := by decide +kernel
theorem dX0_passDay_98 : decode cX0_passDay 98 = .ok (.aload_n 0, 1) := by decide +kernel
theorem dX0_passDay_99 : decode cX0_passDay 99 = .ok (.getfield 43, 3) := by decide +kernel
theorem dX0_passDay_102 : decode cX0_passDay 102 = .ok (.ifCond .ge 30, 3) := by decide +kernel
theorem dX0_passDay_105 : decode cX0_passDay 105 = .ok (.iconst 1, 1) := by decide +kernel
theorem dX0_passDay_106 : decode cX0_passDay 106 = .ok (.istore_n 1, 1) := by decide +kernel
theorem dX0_passDay_107 : decode cX0_passDay 107 = .ok (.iload_n 1, 1) := by decide +kernel
theorem dX0_passDay_108 : decode cX0_passDay 108 = .ok (.bipush 10, 2) := by decide +kernel
theorem dX0_passDay_110 : decode cX0_passDay 110 = .ok (.if_icmp .ge 22, 3) := by decide +kernel
theorem dX0_passDay_113 : decode cX0_passDay 113 = .ok (.aload_n 0, 1) := by decide +kernel
theorem dX0_passDay_114 : decode cX0_passDay 114 = .ok (.iload_n 1, 1) := by decide +kernel
theorem dX0_passDay_115 : decode cX0_passDay 115 = .ok (.iload_n 1, 1) := by decide +kernel
theorem dX0_passDay_116 : decode cX0_passDay 116 = .ok (.iconst 1, 1) := by decide +kernel
theorem dX0_passDay_117 : decode cX0_passDay 117 = .ok (.isub, 1) := by decide +kernel
theorem dX0_passDay_118 : decode cX0_passDay 118 = .ok (.aload_n 0, 1) := by decide +kernel
theorem dX0_passDay_119 : decode cX0_passDay 119 = .ok (.getfield 43, 3) := by decide +kernel
theorem dX0_passDay_122 : decode cX0_passDay 122 = .ok (.ineg, 1) := by decide +kernel
theorem dX0_passDay_123 : decode cX0_passDay 123 = .ok (.invokevirtual 87, 3) := by decide +kernel
theorem dX0_passDay_126 : decode cX0_passDay 126 = .ok (.iinc 1 1, 3) := by decide +kernel
theorem dX0_passDay_129 : decode cX0_passDay 129 = .ok (.goto (-22), 3) := by decide +kernel
theorem dX0_passDay_132 : decode cX0_passDay 132 = .ok (.return_, 1) := by decide +kernel
theorem dX0_work_0 : decode cX0_work 0 = .ok (.aload_n 0, 1) := by decide +kernel
theorem dX0_work_1 : decode cX0_work 1 = .ok (.getfield 24, 3) := by decide +kernel
theorem dX0_work_4 : decode cX0_work 4 = .ok (.iload_n 1, 1) := by decide +kernel
theorem dX0_work_5 : decode cX0_work 5 = .ok (.iaload, 1) := by decide +kernel
theorem dX0_work_6 : decode cX0_work 6 = .ok (.istore_n 2, 1) := by decide +kernel
theorem dX0_work_7 : decode cX0_work 7 = .ok (.aload_n 0, 1) := by decide +kernel
theorem dX0_work_8 : decode cX0_work 8 = .ok (.getfield 18, 3) := by decide +kernel
theorem dX0_work_11 : decode cX0_work 11 = .ok (.iload_n 1, 1) := by decide +kernel
theorem dX0_work_12 : decode cX0_work 12 = .ok (.iaload, 1) := by decide +kernel
theorem dX0_work_13 : decode cX0_work 13 = .ok (.aload_n 0, 1) := by decide +kernel
theorem dX0_work_14 : decode cX0_work 14 = .ok (.getfield 21, 3) := by decide +kernel
theorem dX0_work_17 : decode cX0_work 17 = .ok (.iload_n 1, 1) := by decide +kernel
theorem dX0_work_18 : decode cX0_work 18 = .ok (.iaload, 1) := by decide +kernel
theorem dX0_work_19 : decode cX0_work 19 = .ok (.aload_n 0, 1) := by decide +kernel
theorem dX0_work_20 : decode cX0_work 20 = .ok (.iload_n 2, 1) := by decide +kernel
theorem dX0_work_21 : decode cX0_work 21 = .ok (.invokevirtual 91, 3) := by decide +kernel
theorem dX0_work_24 : decode cX0_work 24 = .ok (.aload_n 0, 1) := by decide +kernel
theorem dX0_work_25 : decode cX0_work 25 = .ok (.getfield 46, 3) := by decide +kernel
theorem dX0_work_28 : decode cX0_work 28 = .ok (.invokestatic 95, 3) := by decide +kernel
theorem dX0_work_31 : decode cX0_work 31 = .ok (.istore_n 3, 1) := by decide +kernel
theorem dX0_work_32 : decode cX0_work 32 = .ok (.aload_n 0, 1) := by decide +kernel
theorem dX0_work_33 : decode cX0_work 33 = .ok (.getfield 15, 3) := by decide +kernel
theorem dX0_work_36 : decode cX0_work 36 = .ok (.iload_n 2, 1) := by decide +kernel
theorem dX0_work_37 : decode cX0_work 37 = .ok (.dup2, 1) := by decide +kernel
theorem dX0_work_38 : decode cX0_work 38 = .ok (.iaload, 1) := by decide +kernel
theorem dX0_work_39 : decode cX0_work 39 = .ok (.iload_n 3, 1) := by decide +kernel
theorem dX0_work_40 : decode cX0_work 40 = .ok (.iadd, 1) := by decide +kernel
theorem dX0_work_41 : decode cX0_work 41 = .ok (.iastore, 1) := by decide +kernel
theorem dX0_work_42 : decode cX0_work 42 = .ok (.aload_n 0, 1) := by decide +kernel
theorem dX0_work_43 : decode cX0_work 43 = .ok (.iload_n 1, 1) := by decide +kernel
theorem dX0_work_44 : decode cX0_work 44 = .ok (.aload_n 0, 1) := by decide +kernel
theorem dX0_work_45 : decode cX0_work 45 = .ok (.getfield 18, 3) := by decide +kernel
theorem dX0_work_48 : decode cX0_work 48 = .ok (.iload_n 1, 1) := by decide +kernel
theorem dX0_work_49 : decode cX0_work 49 = .ok (.iaload, 1) := by decide +kernel
theorem dX0_work_50 : decode cX0_work 50 = .ok (.aload_n 0, 1) := by decide +kernel
theorem dX0_work_51 : decode cX0_work 51 = .ok (.getfield 21, 3) := by decide +kernel
theorem dX0_work_54 : decode cX0_work 54 = .ok (.iload_n 1, 1) := by decide +kernel
theorem dX0_work_55 : decode cX0_work 55 = .ok (.iaload, 1) := by decide +kernel
theorem dX0_work_56 : decode cX0_work 56 = .ok (.iload_n 3, 1) := by decide +kernel
theorem dX0_work_57 : decode cX0_work 57 = .ok (.invokestatic 101, 3) := by decide +kernel
theorem dX0_work_60 : decode cX0_work 60 = .ok (.invokevirtual 79, 3) := by decide +kernel
theorem dX0_work_63 : decode cX0_work 63 = .ok (.aload_n 0, 1) := by decide +kernel
theorem dX0_work_64 : decode cX0_work 64 = .ok (.getfield 27, 3) := by decide +kernel
theorem dX0_work_67 : decode cX0_work 67 = .ok (.iload_n 1, 1) := by decide +kernel
theorem dX0_work_68 : decode cX0_work 68 = .ok (.iaload, 1) := by decide +kernel
theorem dX0_work_69 : decode cX0_work 69 = .ok (.ifCond .ne 9, 3) := by decide +kernel
theorem dX0_work_72 : decode cX0_work 72 = .ok (.iload_n 2, 1) := by decide +kernel
theorem dX0_work_73 : decode cX0_work 73 = .ok (.iconst 1, 1) := by decide +kernel
theorem dX0_work_74 : decode cX0_work 74 = .ok (.iadd, 1) := by decide +kernel
theorem dX0_work_75 : decode cX0_work 75 = .ok (.goto 6, 3) := by decide +kernel
theorem dX0_work_78 : decode cX0_work 78 = .ok (.iload_n 2, 1) := by decide +kernel
theorem dX0_work_79 : decode cX0_work 79 = .ok (.iconst 1, 1) := by decide +kernel
theorem dX0_work_80 : decode cX0_work 80 = .ok (.isub, 1) := by decide +kernel
theorem dX0_work_81 : decode cX0_work 81 = .ok (.istore 4, 2) := by decide +kernel
theorem dX0_work_83 : decode cX0_work 83 = .ok (.aload_n 0, 1) := by decide +kernel
theorem dX0_work_84 : decode cX0_work 84 = .ok (.iload_n 2, 1) := by decide +kernel
theorem dX0_work_85 : decode cX0_work 85 = .ok (.invokevirtual 68, 3) := by decide +kernel
theorem dX0_work_88 : decode cX0_work 88 = .ok (.ifCond .eq 34, 3) := by decide +kernel
theorem dX0_work_91 : decode cX0_work 91 = .ok (.iload 4, 2) := by decide +kernel
theorem dX0_work_93 : decode cX0_work 93 = .ok (.invokestatic 105, 3) := by decide +kernel
theorem dX0_work_96 : decode cX0_work 96 = .ok (.ifCond .eq 26, 3) := by decide +kernel
theorem dX0_work_99 : decode cX0_work 99 = .ok (.aload_n 0, 1) := by decide +kernel
theorem dX0_work_100 : decode cX0_work 100 = .ok (.iload 4, 2) := by decide +kernel
theorem dX0_work_102 : decode cX0_work 102 = .ok (.aload_n 0, 1) := by decide +kernel
theorem dX0_work_103 : decode cX0_work 103 = .ok (.getfield 27, 3) := by decide +kernel
theorem dX0_work_106 : decode cX0_work 106 = .ok (.iload_n 1, 1) := by decide +kernel
theorem dX0_work_107 : decode cX0_work 107 = .ok (.iaload, 1) := by decide +kernel
theorem dX0_work_108 : decode cX0_work 108 = .ok (.invokevirtual 108, 3) := by decide +kernel
theorem dX0_work_111 : decode cX0_work 111 = .ok (.ifCond .ne 11, 3) := by decide +kernel
theorem dX0_work_114 : decode cX0_work 114 = .ok (.aload_n 0, 1) := by decide +kernel
theorem dX0_work_115 : decode cX0_work 115 = .ok (.getfield 24, 3) := by decide +kernel
theorem dX0_work_118 : decode cX0_work 118 = .ok (.iload_n 1, 1) := by decide +kernel
theorem dX0_work_119 : decode cX0_work 119 = .ok (.iload 4, 2) := by decide +kernel
theorem dX0_work_121 : decode cX0_work 121 = .ok (.iastore, 1) := by decide +kernel
theorem dX0_work_122 : decode cX0_work 122 = .ok (.return_, 1) := by decide +kernel
theorem dX0_write_0 : decode cX0_write 0 = .ok (.aload_n 0, 1) := by decide +kernel
theorem dX0_write_1 : decode cX0_write 1 = .ok (.getfield 30, 3) := by decide +kernel
theorem dX0_write_4 : decode cX0_write 4 = .ok (.iload_n 1, 1) := by decide +kernel
theorem dX0_write_5 : decode cX0_write 5 = .ok (.sipush 9999, 3) := by decide +kernel
theorem dX0_write_8 : decode cX0_write 8 = .ok (.aload_n 0, 1) := by decide +kernel
theorem dX0_write_9 : decode cX0_write 9 = .ok (.getfield 30, 3) := by decide +kernel
theorem dX0_write_12 : decode cX0_write 12 = .ok (.iload_n 1, 1) := by decide +kernel
theorem dX0_write_13 : decode cX0_write 13 = .ok (.iaload, 1) := by decide +kernel
theorem dX0_write_14 : decode cX0_write 14 = .ok (.iload_n 2, 1) := by decide +kernel
theorem dX0_write_15 : decode cX0_write 15 = .ok (.iadd, 1) := by decide +kernel
theorem dX0_write_16 : decode cX0_write 16 = .ok (.invokestatic 111, 3) := by decide +kernel
theorem dX0_write_19 : decode cX0_write 19 = .ok (.iastore, 1) := by decide +kernel
theorem dX0_write_20 : decode cX0_write 20 = .ok (.return_, 1) := by decide +kernel
theorem dX0_isBarred_0 : decode cX0_isBarred 0 = .ok (.iconst 0, 1) := by decide +kernel
theorem dX0_isBarred_1 : decode cX0_isBarred 1 = .ok (.istore_n 3, 1) := by decide +kernel
theorem dX0_isBarred_2 : decode cX0_isBarred 2 = .ok (.iload_n 3, 1) := by decide +kernel
theorem dX0_isBarred_3 : decode cX0_isBarred 3 = .ok (.aload_n 0, 1) := by decide +kernel
theorem dX0_isBarred_4 : decode cX0_isBarred 4 = .ok (.getfield 33, 3) := by decide +kernel
theorem dX0_isBarred_7 : decode cX0_isBarred 7 = .ok (.if_icmp .ge 31, 3) := by decide +kernel
theorem dX0_isBarred_10 : decode cX0_isBarred 10 = .ok (.aload_n 0, 1) := by decide +kernel
theorem dX0_isBarred_11 : decode cX0_isBarred 11 = .ok (.getfield 24, 3) := by decide +kernel
theorem dX0_isBarred_14 : decode cX0_isBarred 14 = .ok (.iload_n 3, 1) := by decide +kernel
theorem dX0_isBarred_15 : decode cX0_isBarred 15 = .ok (.iaload, 1) := by decide +kernel
theorem dX0_isBarred_16 : decode cX0_isBarred 16 = .ok (.iload_n 1, 1) := by decide +kernel
theorem dX0_isBarred_17 : decode cX0_isBarred 17 = .ok (.if_icmp .ne 15, 3) := by decide +kernel
theorem dX0_isBarred_20 : decode cX0_isBarred 20 = .ok (.aload_n 0, 1) := by decide +kernel
theorem dX0_isBarred_21 : decode cX0_isBarred 21 = .ok (.getfield 27, 3) := by decide +kernel
theorem dX0_isBarred_24 : decode cX0_isBarred 24 = .ok (.iload_n 3, 1) := by decide +kernel
theorem dX0_isBarred_25 : decode cX0_isBarred 25 = .ok (.iaload, 1) := by decide +kernel
theorem dX0_isBarred_26 : decode cX0_isBarred 26 = .ok (.iload_n 2, 1) := by decide +kernel
theorem dX0_isBarred_27 : decode cX0_isBarred 27 = .ok (.if_icmp .eq 5, 3) := by decide +kernel
theorem dX0_isBarred_30 : decode cX0_isBarred 30 = .ok (.iconst 1, 1) := by decide +kernel
theorem dX0_isBarred_31 : decode cX0_isBarred 31 = .ok (.ireturn, 1) := by decide +kernel
theorem dX0_isBarred_32 : decode cX0_isBarred 32 = .ok (.iinc 3 1, 3) := by decide +kernel
theorem dX0_isBarred_35 : decode cX0_isBarred 35 = .ok (.goto (-33), 3) := by decide +kernel
theorem dX0_isBarred_38 : decode cX0_isBarred 38 = .ok (.iconst 0, 1) := by decide +kernel
theorem dX0_isBarred_39 : decode cX0_isBarred 39 = .ok (.ireturn, 1) := by decide +kernel
theorem dX0_give_0 : decode cX0_give 0 = .ok (.iload_n 3, 1) := by decide +kernel
theorem dX0_give_1 : decode cX0_give 1 = .ok (.aload_n 0, 1) := by decide +kernel
theorem dX0_give_2 : decode cX0_give 2 = .ok (.getfield 9, 3) := by decide +kernel
theorem dX0_give_5 : decode cX0_give 5 = .ok (.iload_n 1, 1) := by decide +kernel
theorem dX0_give_6 : decode cX0_give 6 = .ok (.iaload, 1) := by decide +kernel
theorem dX0_give_7 : decode cX0_give 7 = .ok (.sipush 999, 3) := by decide +kernel
theorem dX0_give_10 : decode cX0_give 10 = .ok (.aload_n 0, 1) := by decide +kernel
theorem dX0_give_11 : decode cX0_give 11 = .ok (.getfield 9, 3) := by decide +kernel
theorem dX0_give_14 : decode cX0_give 14 = .ok (.iload_n 2, 1) := by decide +kernel
theorem dX0_give_15 : decode cX0_give 15 = .ok (.iaload, 1) := by decide +kernel
theorem dX0_give_16 : decode cX0_give 16 = .ok (.isub, 1) := by decide +kernel
theorem dX0_give_17 : decode cX0_give 17 = .ok (.invokestatic 111, 3) := by decide +kernel
theorem dX0_give_20 : decode cX0_give 20 = .ok (.invokestatic 111, 3) := by decide +kernel
theorem dX0_give_23 : decode cX0_give 23 = .ok (.istore 4, 2) := by decide +kernel
theorem dX0_give_25 : decode cX0_give 25 = .ok (.iconst 0, 1) := by decide +kernel
theorem dX0_give_26 : decode cX0_give 26 = .ok (.iload 4, 2) := by decide +kernel
theorem dX0_give_28 : decode cX0_give 28 = .ok (.aload_n 0, 1) := by decide +kernel
theorem dX0_give_29 : decode cX0_give 29 = .ok (.iload_n 1, 1) := by decide +kernel
theorem dX0_give_30 : decode cX0_give 30 = .ok (.invokevirtual 91, 3) := by decide +kernel
theorem dX0_give_33 : decode cX0_give 33 = .ok (.isub, 1) := by decide +kernel
theorem dX0_give_34 : decode cX0_give 34 = .ok (.invokestatic 117, 3) := by decide +kernel
theorem dX0_give_37 : decode cX0_give 37 = .ok (.istore 5, 2) := by decide +kernel
theorem dX0_give_39 : decode cX0_give 39 = .ok (.aload_n 0, 1) := by decide +kernel
theorem dX0_give_40 : decode cX0_give 40 = .ok (.getfield 9, 3) := by decide +kernel
theorem dX0_give_43 : decode cX0_give 43 = .ok (.iload_n 1, 1) := by decide +kernel
theorem dX0_give_44 : decode cX0_give 44 = .ok (.dup2, 1) := by decide +kernel
theorem dX0_give_45 : decode cX0_give 45 = .ok (.iaload, 1) := by decide +kernel
theorem dX0_give_46 : decode cX0_give 46 = .ok (.iload 4, 2) := by decide +kernel
theorem dX0_give_48 : decode cX0_give 48 = .ok (.isub, 1) := by decide +kernel
theorem dX0_give_49 : decode cX0_give 49 = .ok (.iastore, 1) := by decide +kernel
theorem dX0_give_50 : decode cX0_give 50 = .ok (.aload_n 0, 1) := by decide +kernel
theorem dX0_give_51 : decode cX0_give 51 = .ok (.getfield 15, 3) := by decide +kernel
theorem dX0_give_54 : decode cX0_give 54 = .ok (.iload_n 1, 1) := by decide +kernel
theorem dX0_give_55 : decode cX0_give 55 = .ok (.dup2, 1) := by decide +kernel
theorem dX0_give_56 : decode cX0_give 56 = .ok (.iaload, 1) := by decide +kernel
theorem dX0_give_57 : decode cX0_give 57 = .ok (.iload 5, 2) := by decide +kernel
theorem dX0_give_59 : decode cX0_give 59 = .ok (.isub, 1) := by decide +kernel
theorem dX0_give_60 : decode cX0_give 60 = .ok (.iastore, 1) := by decide +kernel
theorem dX0_give_61 : decode cX0_give 61 = .ok (.aload_n 0, 1) := by decide +kernel
theorem dX0_give_62 : decode cX0_give 62 = .ok (.getfield 9, 3) := by decide +kernel
theorem dX0_give_65 : decode cX0_give 65 = .ok (.iload_n 2, 1) := by decide +kernel
theorem dX0_give_66 : decode cX0_give 66 = .ok (.dup2, 1) := by decide +kernel
theorem dX0_give_67 : decode cX0_give 67 = .ok (.iaload, 1) := by decide +kernel
theorem dX0_give_68 : decode cX0_give 68 = .ok (.iload 4, 2) := by decide +kernel
theorem dX0_give_70 : decode cX0_give 70 = .ok (.iadd, 1) := by decide +kernel
theorem dX0_give_71 : decode cX0_give 71 = .ok (.iastore, 1) := by decide +kernel
theorem dX0_give_72 : decode cX0_give 72 = .ok (.aload_n 0, 1) := by decide +kernel
theorem dX0_give_73 : decode cX0_give 73 = .ok (.dup, 1) := by decide +kernel
theorem dX0_give_74 : decode cX0_give 74 = .ok (.getfield 49, 3) := by decide +kernel
theorem dX0_give_77 : decode cX0_give 77 = .ok (.iload 5, 2) := by decide +kernel
theorem dX0_give_79 : decode cX0_give 79 = .ok (.iadd, 1) := by decide +kernel
theorem dX0_give_80 : decode cX0_give 80 = .ok (.putfield 49, 3) := by decide +kernel
theorem dX0_give_83 : decode cX0_give 83 = .ok (.return_, 1) := by decide +kernel
theorem dX1_counts_0 : decode cX1_counts 0 = .ok (.bipush 10, 2) := by decide +kernel
theorem dX1_counts_2 : decode cX1_counts 2 = .ok (.iload_n 1, 1) := by decide +kernel
theorem dX1_counts_3 : decode cX1_counts 3 = .ok (.iadd, 1) := by decide +kernel
theorem dX1_counts_4 : decode cX1_counts 4 = .ok (.istore 4, 2) := by decide +kernel
theorem dX1_counts_6 : decode cX1_counts 6 = .ok (.iload 4, 2) := by decide +kernel
theorem dX1_counts_8 : decode cX1_counts 8 = .ok (.iconst 1, 1) := by decide +kernel
theorem dX1_counts_9 : decode cX1_counts 9 = .ok (.isub, 1) := by decide +kernel
theorem dX1_counts_10 : decode cX1_counts 10 = .ok (.istore 5, 2) := by decide +kernel
theorem dX1_counts_12 : decode cX1_counts 12 = .ok (.iload_n 2, 1) := by decide +kernel
theorem dX1_counts_13 : decode cX1_counts 13 = .ok (.iconst 1, 1) := by decide +kernel
theorem dX1_counts_14 : decode cX1_counts 14 = .ok (.iadd, 1) := by decide +kernel
theorem dX1_counts_15 : decode cX1_counts 15 = .ok (.iconst 2, 1) := by decide +kernel
theorem dX1_counts_16 : decode cX1_counts 16 = .ok (.idiv, 1) := by decide +kernel
theorem dX1_counts_17 : decode cX1_counts 17 = .ok (.istore 6, 2) := by decide +kernel
theorem dX1_counts_19 : decode cX1_counts 19 = .ok (.iload 4, 2) := by decide +kernel
theorem dX1_counts_21 : decode cX1_counts 21 = .ok (.iconst 2, 1) := by decide +kernel
theorem dX1_counts_22 : decode cX1_counts 22 = .ok (.idiv, 1) := by decide +kernel
theorem dX1_counts_23 : decode cX1_counts 23 = .ok (.istore 7, 2) := by decide +kernel
theorem dX1_counts_25 : decode cX1_counts 25 = .ok (.iload_n 0, 1) := by decide +kernel
theorem dX1_counts_26 : decode cX1_counts 26 = .ok (.tableswitch 111 1 7 #[42, 49, 56, 63, 74, 86, 103], 42) := by decide +kernel
theorem dX1_counts_68 : decode cX1_counts 68 = .ok (.iload 5, 2) := by decide +kernel
theorem dX1_counts_70 : decode cX1_counts 70 = .ok (.istore 8, 2) := by decide +kernel
theorem dX1_counts_72 : decode cX1_counts 72 = .ok (.goto 69, 3) := by decide +kernel
theorem dX1_counts_75 : decode cX1_counts 75 = .ok (.iload 6, 2) := by decide +kernel
theorem dX1_counts_77 : decode cX1_counts 77 = .ok (.istore 8, 2) := by decide +kernel
theorem dX1_counts_79 : decode cX1_counts 79 = .ok (.goto 62, 3) := by decide +kernel
theorem dX1_counts_82 : decode cX1_counts 82 = .ok (.iload 7, 2) := by decide +kernel
theorem dX1_counts_84 : decode cX1_counts 84 = .ok (.istore 8, 2) := by decide +kernel
theorem dX1_counts_86 : decode cX1_counts 86 = .ok (.goto 55, 3) := by decide +kernel
theorem dX1_counts_89 : decode cX1_counts 89 = .ok (.iload 5, 2) := by decide +kernel
theorem dX1_counts_91 : decode cX1_counts 91 = .ok (.iconst 2, 1) := by decide +kernel
theorem dX1_counts_92 : decode cX1_counts 92 = .ok (.idiv, 1) := by decide +kernel
theorem dX1_counts_93 : decode cX1_counts 93 = .ok (.iconst 1, 1) := by decide +kernel
theorem dX1_counts_94 : decode cX1_counts 94 = .ok (.iadd, 1) := by decide +kernel
theorem dX1_counts_95 : decode cX1_counts 95 = .ok (.istore 8, 2) := by decide +kernel
theorem dX1_counts_97 : decode cX1_counts 97 = .ok (.goto 44, 3) := by decide +kernel
theorem dX1_counts_100 : decode cX1_counts 100 = .ok (.bipush 20, 2) := by decide +kernel
theorem dX1_counts_102 : decode cX1_counts 102 = .ok (.iload 6, 2) := by decide +kernel
theorem dX1_counts_104 : decode cX1_counts 104 = .ok (.invokestatic 7, 3) := by decide +kernel
theorem dX1_counts_107 : decode cX1_counts 107 = .ok (.istore 8, 2) := by decide +kernel
theorem dX1_counts_109 : decode cX1_counts 109 = .ok (.goto 32, 3) := by decide +kernel
theorem dX1_counts_112 : decode cX1_counts 112 = .ok (.iload_n 3, 1) := by decide +kernel
theorem dX1_counts_113 : decode cX1_counts 113 = .ok (.iconst 2, 1) := by decide +kernel
theorem dX1_counts_114 : decode cX1_counts 114 = .ok (.irem, 1) := by decide +kernel
theorem dX1_counts_115 : decode cX1_counts 115 = .ok (.ifCond .ne 8, 3) := by decide +kernel
theorem dX1_counts_118 : decode cX1_counts 118 = .ok (.iload 7, 2) := by decide +kernel
theorem dX1_counts_120 : decode cX1_counts 120 = .ok (.goto 4, 3) := by decide +kernel
theorem dX1_counts_123 : decode cX1_counts 123 = .ok (.iconst 0, 1) := by decide +kernel
theorem dX1_counts_124 : decode cX1_counts 124 = .ok (.istore 8, 2) := by decide +kernel
theorem dX1_counts_126 : decode cX1_counts 126 = .ok (.goto 15, 3) := by decide +kernel
theorem dX1_counts_129 : decode cX1_counts 129 = .ok (.iload_n 1, 1) := by decide +kernel
theorem dX1_counts_130 : decode cX1_counts 130 = .ok (.iconst 1, 1) := by decide +kernel
theorem dX1_counts_131 : decode cX1_counts 131 = .ok (.iadd, 1) := by decide +kernel
theorem dX1_counts_132 : decode cX1_counts 132 = .ok (.istore 8, 2) := by decide +kernel
theorem dX1_counts_134 : decode cX1_counts 134 = .ok (.goto 7, 3) := by decide +kernel
theorem dX1_counts_137 : decode cX1_counts 137 = .ok (.iload 4, 2) := by decide +kernel
theorem dX1_counts_139 : decode cX1_counts 139 = .ok (.istore 8, 2) := by decide +kernel
theorem dX1_counts_141 : decode cX1_counts 141 = .ok (.iload_n 2, 1) := by decide +kernel
theorem dX1_counts_142 : decode cX1_counts 142 = .ok (.iload 8, 2) := by decide +kernel
theorem dX1_counts_144 : decode cX1_counts 144 = .ok (.invokestatic 13, 3) := by decide +kernel
theorem dX1_counts_147 : decode cX1_counts 147 = .ok (.ireturn, 1) := by decide +kernel
theorem dX1_books_0 : decode cX1_books 0 = .ok (.iload_n 0, 1) := by decide +kernel
theorem dX1_books_1 : decode cX1_books 1 = .ok (.tableswitch 59 2 6 #[35, 59, 59, 47, 51], 35) := by decide +kernel
theorem dX1_books_36 : decode cX1_books 36 = .ok (.iload_n 2, 1) := by decide +kernel
theorem dX1_books_37 : decode cX1_books 37 = .ok (.ifCond .le 9, 3) := by decide +kernel
theorem dX1_books_40 : decode cX1_books 40 = .ok (.iload_n 2, 1) := by decide +kernel
theorem dX1_books_41 : decode cX1_books 41 = .ok (.iload_n 1, 1) := by decide +kernel
theorem dX1_books_42 : decode cX1_books 42 = .ok (.iadd, 1) := by decide +kernel
theorem dX1_books_43 : decode cX1_books 43 = .ok (.goto 4, 3) := by decide +kernel
theorem dX1_books_46 : decode cX1_books 46 = .ok (.iconst 0, 1) := by decide +kernel
theorem dX1_books_47 : decode cX1_books 47 = .ok (.ireturn, 1) := by decide +kernel
theorem dX1_books_48 : decode cX1_books 48 = .ok (.iconst 2, 1) := by decide +kernel
theorem dX1_books_49 : decode cX1_books 49 = .ok (.iload_n 2, 1) := by decide +kernel
theorem dX1_books_50 : decode cX1_books 50 = .ok (.imul, 1) := by decide +kernel
theorem dX1_books_51 : decode cX1_books 51 = .ok (.ireturn, 1) := by decide +kernel
theorem dX1_books_52 : decode cX1_books 52 = .ok (.iconst 0, 1) := by decide +kernel
theorem dX1_books_53 : decode cX1_books 53 = .ok (.iload_n 2, 1) := by decide +kernel
theorem dX1_books_54 : decode cX1_books 54 = .ok (.iconst 1, 1) := by decide +kernel
theorem dX1_books_55 : decode cX1_books 55 = .ok (.isub, 1) := by decide +kernel
theorem dX1_books_56 : decode cX1_books 56 = .ok (.invokestatic 7, 3) := by decide +kernel
theorem dX1_books_59 : decode cX1_books 59 = .ok (.ireturn, 1) := by decide +kernel
theorem dX1_books_60 : decode cX1_books 60 = .ok (.iload_n 2, 1) := by decide +kernel
theorem dX1_books_61 : decode cX1_books 61 = .ok (.ireturn, 1) := by decide +kernel
theorem dX1_costOf_0 : decode cX1_costOf 0 = .ok (.iconst 4, 1) := by decide +kernel
theorem dX1_costOf_1 : decode cX1_costOf 1 = .ok (.istore_n 2, 1) := by decide +kernel
theorem dX1_costOf_2 : decode cX1_costOf 2 = .ok (.iconst 2, 1) := by decide +kernel
theorem dX1_costOf_3 : decode cX1_costOf 3 = .ok (.istore_n 3, 1) := by decide +kernel
theorem dX1_costOf_4 : decode cX1_costOf 4 = .ok (.iload_n 2, 1) := by decide +kernel
theorem dX1_costOf_5 : decode cX1_costOf 5 = .ok (.iconst 1, 1) := by decide +kernel
theorem dX1_costOf_6 : decode cX1_costOf 6 = .ok (.isub, 1) := by decide +kernel
theorem dX1_costOf_7 : decode cX1_costOf 7 = .ok (.istore 4, 2) := by decide +kernel
theorem dX1_costOf_9 : decode cX1_costOf 9 = .ok (.iload_n 0, 1) := by decide +kernel
theorem dX1_costOf_10 : decode cX1_costOf 10 = .ok (.tableswitch 58 1 6 #[38, 42, 44, 47, 49, 53], 38) := by decide +kernel
theorem dX1_costOf_48 : decode cX1_costOf 48 = .ok (.iload_n 2, 1) := by decide +kernel
theorem dX1_costOf_49 : decode cX1_costOf 49 = .ok (.iload_n 1, 1) := by decide +kernel
theorem dX1_costOf_50 : decode cX1_costOf 50 = .ok (.iadd, 1) := by decide +kernel
theorem dX1_costOf_51 : decode cX1_costOf 51 = .ok (.ireturn, 1) := by decide +kernel
theorem dX1_costOf_52 : decode cX1_costOf 52 = .ok (.iload_n 3, 1) := by decide +kernel
theorem dX1_costOf_53 : decode cX1_costOf 53 = .ok (.ireturn, 1) := by decide +kernel
theorem dX1_costOf_54 : decode cX1_costOf 54 = .ok (.iload 4, 2) := by decide +kernel
theorem dX1_costOf_56 : decode cX1_costOf 56 = .ok (.ireturn, 1) := by decide +kernel
theorem dX1_costOf_57 : decode cX1_costOf 57 = .ok (.iconst 0, 1) := by decide +kernel
theorem dX1_costOf_58 : decode cX1_costOf 58 = .ok (.ireturn, 1) := by decide +kernel
theorem dX1_costOf_59 : decode cX1_costOf 59 = .ok (.iload_n 3, 1) := by decide +kernel
theorem dX1_costOf_60 : decode cX1_costOf 60 = .ok (.iload_n 1, 1) := by decide +kernel
theorem dX1_costOf_61 : decode cX1_costOf 61 = .ok (.iadd, 1) := by decide +kernel
theorem dX1_costOf_62 : decode cX1_costOf 62 = .ok (.ireturn, 1) := by decide +kernel
theorem dX1_costOf_63 : decode cX1_costOf 63 = .ok (.iload 4, 2) := by decide +kernel
theorem dX1_costOf_65 : decode cX1_costOf 65 = .ok (.iconst 2, 1) := by decide +kernel
theorem dX1_costOf_66 : decode cX1_costOf 66 = .ok (.idiv, 1) := by decide +kernel
theorem dX1_costOf_67 : decode cX1_costOf 67 = .ok (.ireturn, 1) := by decide +kernel
theorem dX1_costOf_68 : decode cX1_costOf 68 = .ok (.iload_n 2, 1) := by decide +kernel
theorem dX1_costOf_69 : decode cX1_costOf 69 = .ok (.ireturn, 1) := by decide +kernel
theorem dX1_hasFailure_0 : decode cX1_hasFailure 0 = .ok (.iload_n 1, 1) := by decide +kernel
theorem dX1_hasFailure_1 : decode cX1_hasFailure 1 = .ok (.ifCond .eq 18, 3) := by decide +kernel
theorem dX1_hasFailure_4 : decode cX1_hasFailure 4 = .ok (.iload_n 0, 1) := by decide +kernel
theorem dX1_hasFailure_5 : decode cX1_hasFailure 5 = .ok (.iconst 3, 1) := by decide +kernel
theorem dX1_hasFailure_6 : decode cX1_hasFailure 6 = .ok (.if_icmp .eq 13, 3) := by decide +kernel
theorem dX1_hasFailure_9 : decode cX1_hasFailure 9 = .ok (.iload_n 0, 1) := by decide +kernel
theorem dX1_hasFailure_10 : decode cX1_hasFailure 10 = .ok (.bipush 6, 2) := by decide +kernel
theorem dX1_hasFailure_12 : decode cX1_hasFailure 12 = .ok (.if_icmp .eq 7, 3) := by decide +kernel
theorem dX1_hasFailure_15 : decode cX1_hasFailure 15 = .ok (.iconst 1, 1) := by decide +kernel
theorem dX1_hasFailure_16 : decode cX1_hasFailure 16 = .ok (.goto 4, 3) := by decide +kernel
theorem dX1_hasFailure_19 : decode cX1_hasFailure 19 = .ok (.iconst 0, 1) := by decide +kernel
theorem dX1_hasFailure_20 : decode cX1_hasFailure 20 = .ok (.ireturn, 1) := by decide +kernel
theorem dX1_failureOf_0 : decode cX1_failureOf 0 = .ok (.iload_n 0, 1) := by decide +kernel
theorem dX1_failureOf_1 : decode cX1_failureOf 1 = .ok (.lookupswitch 42 #[(2, 27), (5, 32)], 27) := by decide +kernel
theorem dX1_failureOf_28 : decode cX1_failureOf 28 = .ok (.bipush 100, 2) := by decide +kernel
theorem dX1_failureOf_30 : decode cX1_failureOf 30 = .ok (.iload_n 1, 1) := by decide +kernel
theorem dX1_failureOf_31 : decode cX1_failureOf 31 = .ok (.iadd, 1) := by decide +kernel
theorem dX1_failureOf_32 : decode cX1_failureOf 32 = .ok (.ireturn, 1) := by decide +kernel
theorem dX1_failureOf_33 : decode cX1_failureOf 33 = .ok (.sipush 200, 3) := by decide +kernel
theorem dX1_failureOf_36 : decode cX1_failureOf 36 = .ok (.iload_n 0, 1) := by decide +kernel
theorem dX1_failureOf_37 : decode cX1_failureOf 37 = .ok (.iload_n 1, 1) := by decide +kernel
theorem dX1_failureOf_38 : decode cX1_failureOf 38 = .ok (.invokestatic 18, 3) := by decide +kernel
theorem dX1_failureOf_41 : decode cX1_failureOf 41 = .ok (.iadd, 1) := by decide +kernel
theorem dX1_failureOf_42 : decode cX1_failureOf 42 = .ok (.ireturn, 1) := by decide +kernel
theorem dX1_failureOf_43 : decode cX1_failureOf 43 = .ok (.iload_n 1, 1) := by decide +kernel
theorem dX1_failureOf_44 : decode cX1_failureOf 44 = .ok (.ireturn, 1) := by decide +kernel
theorem dX2_init_0 : decode cX2_init 0 = .ok (.aload_n 0, 1) := by decide +kernel
theorem dX2_init_1 : decode cX2_init 1 = .ok (.invokespecial 3, 3) := by decide +kernel
theorem dX2_init_4 : decode cX2_init 4 = .ok (.aload_n 0, 1) := by decide +kernel
theorem dX2_init_5 : decode cX2_init 5 = .ok (.bipush 100, 2) := by decide +kernel
theorem dX2_init_7 : decode cX2_init 7 = .ok (.newarray .int, 2) := by decide +kernel
theorem dX2_init_9 : decode cX2_init 9 = .ok (.putfield 9, 3) := by decide +kernel
theorem dX2_init_12 : decode cX2_init 12 = .ok (.aload_n 0, 1) := by decide +kernel
theorem dX2_init_13 : decode cX2_init 13 = .ok (.iconst 0, 1) := by decide +kernel
theorem dX2_init_14 : decode cX2_init 14 = .ok (.putfield 15, 3) := by decide +kernel
theorem dX2_init_17 : decode cX2_init 17 = .ok (.aload_n 0, 1) := by decide +kernel
theorem dX2_init_18 : decode cX2_init 18 = .ok (.iconst 0, 1) := by decide +kernel
theorem dX2_init_19 : decode cX2_init 19 = .ok (.putfield 19, 3) := by decide +kernel
theorem dX2_init_22 : decode cX2_init 22 = .ok (.aload_n 0, 1) := by decide +kernel
theorem dX2_init_23 : decode cX2_init 23 = .ok (.iconst 0, 1) := by decide +kernel
theorem dX2_init_24 : decode cX2_init 24 = .ok (.putfield 22, 3) := by decide +kernel
theorem dX2_init_27 : decode cX2_init 27 = .ok (.aload_n 0, 1) := by decide +kernel
theorem dX2_init_28 : decode cX2_init 28 = .ok (.iconst 0, 1) := by decide +kernel
theorem dX2_init_29 : decode cX2_init 29 = .ok (.putfield 25, 3) := by decide +kernel
theorem dX2_init_32 : decode cX2_init 32 = .ok (.aload_n 0, 1) := by decide +kernel
theorem dX2_init_33 : decode cX2_init 33 = .ok (.iconst 0, 1) := by decide +kernel
theorem dX2_init_34 : decode cX2_init 34 = .ok (.putfield 28, 3) := by decide +kernel
theorem dX2_init_37 : decode cX2_init 37 = .ok (.return_, 1) := by decide +kernel
theorem dX2_holdNothing_0 : decode cX2_holdNothing 0 = .ok (.aload_n 0, 1) := by decide +kernel
theorem dX2_holdNothing_1 : decode cX2_holdNothing 1 = .ok (.iconst 0, 1) := by decide +kernel
theorem dX2_holdNothing_2 : decode cX2_holdNothing 2 = .ok (.putfield 15, 3) := by decide +kernel
theorem dX2_holdNothing_5 : decode cX2_holdNothing 5 = .ok (.return_, 1) := by decide +kernel
theorem dX2_holdKind_0 : decode cX2_holdKind 0 = .ok (.aload_n 0, 1) := by decide +kernel
theorem dX2_holdKind_1 : decode cX2_holdKind 1 = .ok (.iconst 1, 1) := by decide +kernel
theorem dX2_holdKind_2 : decode cX2_holdKind 2 = .ok (.putfield 15, 3) := by decide +kernel
theorem dX2_holdKind_5 : decode cX2_holdKind 5 = .ok (.aload_n 0, 1) := by decide +kernel
theorem dX2_holdKind_6 : decode cX2_holdKind 6 = .ok (.iload_n 1, 1) := by decide +kernel
theorem dX2_holdKind_7 : decode cX2_holdKind 7 = .ok (.putfield 19, 3) := by decide +kernel
theorem dX2_holdKind_10 : decode cX2_holdKind 10 = .ok (.aload_n 0, 1) := by decide +kernel
theorem dX2_holdKind_11 : decode cX2_holdKind 11 = .ok (.iload_n 2, 1) := by decide +kernel
theorem dX2_holdKind_12 : decode cX2_holdKind 12 = .ok (.putfield 22, 3) := by decide +kernel
theorem dX2_holdKind_15 : decode cX2_holdKind 15 = .ok (.return_, 1) := by decide +kernel
theorem dX2_holdRow_0 : decode cX2_holdRow 0 = .ok (.aload_n 0, 1) := by decide +kernel
theorem dX2_holdRow_1 : decode cX2_holdRow 1 = .ok (.iconst 2, 1) := by decide +kernel
theorem dX2_holdRow_2 : decode cX2_holdRow 2 = .ok (.putfield 15, 3) := by decide +kernel
theorem dX2_holdRow_5 : decode cX2_holdRow 5 = .ok (.aload_n 0, 1) := by decide +kernel
theorem dX2_holdRow_6 : decode cX2_holdRow 6 = .ok (.iload_n 1, 1) := by decide +kernel
theorem dX2_holdRow_7 : decode cX2_holdRow 7 = .ok (.putfield 25, 3) := by decide +kernel
theorem dX2_holdRow_10 : decode cX2_holdRow 10 = .ok (.aload_n 0, 1) := by decide +kernel
theorem dX2_holdRow_11 : decode cX2_holdRow 11 = .ok (.iload_n 2, 1) := by decide +kernel
theorem dX2_holdRow_12 : decode cX2_holdRow 12 = .ok (.putfield 28, 3) := by decide +kernel
theorem dX2_holdRow_15 : decode cX2_holdRow 15 = .ok (.aload_n 0, 1) := by decide +kernel
theorem dX2_holdRow_16 : decode cX2_holdRow 16 = .ok (.getfield 9, 3) := by decide +kernel
theorem dX2_holdRow_19 : decode cX2_holdRow 19 = .ok (.iconst 0, 1) := by decide +kernel
theorem dX2_holdRow_20 : decode cX2_holdRow 20 = .ok (.invokestatic 31, 3) := by decide +kernel
theorem dX2_holdRow_23 : decode cX2_holdRow 23 = .ok (.return_, 1) := by decide +kernel
theorem dX2_hasPlace_0 : decode cX2_hasPlace 0 = .ok (.iload_n 1, 1) := by decide +kernel
theorem dX2_hasPlace_1 : decode cX2_hasPlace 1 = .ok (.iconst 0, 1) := by decide +kernel
theorem dX2_hasPlace_2 : decode cX2_hasPlace 2 = .ok (.aload_n 0, 1) := by decide +kernel
theorem dX2_hasPlace_3 : decode cX2_hasPlace 3 = .ok (.getfield 28, 3) := by decide +kernel
theorem dX2_hasPlace_6 : decode cX2_hasPlace 6 = .ok (.iconst 1, 1) := by decide +kernel
theorem dX2_hasPlace_7 : decode cX2_hasPlace 7 = .ok (.isub, 1) := by decide +kernel
theorem dX2_hasPlace_8 : decode cX2_hasPlace 8 = .ok (.invokestatic 37, 3) := by decide +kernel
theorem dX2_hasPlace_11 : decode cX2_hasPlace 11 = .ok (.ireturn, 1) := by decide +kernel
theorem dX2_hasStretch_0 : decode cX2_hasStretch 0 = .ok (.iload_n 1, 1) := by decide +kernel
theorem dX2_hasStretch_1 : decode cX2_hasStretch 1 = .ok (.ifCond .lt 25, 3) := by decide +kernel
theorem dX2_hasStretch_4 : decode cX2_hasStretch 4 = .ok (.iload_n 2, 1) := by decide +kernel
theorem dX2_hasStretch_5 : decode cX2_hasStretch 5 = .ok (.aload_n 0, 1) := by decide +kernel
theorem dX2_hasStretch_6 : decode cX2_hasStretch 6 = .ok (.getfield 28, 3) := by decide +kernel
theorem dX2_hasStretch_9 : decode cX2_hasStretch 9 = .ok (.if_icmp .gt 17, 3) := by decide +kernel
theorem dX2_hasStretch_12 : decode cX2_hasStretch 12 = .ok (.iload_n 1, 1) := by decide +kernel
theorem dX2_hasStretch_13 : decode cX2_hasStretch 13 = .ok (.aload_n 0, 1) := by decide +kernel
theorem dX2_hasStretch_14 : decode cX2_hasStretch 14 = .ok (.getfield 28, 3) := by decide +kernel
theorem dX2_hasStretch_17 : decode cX2_hasStretch 17 = .ok (.iload_n 2, 1) := by decide +kernel
theorem dX2_hasStretch_18 : decode cX2_hasStretch 18 = .ok (.isub, 1) := by decide +kernel
theorem dX2_hasStretch_19 : decode cX2_hasStretch 19 = .ok (.if_icmp .gt 7, 3) := by decide +kernel
theorem dX2_hasStretch_22 : decode cX2_hasStretch 22 = .ok (.iconst 1, 1) := by decide +kernel
theorem dX2_hasStretch_23 : decode cX2_hasStretch 23 = .ok (.goto 4, 3) := by decide +kernel
theorem dX2_hasStretch_26 : decode cX2_hasStretch 26 = .ok (.iconst 0, 1) := by decide +kernel
theorem dX2_hasStretch_27 : decode cX2_hasStretch 27 = .ok (.ireturn, 1) := by decide +kernel
theorem dX2_set_0 : decode cX2_set 0 = .ok (.aload_n 0, 1) := by decide +kernel
theorem dX2_set_1 : decode cX2_set 1 = .ok (.getfield 9, 3) := by decide +kernel
theorem dX2_set_4 : decode cX2_set 4 = .ok (.iload_n 1, 1) := by decide +kernel
theorem dX2_set_5 : decode cX2_set 5 = .ok (.aload_n 0, 1) := by decide +kernel
theorem dX2_set_6 : decode cX2_set 6 = .ok (.getfield 25, 3) := by decide +kernel
theorem dX2_set_9 : decode cX2_set 9 = .ok (.ifCond .ne 8, 3) := by decide +kernel
theorem dX2_set_12 : decode cX2_set 12 = .ok (.iload_n 2, 1) := by decide +kernel
theorem dX2_set_13 : decode cX2_set 13 = .ok (.i2b, 1) := by decide +kernel
theorem dX2_set_14 : decode cX2_set 14 = .ok (.goto 17, 3) := by decide +kernel
theorem dX2_set_17 : decode cX2_set 17 = .ok (.aload_n 0, 1) := by decide +kernel
theorem dX2_set_18 : decode cX2_set 18 = .ok (.getfield 25, 3) := by decide +kernel
theorem dX2_set_21 : decode cX2_set 21 = .ok (.iconst 1, 1) := by decide +kernel
theorem dX2_set_22 : decode cX2_set 22 = .ok (.if_icmp .ne 8, 3) := by decide +kernel
theorem dX2_set_25 : decode cX2_set 25 = .ok (.iload_n 2, 1) := by decide +kernel
theorem dX2_set_26 : decode cX2_set 26 = .ok (.i2s, 1) := by decide +kernel
theorem dX2_set_27 : decode cX2_set 27 = .ok (.goto 4, 3) := by decide +kernel
theorem dX2_set_30 : decode cX2_set 30 = .ok (.iload_n 2, 1) := by decide +kernel
theorem dX2_set_31 : decode cX2_set 31 = .ok (.iastore, 1) := by decide +kernel
theorem dX2_set_32 : decode cX2_set 32 = .ok (.return_, 1) := by decide +kernel
theorem dX2_leastNumber_0 : decode cX2_leastNumber 0 = .ok (.aload_n 0, 1) := by decide +kernel
theorem dX2_leastNumber_1 : decode cX2_leastNumber 1 = .ok (.getfield 25, 3) := by decide +kernel
theorem dX2_leastNumber_4 : decode cX2_leastNumber 4 = .ok (.ifCond .ne 8, 3) := by decide +kernel
theorem dX2_leastNumber_7 : decode cX2_leastNumber 7 = .ok (.bipush (-128), 2) := by decide +kernel
theorem dX2_leastNumber_9 : decode cX2_leastNumber 9 = .ok (.goto 19, 3) := by decide +kernel
theorem dX2_leastNumber_12 : decode cX2_leastNumber 12 = .ok (.aload_n 0, 1) := by decide +kernel
theorem dX2_leastNumber_13 : decode cX2_leastNumber 13 = .ok (.getfield 25, 3) := by decide +kernel
theorem dX2_leastNumber_16 : decode cX2_leastNumber 16 = .ok (.iconst 1, 1) := by decide +kernel
theorem dX2_leastNumber_17 : decode cX2_leastNumber 17 = .ok (.if_icmp .ne 9, 3) := by decide +kernel
theorem dX2_leastNumber_20 : decode cX2_leastNumber 20 = .ok (.sipush (-32768), 3) := by decide +kernel
theorem dX2_leastNumber_23 : decode cX2_leastNumber 23 = .ok (.goto 5, 3) := by decide +kernel
theorem dX2_leastNumber_26 : decode cX2_leastNumber 26 = .ok (.ldc 41, 2) := by decide +kernel
theorem dX2_leastNumber_28 : decode cX2_leastNumber 28 = .ok (.ireturn, 1) := by decide +kernel
theorem dX2_isSkipped_0 : decode cX2_isSkipped 0 = .ok (.aload_n 0, 1) := by decide +kernel
theorem dX2_isSkipped_1 : decode cX2_isSkipped 1 = .ok (.getfield 9, 3) := by decide +kernel
theorem dX2_isSkipped_4 : decode cX2_isSkipped 4 = .ok (.iload_n 1, 1) := by decide +kernel
theorem dX2_isSkipped_5 : decode cX2_isSkipped 5 = .ok (.iaload, 1) := by decide +kernel
theorem dX2_isSkipped_6 : decode cX2_isSkipped 6 = .ok (.aload_n 0, 1) := by decide +kernel
theorem dX2_isSkipped_7 : decode cX2_isSkipped 7 = .ok (.invokevirtual 42, 3) := by decide +kernel
theorem dX2_isSkipped_10 : decode cX2_isSkipped 10 = .ok (.if_icmp .ne 7, 3) := by decide +kernel
theorem dX2_isSkipped_13 : decode cX2_isSkipped 13 = .ok (.iconst 1, 1) := by decide +kernel
theorem dX2_isSkipped_14 : decode cX2_isSkipped 14 = .ok (.goto 4, 3) := by decide +kernel
theorem dX2_isSkipped_17 : decode cX2_isSkipped 17 = .ok (.iconst 0, 1) := by decide +kernel
theorem dX2_isSkipped_18 : decode cX2_isSkipped 18 = .ok (.ireturn, 1) := by decide +kernel
theorem dX2_allows_0 : decode cX2_allows 0 = .ok (.aload_n 0, 1) := by decide +kernel
theorem dX2_allows_1 : decode cX2_allows 1 = .ok (.iload_n 1, 1) := by decide +kernel
theorem dX2_allows_2 : decode cX2_allows 2 = .ok (.invokevirtual 46, 3) := by decide +kernel
theorem dX2_allows_5 : decode cX2_allows 5 = .ok (.ifCond .ne 13, 3) := by decide +kernel
theorem dX2_allows_8 : decode cX2_allows 8 = .ok (.aload_n 0, 1) := by decide +kernel
theorem dX2_allows_9 : decode cX2_allows 9 = .ok (.getfield 9, 3) := by decide +kernel
theorem dX2_allows_12 : decode cX2_allows 12 = .ok (.iload_n 1, 1) := by decide +kernel
theorem dX2_allows_13 : decode cX2_allows 13 = .ok (.iaload, 1) := by decide +kernel
theorem dX2_allows_14 : decode cX2_allows 14 = .ok (.iload_n 2, 1) := by decide +kernel
theorem dX2_allows_15 : decode cX2_allows 15 = .ok (.if_icmp .ne 7, 3) := by decide +kernel
theorem dX2_allows_18 : decode cX2_allows 18 = .ok (.iconst 1, 1) := by decide +kernel
theorem dX2_allows_19 : decode cX2_allows 19 = .ok (.goto 4, 3) := by decide +kernel
theorem dX2_allows_22 : decode cX2_allows 22 = .ok (.iconst 0, 1) := by decide +kernel
theorem dX2_allows_23 : decode cX2_allows 23 = .ok (.ireturn, 1) := by decide +kernel
theorem dX2_behindLastTold_0 : decode cX2_behindLastTold 0 = .ok (.aload_n 0, 1) := by decide +kernel
theorem dX2_behindLastTold_1 : decode cX2_behindLastTold 1 = .ok (.getfield 28, 3) := by decide +kernel
theorem dX2_behindLastTold_4 : decode cX2_behindLastTold 4 = .ok (.istore_n 1, 1) := by decide +kernel
theorem dX2_behindLastTold_5 : decode cX2_behindLastTold 5 = .ok (.iload_n 1, 1) := by decide +kernel
theorem dX2_behindLastTold_6 : decode cX2_behindLastTold 6 = .ok (.ifCond .le 19, 3) := by decide +kernel
theorem dX2_behindLastTold_9 : decode cX2_behindLastTold 9 = .ok (.aload_n 0, 1) := by decide +kernel
theorem dX2_behindLastTold_10 : decode cX2_behindLastTold 10 = .ok (.iload_n 1, 1) := by decide +kernel
theorem dX2_behindLastTold_11 : decode cX2_behindLastTold 11 = .ok (.iconst 1, 1) := by decide +kernel
theorem dX2_behindLastTold_12 : decode cX2_behindLastTold 12 = .ok (.isub, 1) := by decide +kernel
theorem dX2_behindLastTold_13 : decode cX2_behindLastTold 13 = .ok (.invokevirtual 46, 3) := by decide +kernel
theorem dX2_behindLastTold_16 : decode cX2_behindLastTold 16 = .ok (.ifCond .eq 9, 3) := by decide +kernel
theorem dX2_behindLastTold_19 : decode cX2_behindLastTold 19 = .ok (.iinc 1 (-1), 3) := by decide +kernel
theorem dX2_behindLastTold_22 : decode cX2_behindLastTold 22 = .ok (.goto (-17), 3) := by decide +kernel
theorem dX2_behindLastTold_25 : decode cX2_behindLastTold 25 = .ok (.iload_n 1, 1) := by decide +kernel
theorem dX2_behindLastTold_26 : decode cX2_behindLastTold 26 = .ok (.ireturn, 1) := by decide +kernel
theorem dX3_placeOfBadForm_0 : decode cX3_placeOfBadForm 0 = .ok (.iconst 0, 1) := by decide +kernel
theorem dX3_placeOfBadForm_1 : decode cX3_placeOfBadForm 1 = .ok (.istore_n 1, 1) := by decide +kernel
theorem dX3_placeOfBadForm_2 : decode cX3_placeOfBadForm 2 = .ok (.aload_n 0, 1) := by decide +kernel
theorem dX3_placeOfBadForm_3 : decode cX3_placeOfBadForm 3 = .ok (.iload_n 1, 1) := by decide +kernel
theorem dX3_placeOfBadForm_4 : decode cX3_placeOfBadForm 4 = .ok (.invokestatic 9, 3) := by decide +kernel
theorem dX3_placeOfBadForm_7 : decode cX3_placeOfBadForm 7 = .ok (.invokestatic 15, 3) := by decide +kernel
theorem dX3_placeOfBadForm_10 : decode cX3_placeOfBadForm 10 = .ok (.istore_n 2, 1) := by decide +kernel
theorem dX3_placeOfBadForm_11 : decode cX3_placeOfBadForm 11 = .ok (.iload_n 2, 1) := by decide +kernel
theorem dX3_placeOfBadForm_12 : decode cX3_placeOfBadForm 12 = .ok (.ifCond .ge 5, 3) := by decide +kernel
theorem dX3_placeOfBadForm_15 : decode cX3_placeOfBadForm 15 = .ok (.iload_n 1, 1) := by decide +kernel
theorem dX3_placeOfBadForm_16 : decode cX3_placeOfBadForm 16 = .ok (.ireturn, 1) := by decide +kernel
theorem dX3_placeOfBadForm_17 : decode cX3_placeOfBadForm 17 = .ok (.iload_n 1, 1) := by decide +kernel
theorem dX3_placeOfBadForm_18 : decode cX3_placeOfBadForm 18 = .ok (.iload_n 2, 1) := by decide +kernel
theorem dX3_placeOfBadForm_19 : decode cX3_placeOfBadForm 19 = .ok (.iadd, 1) := by decide +kernel
theorem dX3_placeOfBadForm_20 : decode cX3_placeOfBadForm 20 = .ok (.iconst 1, 1) := by decide +kernel
theorem dX3_placeOfBadForm_21 : decode cX3_placeOfBadForm 21 = .ok (.iadd, 1) := by decide +kernel
theorem dX3_placeOfBadForm_22 : decode cX3_placeOfBadForm 22 = .ok (.istore_n 3, 1) := by decide +kernel
theorem dX3_placeOfBadForm_23 : decode cX3_placeOfBadForm 23 = .ok (.iload_n 1, 1) := by decide +kernel
theorem dX3_placeOfBadForm_24 : decode cX3_placeOfBadForm 24 = .ok (.iconst 1, 1) := by decide +kernel
theorem dX3_placeOfBadForm_25 : decode cX3_placeOfBadForm 25 = .ok (.iadd, 1) := by decide +kernel
theorem dX3_placeOfBadForm_26 : decode cX3_placeOfBadForm 26 = .ok (.istore 4, 2) := by decide +kernel
theorem dX3_placeOfBadForm_28 : decode cX3_placeOfBadForm 28 = .ok (.iload 4, 2) := by decide +kernel
theorem dX3_placeOfBadForm_30 : decode cX3_placeOfBadForm 30 = .ok (.iload_n 3, 1) := by decide +kernel
theorem dX3_placeOfBadForm_31 : decode cX3_placeOfBadForm 31 = .ok (.if_icmp .ge 24, 3) := by decide +kernel
theorem dX3_placeOfBadForm_34 : decode cX3_placeOfBadForm 34 = .ok (.aload_n 0, 1) := by decide +kernel
theorem dX3_placeOfBadForm_35 : decode cX3_placeOfBadForm 35 = .ok (.iload 4, 2) := by decide +kernel
theorem dX3_placeOfBadForm_37 : decode cX3_placeOfBadForm 37 = .ok (.invokestatic 9, 3) := by decide +kernel
theorem dX3_placeOfBadForm_40 : decode cX3_placeOfBadForm 40 = .ok (.invokestatic 19, 3) := by decide +kernel
theorem dX3_placeOfBadForm_43 : decode cX3_placeOfBadForm 43 = .ok (.ifCond .ne 6, 3) := by decide +kernel
theorem dX3_placeOfBadForm_46 : decode cX3_placeOfBadForm 46 = .ok (.iload 4, 2) := by decide +kernel
theorem dX3_placeOfBadForm_48 : decode cX3_placeOfBadForm 48 = .ok (.ireturn, 1) := by decide +kernel
theorem dX3_placeOfBadForm_49 : decode cX3_placeOfBadForm 49 = .ok (.iinc 4 1, 3) := by decide +kernel
theorem dX3_placeOfBadForm_52 : decode cX3_placeOfBadForm 52 = .ok (.goto (-24), 3) := by decide +kernel
theorem dX3_placeOfBadForm_55 : decode cX3_placeOfBadForm 55 = .ok (.aload_n 0, 1) := by decide +kernel
theorem dX3_placeOfBadForm_56 : decode cX3_placeOfBadForm 56 = .ok (.iload_n 3, 1) := by decide +kernel
theorem dX3_placeOfBadForm_57 : decode cX3_placeOfBadForm 57 = .ok (.invokestatic 9, 3) := by decide +kernel
theorem dX3_placeOfBadForm_60 : decode cX3_placeOfBadForm 60 = .ok (.bipush 59, 2) := by decide +kernel
theorem dX3_placeOfBadForm_62 : decode cX3_placeOfBadForm 62 = .ok (.if_icmp .eq 5, 3) := by decide +kernel
theorem dX3_placeOfBadForm_65 : decode cX3_placeOfBadForm 65 = .ok (.iload_n 3, 1) := by decide +kernel
theorem dX3_placeOfBadForm_66 : decode cX3_placeOfBadForm 66 = .ok (.ireturn, 1) := by decide +kernel
theorem dX3_placeOfBadForm_67 : decode cX3_placeOfBadForm 67 = .ok (.iload_n 1, 1) := by decide +kernel
theorem dX3_placeOfBadForm_68 : decode cX3_placeOfBadForm 68 = .ok (.iload_n 2, 1) := by decide +kernel
theorem dX3_placeOfBadForm_69 : decode cX3_placeOfBadForm 69 = .ok (.iconst 2, 1) := by decide +kernel
theorem dX3_placeOfBadForm_70 : decode cX3_placeOfBadForm 70 = .ok (.iadd, 1) := by decide +kernel
theorem dX3_placeOfBadForm_71 : decode cX3_placeOfBadForm 71 = .ok (.iadd, 1) := by decide +kernel
theorem dX3_placeOfBadForm_72 : decode cX3_placeOfBadForm 72 = .ok (.istore_n 1, 1) := by decide +kernel
theorem dX3_placeOfBadForm_73 : decode cX3_placeOfBadForm 73 = .ok (.iload_n 1, 1) := by decide +kernel
theorem dX3_placeOfBadForm_74 : decode cX3_placeOfBadForm 74 = .ok (.aload_n 0, 1) := by decide +kernel
theorem dX3_placeOfBadForm_75 : decode cX3_placeOfBadForm 75 = .ok (.getfield 23, 3) := by decide +kernel
theorem dX3_placeOfBadForm_78 : decode cX3_placeOfBadForm 78 = .ok (.if_icmp .lt (-76), 3) := by decide +kernel
theorem dX3_placeOfBadForm_81 : decode cX3_placeOfBadForm 81 = .ok (.iconst (-1), 1) := by decide +kernel
theorem dX3_placeOfBadForm_82 : decode cX3_placeOfBadForm 82 = .ok (.ireturn, 1) := by decide +kernel
theorem dX3_lengthOfStatement_0 : decode cX3_lengthOfStatement 0 = .ok (.iconst 2, 1) := by decide +kernel
theorem dX3_lengthOfStatement_1 : decode cX3_lengthOfStatement 1 = .ok (.aload_n 0, 1) := by decide +kernel
theorem dX3_lengthOfStatement_2 : decode cX3_lengthOfStatement 2 = .ok (.iload_n 1, 1) := by decide +kernel
theorem dX3_lengthOfStatement_3 : decode cX3_lengthOfStatement 3 = .ok (.invokestatic 9, 3) := by decide +kernel
theorem dX3_lengthOfStatement_6 : decode cX3_lengthOfStatement 6 = .ok (.invokestatic 15, 3) := by decide +kernel
theorem dX3_lengthOfStatement_9 : decode cX3_lengthOfStatement 9 = .ok (.iadd, 1) := by decide +kernel
theorem dX3_lengthOfStatement_10 : decode cX3_lengthOfStatement 10 = .ok (.ireturn, 1) := by decide +kernel
theorem dX3_isDoneOn_0 : decode cX3_isDoneOn 0 = .ok (.aload_n 1, 1) := by decide +kernel
theorem dX3_isDoneOn_1 : decode cX3_isDoneOn 1 = .ok (.iload_n 2, 1) := by decide +kernel
theorem dX3_isDoneOn_2 : decode cX3_isDoneOn 2 = .ok (.iconst 1, 1) := by decide +kernel
theorem dX3_isDoneOn_3 : decode cX3_isDoneOn 3 = .ok (.iadd, 1) := by decide +kernel
theorem dX3_isDoneOn_4 : decode cX3_isDoneOn 4 = .ok (.invokestatic 29, 3) := by decide +kernel
theorem dX3_isDoneOn_7 : decode cX3_isDoneOn 7 = .ok (.istore_n 3, 1) := by decide +kernel
theorem dX3_isDoneOn_8 : decode cX3_isDoneOn 8 = .ok (.aload_n 1, 1) := by decide +kernel
theorem dX3_isDoneOn_9 : decode cX3_isDoneOn 9 = .ok (.iload_n 2, 1) := by decide +kernel
theorem dX3_isDoneOn_10 : decode cX3_isDoneOn 10 = .ok (.invokestatic 9, 3) := by decide +kernel
theorem dX3_isDoneOn_13 : decode cX3_isDoneOn 13 = .ok (.lookupswitch 109 #[(99, 59), (101, 89), (102, 103), (103, 67), (114, 97), (119, 82)], 59) := by decide +kernel
theorem dX3_isDoneOn_72 : decode cX3_isDoneOn 72 = .ok (.aload_n 0, 1) := by decide +kernel
theorem dX3_isDoneOn_73 : decode cX3_isDoneOn 73 = .ok (.iload_n 3, 1) := by decide +kernel
theorem dX3_isDoneOn_74 : decode cX3_isDoneOn 74 = .ok (.aload_n 1, 1) := by decide +kernel
theorem dX3_isDoneOn_75 : decode cX3_isDoneOn 75 = .ok (.iload_n 2, 1) := by decide +kernel
theorem dX3_isDoneOn_76 : decode cX3_isDoneOn 76 = .ok (.invokestatic 32, 3) := by decide +kernel
theorem dX3_isDoneOn_79 : decode cX3_isDoneOn 79 = .ok (.ireturn, 1) := by decide +kernel
theorem dX3_isDoneOn_80 : decode cX3_isDoneOn 80 = .ok (.aload_n 0, 1) := by decide +kernel
theorem dX3_isDoneOn_81 : decode cX3_isDoneOn 81 = .ok (.iload_n 3, 1) := by decide +kernel
theorem dX3_isDoneOn_82 : decode cX3_isDoneOn 82 = .ok (.aload_n 1, 1) := by decide +kernel
theorem dX3_isDoneOn_83 : decode cX3_isDoneOn 83 = .ok (.iload_n 2, 1) := by decide +kernel
theorem dX3_isDoneOn_84 : decode cX3_isDoneOn 84 = .ok (.iconst 2, 1) := by decide +kernel
theorem dX3_isDoneOn_85 : decode cX3_isDoneOn 85 = .ok (.iadd, 1) := by decide +kernel
theorem dX3_isDoneOn_86 : decode cX3_isDoneOn 86 = .ok (.iconst 3, 1) := by decide +kernel
theorem dX3_isDoneOn_87 : decode cX3_isDoneOn 87 = .ok (.invokestatic 36, 3) := by decide +kernel
theorem dX3_isDoneOn_90 : decode cX3_isDoneOn 90 = .ok (.invokevirtual 40, 3) := by decide +kernel
theorem dX3_isDoneOn_93 : decode cX3_isDoneOn 93 = .ok (.iconst 1, 1) := by decide +kernel
theorem dX3_isDoneOn_94 : decode cX3_isDoneOn 94 = .ok (.ireturn, 1) := by decide +kernel
theorem dX3_isDoneOn_95 : decode cX3_isDoneOn 95 = .ok (.aload_n 0, 1) := by decide +kernel
theorem dX3_isDoneOn_96 : decode cX3_isDoneOn 96 = .ok (.iload_n 3, 1) := by decide +kernel
theorem dX3_isDoneOn_97 : decode cX3_isDoneOn 97 = .ok (.putfield 46, 3) := by decide +kernel
theorem dX3_isDoneOn_100 : decode cX3_isDoneOn 100 = .ok (.iconst 1, 1) := by decide +kernel
theorem dX3_isDoneOn_101 : decode cX3_isDoneOn 101 = .ok (.ireturn, 1) := by decide +kernel
theorem dX3_isDoneOn_102 : decode cX3_isDoneOn 102 = .ok (.aload_n 0, 1) := by decide +kernel
theorem dX3_isDoneOn_103 : decode cX3_isDoneOn 103 = .ok (.iload_n 3, 1) := by decide +kernel
theorem dX3_isDoneOn_104 : decode cX3_isDoneOn 104 = .ok (.ineg, 1) := by decide +kernel
theorem dX3_isDoneOn_105 : decode cX3_isDoneOn 105 = .ok (.putfield 46, 3) := by decide +kernel
theorem dX3_isDoneOn_108 : decode cX3_isDoneOn 108 = .ok (.iconst 1, 1) := by decide +kernel
theorem dX3_isDoneOn_109 : decode cX3_isDoneOn 109 = .ok (.ireturn, 1) := by decide +kernel
theorem dX3_isDoneOn_110 : decode cX3_isDoneOn 110 = .ok (.aload_n 0, 1) := by decide +kernel
theorem dX3_isDoneOn_111 : decode cX3_isDoneOn 111 = .ok (.iload_n 3, 1) := by decide +kernel
theorem dX3_isDoneOn_112 : decode cX3_isDoneOn 112 = .ok (.invokestatic 49, 3) := by decide +kernel
theorem dX3_isDoneOn_115 : decode cX3_isDoneOn 115 = .ok (.ireturn, 1) := by decide +kernel
theorem dX3_isDoneOn_116 : decode cX3_isDoneOn 116 = .ok (.aload_n 0, 1) := by decide +kernel
theorem dX3_isDoneOn_117 : decode cX3_isDoneOn 117 = .ok (.invokevirtual 53, 3) := by decide +kernel
theorem dX3_isDoneOn_120 : decode cX3_isDoneOn 120 = .ok (.iconst 1, 1) := by decide +kernel
theorem dX3_isDoneOn_121 : decode cX3_isDoneOn 121 = .ok (.ireturn, 1) := by decide +kernel
theorem dX3_isDoneOn_122 : decode cX3_isDoneOn 122 = .ok (.aload_n 0, 1) := by decide +kernel
theorem dX3_isDoneOn_123 : decode cX3_isDoneOn 123 = .ok (.aload_n 1, 1) := by decide +kernel
theorem dX3_isDoneOn_124 : decode cX3_isDoneOn 124 = .ok (.iload_n 2, 1) := by decide +kernel
theorem dX3_isDoneOn_125 : decode cX3_isDoneOn 125 = .ok (.iconst 1, 1) := by decide +kernel
theorem dX3_isDoneOn_126 : decode cX3_isDoneOn 126 = .ok (.iadd, 1) := by decide +kernel
theorem dX3_isDoneOn_127 : decode cX3_isDoneOn 127 = .ok (.iconst 2, 1) := by decide +kernel
theorem dX3_isDoneOn_128 : decode cX3_isDoneOn 128 = .ok (.invokestatic 36, 3) := by decide +kernel
theorem dX3_isDoneOn_131 : decode cX3_isDoneOn 131 = .ok (.invokestatic 56, 3) := by decide +kernel
theorem dX3_isDoneOn_134 : decode cX3_isDoneOn 134 = .ok (.ireturn, 1) := by decide +kernel
theorem dX3_comesOn_0 : decode cX3_comesOn 0 = .ok (.aload_n 2, 1) := by decide +kernel
theorem dX3_comesOn_1 : decode cX3_comesOn 1 = .ok (.iload_n 3, 1) := by decide +kernel
theorem dX3_comesOn_2 : decode cX3_comesOn 2 = .ok (.iconst 4, 1) := by decide +kernel
theorem dX3_comesOn_3 : decode cX3_comesOn 3 = .ok (.iadd, 1) := by decide +kernel
theorem dX3_comesOn_4 : decode cX3_comesOn 4 = .ok (.invokestatic 29, 3) := by decide +kernel
theorem dX3_comesOn_7 : decode cX3_comesOn 7 = .ok (.istore 4, 2) := by decide +kernel
theorem dX3_comesOn_9 : decode cX3_comesOn 9 = .ok (.iload_n 1, 1) := by decide +kernel
theorem dX3_comesOn_10 : decode cX3_comesOn 10 = .ok (.bipush 8, 2) := by decide +kernel
theorem dX3_comesOn_12 : decode cX3_comesOn 12 = .ok (.if_icmp .ge 16, 3) := by decide +kernel
theorem dX3_comesOn_15 : decode cX3_comesOn 15 = .ok (.iload 4, 2) := by decide +kernel
theorem dX3_comesOn_17 : decode cX3_comesOn 17 = .ok (.iconst 1, 1) := by decide +kernel
theorem dX3_comesOn_18 : decode cX3_comesOn 18 = .ok (.if_icmp .gt 10, 3) := by decide +kernel
theorem dX3_comesOn_21 : decode cX3_comesOn 21 = .ok (.aload_n 0, 1) := by decide +kernel
theorem dX3_comesOn_22 : decode cX3_comesOn 22 = .ok (.invokevirtual 59, 3) := by decide +kernel
theorem dX3_comesOn_25 : decode cX3_comesOn 25 = .ok (.ifCond .ne 5, 3) := by decide +kernel
theorem dX3_comesOn_28 : decode cX3_comesOn 28 = .ok (.iconst 0, 1) := by decide +kernel
theorem dX3_comesOn_29 : decode cX3_comesOn 29 = .ok (.ireturn, 1) := by decide +kernel
theorem dX3_comesOn_30 : decode cX3_comesOn 30 = .ok (.aload_n 0, 1) := by decide +kernel
theorem dX3_comesOn_31 : decode cX3_comesOn 31 = .ok (.iload_n 1, 1) := by decide +kernel
theorem dX3_comesOn_32 : decode cX3_comesOn 32 = .ok (.aload_n 2, 1) := by decide +kernel
theorem dX3_comesOn_33 : decode cX3_comesOn 33 = .ok (.iload_n 3, 1) := by decide +kernel
theorem dX3_comesOn_34 : decode cX3_comesOn 34 = .ok (.iconst 2, 1) := by decide +kernel
theorem dX3_comesOn_35 : decode cX3_comesOn 35 = .ok (.iadd, 1) := by decide +kernel
theorem dX3_comesOn_36 : decode cX3_comesOn 36 = .ok (.invokestatic 29, 3) := by decide +kernel
theorem dX3_comesOn_39 : decode cX3_comesOn 39 = .ok (.aload_n 2, 1) := by decide +kernel
theorem dX3_comesOn_40 : decode cX3_comesOn 40 = .ok (.iload_n 3, 1) := by decide +kernel
theorem dX3_comesOn_41 : decode cX3_comesOn 41 = .ok (.iconst 3, 1) := by decide +kernel
theorem dX3_comesOn_42 : decode cX3_comesOn 42 = .ok (.iadd, 1) := by decide +kernel
theorem dX3_comesOn_43 : decode cX3_comesOn 43 = .ok (.invokestatic 29, 3) := by decide +kernel
theorem dX3_comesOn_46 : decode cX3_comesOn 46 = .ok (.iload 4, 2) := by decide +kernel
theorem dX3_comesOn_48 : decode cX3_comesOn 48 = .ok (.invokevirtual 63, 3) := by decide +kernel
theorem dX3_comesOn_51 : decode cX3_comesOn 51 = .ok (.iconst 1, 1) := by decide +kernel
theorem dX3_comesOn_52 : decode cX3_comesOn 52 = .ok (.ireturn, 1) := by decide +kernel
theorem dX3_restsOn_0 : decode cX3_restsOn 0 = .ok (.iload_n 1, 1) := by decide +kernel
theorem dX3_restsOn_1 : decode cX3_restsOn 1 = .ok (.aload_n 0, 1) := by decide +kernel
theorem dX3_restsOn_2 : decode cX3_restsOn 2 = .ok (.getfield 67, 3) := by decide +kernel
theorem dX3_restsOn_5 : decode cX3_restsOn 5 = .ok (.if_icmp .lt 5, 3) := by decide +kernel
theorem dX3_restsOn_8 : decode cX3_restsOn 8 = .ok (.iconst 0, 1) := by decide +kernel
theorem dX3_restsOn_9 : decode cX3_restsOn 9 = .ok (.ireturn, 1) := by decide +kernel
theorem dX3_restsOn_10 : decode cX3_restsOn 10 = .ok (.aload_n 0, 1) := by decide +kernel
theorem dX3_restsOn_11 : decode cX3_restsOn 11 = .ok (.iload_n 1, 1) := by decide +kernel
theorem dX3_restsOn_12 : decode cX3_restsOn 12 = .ok (.invokevirtual 70, 3) := by decide +kernel
theorem dX3_restsOn_15 : decode cX3_restsOn 15 = .ok (.iconst 1, 1) := by decide +kernel
theorem dX3_restsOn_16 : decode cX3_restsOn 16 = .ok (.ireturn, 1) := by decide +kernel
theorem dX3_daysPassOn_0 : decode cX3_daysPassOn 0 = .ok (.iload_n 1, 1) := by decide +kernel
theorem dX3_daysPassOn_1 : decode cX3_daysPassOn 1 = .ok (.iconst 1, 1) := by decide +kernel
theorem dX3_daysPassOn_2 : decode cX3_daysPassOn 2 = .ok (.bipush 60, 2) := by decide +kernel
theorem dX3_daysPassOn_4 : decode cX3_daysPassOn 4 = .ok (.invokestatic 74, 3) := by decide +kernel
theorem dX3_daysPassOn_7 : decode cX3_daysPassOn 7 = .ok (.ifCond .eq 15, 3) := by decide +kernel
theorem dX3_daysPassOn_10 : decode cX3_daysPassOn 10 = .ok (.aload_n 0, 1) := by decide +kernel
theorem dX3_daysPassOn_11 : decode cX3_daysPassOn 11 = .ok (.getfield 78, 3) := by decide +kernel
theorem dX3_daysPassOn_14 : decode cX3_daysPassOn 14 = .ok (.iload_n 1, 1) := by decide +kernel
theorem dX3_daysPassOn_15 : decode cX3_daysPassOn 15 = .ok (.iadd, 1) := by decide +kernel
theorem dX3_daysPassOn_16 : decode cX3_daysPassOn 16 = .ok (.sipush 999, 3) := by decide +kernel
theorem dX3_daysPassOn_19 : decode cX3_daysPassOn 19 = .ok (.if_icmp .le 5, 3) := by decide +kernel
theorem dX3_daysPassOn_22 : decode cX3_daysPassOn 22 = .ok (.iconst 0, 1) := by decide +kernel
theorem dX3_daysPassOn_23 : decode cX3_daysPassOn 23 = .ok (.ireturn, 1) := by decide +kernel
theorem dX3_daysPassOn_24 : decode cX3_daysPassOn 24 = .ok (.aload_n 0, 1) := by decide +kernel
theorem dX3_daysPassOn_25 : decode cX3_daysPassOn 25 = .ok (.iload_n 1, 1) := by decide +kernel
theorem dX3_daysPassOn_26 : decode cX3_daysPassOn 26 = .ok (.invokevirtual 81, 3) := by decide +kernel
theorem dX3_daysPassOn_29 : decode cX3_daysPassOn 29 = .ok (.iconst 1, 1) := by decide +kernel
theorem dX3_daysPassOn_30 : decode cX3_daysPassOn 30 = .ok (.ireturn, 1) := by decide +kernel
theorem dX3_digitsBehind_0 : decode cX3_digitsBehind 0 = .ok (.iload_n 0, 1) := by decide +kernel
theorem dX3_digitsBehind_1 : decode cX3_digitsBehind 1 = .ok (.tableswitch 107 99 119 #[99, 101, 103, 105, 99, 107, 107, 107, 107, 107, 107, 107, 107, 107, 107, 103, 107, 107, 107, 107, 103], 99) := by decide +kernel
theorem dX3_digitsBehind_100 : decode cX3_digitsBehind 100 = .ok (.iconst 4, 1) := by decide +kernel
theorem dX3_digitsBehind_101 : decode cX3_digitsBehind 101 = .ok (.ireturn, 1) := by decide +kernel
theorem dX3_digitsBehind_102 : decode cX3_digitsBehind 102 = .ok (.iconst 2, 1) := by decide +kernel
theorem dX3_digitsBehind_103 : decode cX3_digitsBehind 103 = .ok (.ireturn, 1) := by decide +kernel
theorem dX3_digitsBehind_104 : decode cX3_digitsBehind 104 = .ok (.iconst 1, 1) := by decide +kernel
theorem dX3_digitsBehind_105 : decode cX3_digitsBehind 105 = .ok (.ireturn, 1) := by decide +kernel
theorem dX3_digitsBehind_106 : decode cX3_digitsBehind 106 = .ok (.iconst 0, 1) := by decide +kernel
theorem dX3_digitsBehind_107 : decode cX3_digitsBehind 107 = .ok (.ireturn, 1) := by decide +kernel
theorem dX3_digitsBehind_108 : decode cX3_digitsBehind 108 = .ok (.iconst (-1), 1) := by decide +kernel
theorem dX3_digitsBehind_109 : decode cX3_digitsBehind 109 = .ok (.ireturn, 1) := by decide +kernel
theorem dX3_isDigit_0 : decode cX3_isDigit 0 = .ok (.iload_n 0, 1) := by decide +kernel
theorem dX3_isDigit_1 : decode cX3_isDigit 1 = .ok (.bipush 48, 2) := by decide +kernel
theorem dX3_isDigit_3 : decode cX3_isDigit 3 = .ok (.bipush 57, 2) := by decide +kernel
theorem dX3_isDigit_5 : decode cX3_isDigit 5 = .ok (.invokestatic 74, 3) := by decide +kernel
theorem dX3_isDigit_8 : decode cX3_isDigit 8 = .ok (.ireturn, 1) := by decide +kernel
theorem dX3_byteAt_0 : decode cX3_byteAt 0 = .ok (.aload_n 0, 1) := by decide +kernel
theorem dX3_byteAt_1 : decode cX3_byteAt 1 = .ok (.iload_n 1, 1) := by decide +kernel
theorem dX3_byteAt_2 : decode cX3_byteAt 2 = .ok (.invokevirtual 84, 3) := by decide +kernel
theorem dX3_byteAt_5 : decode cX3_byteAt 5 = .ok (.ifCond .eq 12, 3) := by decide +kernel
theorem dX3_byteAt_8 : decode cX3_byteAt 8 = .ok (.aload_n 0, 1) := by decide +kernel
theorem dX3_byteAt_9 : decode cX3_byteAt 9 = .ok (.getfield 87, 3) := by decide +kernel
theorem dX3_byteAt_12 : decode cX3_byteAt 12 = .ok (.iload_n 1, 1) := by decide +kernel
theorem dX3_byteAt_13 : decode cX3_byteAt 13 = .ok (.iaload, 1) := by decide +kernel
theorem dX3_byteAt_14 : decode cX3_byteAt 14 = .ok (.goto 4, 3) := by decide +kernel
theorem dX3_byteAt_17 : decode cX3_byteAt 17 = .ok (.iconst (-1), 1) := by decide +kernel
theorem dX3_byteAt_18 : decode cX3_byteAt 18 = .ok (.ireturn, 1) := by decide +kernel
theorem dX3_digitAt_0 : decode cX3_digitAt 0 = .ok (.aload_n 0, 1) := by decide +kernel
theorem dX3_digitAt_1 : decode cX3_digitAt 1 = .ok (.iload_n 1, 1) := by decide +kernel
theorem dX3_digitAt_2 : decode cX3_digitAt 2 = .ok (.invokestatic 9, 3) := by decide +kernel
theorem dX3_digitAt_5 : decode cX3_digitAt 5 = .ok (.istore_n 2, 1) := by decide +kernel
theorem dX3_digitAt_6 : decode cX3_digitAt 6 = .ok (.iload_n 2, 1) := by decide +kernel
theorem dX3_digitAt_7 : decode cX3_digitAt 7 = .ok (.invokestatic 19, 3) := by decide +kernel
theorem dX3_digitAt_10 : decode cX3_digitAt 10 = .ok (.ifCond .eq 10, 3) := by decide +kernel
theorem dX3_digitAt_13 : decode cX3_digitAt 13 = .ok (.iload_n 2, 1) := by decide +kernel
theorem dX3_digitAt_14 : decode cX3_digitAt 14 = .ok (.bipush 48, 2) := by decide +kernel
theorem dX3_digitAt_16 : decode cX3_digitAt 16 = .ok (.isub, 1) := by decide +kernel
theorem dX3_digitAt_17 : decode cX3_digitAt 17 = .ok (.goto 4, 3) := by decide +kernel
theorem dX3_digitAt_20 : decode cX3_digitAt 20 = .ok (.iconst 0, 1) := by decide +kernel
theorem dX3_digitAt_21 : decode cX3_digitAt 21 = .ok (.ireturn, 1) := by decide +kernel
theorem dX3_numberAt_0 : decode cX3_numberAt 0 = .ok (.iconst 0, 1) := by decide +kernel
theorem dX3_numberAt_1 : decode cX3_numberAt 1 = .ok (.istore_n 3, 1) := by decide +kernel
theorem dX3_numberAt_2 : decode cX3_numberAt 2 = .ok (.iconst 0, 1) := by decide +kernel
theorem dX3_numberAt_3 : decode cX3_numberAt 3 = .ok (.istore 4, 2) := by decide +kernel
theorem dX3_numberAt_5 : decode cX3_numberAt 5 = .ok (.iload 4, 2) := by decide +kernel
theorem dX3_numberAt_7 : decode cX3_numberAt 7 = .ok (.iload_n 2, 1) := by decide +kernel
theorem dX3_numberAt_8 : decode cX3_numberAt 8 = .ok (.if_icmp .ge 23, 3) := by decide +kernel
theorem dX3_numberAt_11 : decode cX3_numberAt 11 = .ok (.bipush 10, 2) := by decide +kernel
theorem dX3_numberAt_13 : decode cX3_numberAt 13 = .ok (.iload_n 3, 1) := by decide +kernel
theorem dX3_numberAt_14 : decode cX3_numberAt 14 = .ok (.imul, 1) := by decide +kernel
theorem dX3_numberAt_15 : decode cX3_numberAt 15 = .ok (.aload_n 0, 1) := by decide +kernel
theorem dX3_numberAt_16 : decode cX3_numberAt 16 = .ok (.iload_n 1, 1) := by decide +kernel
theorem dX3_numberAt_17 : decode cX3_numberAt 17 = .ok (.iload 4, 2) := by decide +kernel
theorem dX3_numberAt_19 : decode cX3_numberAt 19 = .ok (.iadd, 1) := by decide +kernel
theorem dX3_numberAt_20 : decode cX3_numberAt 20 = .ok (.invokestatic 29, 3) := by decide +kernel
theorem dX3_numberAt_23 : decode cX3_numberAt 23 = .ok (.iadd, 1) := by decide +kernel
theorem dX3_numberAt_24 : decode cX3_numberAt 24 = .ok (.istore_n 3, 1) := by decide +kernel
theorem dX3_numberAt_25 : decode cX3_numberAt 25 = .ok (.iinc 4 1, 3) := by decide +kernel
theorem dX3_numberAt_28 : decode cX3_numberAt 28 = .ok (.goto (-23), 3) := by decide +kernel
theorem dX3_numberAt_31 : decode cX3_numberAt 31 = .ok (.iload_n 3, 1) := by decide +kernel
theorem dX3_numberAt_32 : decode cX3_numberAt 32 = .ok (.ireturn, 1) := by decide +kernel
theorem dX4_init_0 : decode cX4_init 0 = .ok (.aload_n 0, 1) := by decide +kernel
theorem dX4_init_1 : decode cX4_init 1 = .ok (.invokespecial 3, 3) := by decide +kernel
theorem dX4_init_4 : decode cX4_init 4 = .ok (.aload_n 0, 1) := by decide +kernel
theorem dX4_init_5 : decode cX4_init 5 = .ok (.new 9, 3) := by decide +kernel
theorem dX4_init_8 : decode cX4_init 8 = .ok (.dup, 1) := by decide +kernel
theorem dX4_init_9 : decode cX4_init 9 = .ok (.invokespecial 11, 3) := by decide +kernel
theorem dX4_init_12 : decode cX4_init 12 = .ok (.putfield 12, 3) := by decide +kernel
theorem dX4_init_15 : decode cX4_init 15 = .ok (.aload_n 0, 1) := by decide +kernel
theorem dX4_init_16 : decode cX4_init 16 = .ok (.new 9, 3) := by decide +kernel
theorem dX4_init_19 : decode cX4_init 19 = .ok (.dup, 1) := by decide +kernel
theorem dX4_init_20 : decode cX4_init 20 = .ok (.invokespecial 11, 3) := by decide +kernel
theorem dX4_init_23 : decode cX4_init 23 = .ok (.putfield 16, 3) := by decide +kernel
theorem dX4_init_26 : decode cX4_init 26 = .ok (.aload_n 0, 1) := by decide +kernel
theorem dX4_init_27 : decode cX4_init 27 = .ok (.new 9, 3) := by decide +kernel
theorem dX4_init_30 : decode cX4_init 30 = .ok (.dup, 1) := by decide +kernel
theorem dX4_init_31 : decode cX4_init 31 = .ok (.invokespecial 11, 3) := by decide +kernel
theorem dX4_init_34 : decode cX4_init 34 = .ok (.putfield 19, 3) := by decide +kernel
theorem dX4_init_37 : decode cX4_init 37 = .ok (.aload_n 0, 1) := by decide +kernel
theorem dX4_init_38 : decode cX4_init 38 = .ok (.iconst 0, 1) := by decide +kernel
theorem dX4_init_39 : decode cX4_init 39 = .ok (.putfield 22, 3) := by decide +kernel
theorem dX4_init_42 : decode cX4_init 42 = .ok (.aload_n 0, 1) := by decide +kernel
theorem dX4_init_43 : decode cX4_init 43 = .ok (.bipush 8, 2) := by decide +kernel
theorem dX4_init_45 : decode cX4_init 45 = .ok (.anewarray 26, 3) := by decide +kernel
theorem dX4_init_48 : decode cX4_init 48 = .ok (.putfield 28, 3) := by decide +kernel
theorem dX4_init_51 : decode cX4_init 51 = .ok (.aload_n 0, 1) := by decide +kernel
theorem dX4_init_52 : decode cX4_init 52 = .ok (.iconst 4, 1) := by decide +kernel
theorem dX4_init_53 : decode cX4_init 53 = .ok (.newarray .int, 2) := by decide +kernel
theorem dX4_init_55 : decode cX4_init 55 = .ok (.putfield 32, 3) := by decide +kernel
theorem dX4_init_58 : decode cX4_init 58 = .ok (.aload_n 0, 1) := by decide +kernel
theorem dX4_init_59 : decode cX4_init 59 = .ok (.iconst 4, 1) := by decide +kernel
theorem dX4_init_60 : decode cX4_init 60 = .ok (.newarray .int, 2) := by decide +kernel
theorem dX4_init_62 : decode cX4_init 62 = .ok (.putfield 36, 3) := by decide +kernel
theorem dX4_init_65 : decode cX4_init 65 = .ok (.iconst 0, 1) := by decide +kernel
theorem dX4_init_66 : decode cX4_init 66 = .ok (.istore_n 1, 1) := by decide +kernel
theorem dX4_init_67 : decode cX4_init 67 = .ok (.iload_n 1, 1) := by decide +kernel
theorem dX4_init_68 : decode cX4_init 68 = .ok (.bipush 8, 2) := by decide +kernel
theorem dX4_init_70 : decode cX4_init 70 = .ok (.if_icmp .ge 22, 3) := by decide +kernel
theorem dX4_init_73 : decode cX4_init 73 = .ok (.aload_n 0, 1) := by decide +kernel
theorem dX4_init_74 : decode cX4_init 74 = .ok (.getfield 28, 3) := by decide +kernel
theorem dX4_init_77 : decode cX4_init 77 = .ok (.iload_n 1, 1) := by decide +kernel
theorem dX4_init_78 : decode cX4_init 78 = .ok (.new 26, 3) := by decide +kernel
theorem dX4_init_81 : decode cX4_init 81 = .ok (.dup, 1) := by decide +kernel
theorem dX4_init_82 : decode cX4_init 82 = .ok (.invokespecial 39, 3) := by decide +kernel
theorem dX4_init_85 : decode cX4_init 85 = .ok (.aastore, 1) := by decide +kernel
theorem dX4_init_86 : decode cX4_init 86 = .ok (.iinc 1 1, 3) := by decide +kernel
theorem dX4_init_89 : decode cX4_init 89 = .ok (.goto (-22), 3) := by decide +kernel
theorem dX4_init_92 : decode cX4_init 92 = .ok (.return_, 1) := by decide +kernel
theorem dX4_desert_0 : decode cX4_desert 0 = .ok (.aload_n 0, 1) := by decide +kernel
theorem dX4_desert_1 : decode cX4_desert 1 = .ok (.iload_n 1, 1) := by decide +kernel
theorem dX4_desert_2 : decode cX4_desert 2 = .ok (.invokevirtual 40, 3) := by decide +kernel
theorem dX4_desert_5 : decode cX4_desert 5 = .ok (.astore_n 2, 1) := by decide +kernel
theorem dX4_desert_6 : decode cX4_desert 6 = .ok (.aload_n 2, 1) := by decide +kernel
theorem dX4_desert_7 : decode cX4_desert 7 = .ok (.ifnonnull 5, 3) := by decide +kernel
theorem dX4_desert_10 : decode cX4_desert 10 = .ok (.iconst (-1), 1) := by decide +kernel
theorem dX4_desert_11 : decode cX4_desert 11 = .ok (.ireturn, 1) := by decide +kernel
theorem dX4_desert_12 : decode cX4_desert 12 = .ok (.aload_n 2, 1) := by decide +kernel
theorem dX4_desert_13 : decode cX4_desert 13 = .ok (.getfield 44, 3) := by decide +kernel
theorem dX4_desert_16 : decode cX4_desert 16 = .ok (.ifCond .ne 6, 3) := by decide +kernel
theorem dX4_desert_19 : decode cX4_desert 19 = .ok (.bipush (-11), 2) := by decide +kernel
theorem dX4_desert_21 : decode cX4_desert 21 = .ok (.ireturn, 1) := by decide +kernel
theorem dX4_desert_22 : decode cX4_desert 22 = .ok (.aload_n 2, 1) := by decide +kernel
theorem dX4_desert_23 : decode cX4_desert 23 = .ok (.getfield 44, 3) := by decide +kernel
theorem dX4_desert_26 : decode cX4_desert 26 = .ok (.iconst 2, 1) := by decide +kernel
theorem dX4_desert_27 : decode cX4_desert 27 = .ok (.if_icmp .ne 10, 3) := by decide +kernel
theorem dX4_desert_30 : decode cX4_desert 30 = .ok (.aload_n 2, 1) := by decide +kernel
theorem dX4_desert_31 : decode cX4_desert 31 = .ok (.getfield 48, 3) := by decide +kernel
theorem dX4_desert_34 : decode cX4_desert 34 = .ok (.ifCond .eq 6, 3) := by decide +kernel
theorem dX4_desert_37 : decode cX4_desert 37 = .ok (.bipush (-12), 2) := by decide +kernel
theorem dX4_desert_39 : decode cX4_desert 39 = .ok (.ireturn, 1) := by decide +kernel
theorem dX4_desert_40 : decode cX4_desert 40 = .ok (.aload_n 2, 1) := by decide +kernel
theorem dX4_desert_41 : decode cX4_desert 41 = .ok (.invokestatic 51, 3) := by decide +kernel
theorem dX4_desert_44 : decode cX4_desert 44 = .ok (.istore_n 3, 1) := by decide +kernel
theorem dX4_desert_45 : decode cX4_desert 45 = .ok (.iload_n 3, 1) := by decide +kernel
theorem dX4_desert_46 : decode cX4_desert 46 = .ok (.ifCond .lt 9, 3) := by decide +kernel
theorem dX4_desert_49 : decode cX4_desert 49 = .ok (.sipush (-1000), 3) := by decide +kernel
theorem dX4_desert_52 : decode cX4_desert 52 = .ok (.iload_n 3, 1) := by decide +kernel
theorem dX4_desert_53 : decode cX4_desert 53 = .ok (.isub, 1) := by decide +kernel
theorem dX4_desert_54 : decode cX4_desert 54 = .ok (.ireturn, 1) := by decide +kernel
theorem dX4_desert_55 : decode cX4_desert 55 = .ok (.aload_n 0, 1) := by decide +kernel
theorem dX4_desert_56 : decode cX4_desert 56 = .ok (.getfield 16, 3) := by decide +kernel
theorem dX4_desert_59 : decode cX4_desert 59 = .ok (.aload_n 0, 1) := by decide +kernel
theorem dX4_desert_60 : decode cX4_desert 60 = .ok (.getfield 12, 3) := by decide +kernel
theorem dX4_desert_63 : decode cX4_desert 63 = .ok (.invokevirtual 57, 3) := by decide +kernel
theorem dX4_desert_66 : decode cX4_desert 66 = .ok (.iconst 0, 1) := by decide +kernel
theorem dX4_desert_67 : decode cX4_desert 67 = .ok (.istore 4, 2) := by decide +kernel
theorem dX4_desert_69 : decode cX4_desert 69 = .ok (.iconst 0, 1) := by decide +kernel
theorem dX4_desert_70 : decode cX4_desert 70 = .ok (.istore 5, 2) := by decide +kernel
theorem dX4_desert_72 : decode cX4_desert 72 = .ok (.iload 5, 2) := by decide +kernel
theorem dX4_desert_74 : decode cX4_desert 74 = .ok (.aload_n 2, 1) := by decide +kernel
theorem dX4_desert_75 : decode cX4_desert 75 = .ok (.getfield 61, 3) := by decide +kernel
theorem dX4_desert_78 : decode cX4_desert 78 = .ok (.if_icmp .ge 44, 3) := by decide +kernel
theorem dX4_desert_81 : decode cX4_desert 81 = .ok (.aload_n 0, 1) := by decide +kernel
theorem dX4_desert_82 : decode cX4_desert 82 = .ok (.getfield 16, 3) := by decide +kernel
theorem dX4_desert_85 : decode cX4_desert 85 = .ok (.aload_n 2, 1) := by decide +kernel
theorem dX4_desert_86 : decode cX4_desert 86 = .ok (.iload 5, 2) := by decide +kernel
theorem dX4_desert_88 : decode cX4_desert 88 = .ok (.invokestatic 64, 3) := by decide +kernel
theorem dX4_desert_91 : decode cX4_desert 91 = .ok (.ifCond .ne 10, 3) := by decide +kernel
theorem dX4_desert_94 : decode cX4_desert 94 = .ok (.sipush (-2000), 3) := by decide +kernel
theorem dX4_desert_97 : decode cX4_desert 97 = .ok (.iload 5, 2) := by decide +kernel
theorem dX4_desert_99 : decode cX4_desert 99 = .ok (.isub, 1) := by decide +kernel
theorem dX4_desert_100 : decode cX4_desert 100 = .ok (.ireturn, 1) := by decide +kernel
theorem dX4_desert_101 : decode cX4_desert 101 = .ok (.iinc 4 1, 3) := by decide +kernel
theorem dX4_desert_104 : decode cX4_desert 104 = .ok (.iload 5, 2) := by decide +kernel
theorem dX4_desert_106 : decode cX4_desert 106 = .ok (.iconst 2, 1) := by decide +kernel
theorem dX4_desert_107 : decode cX4_desert 107 = .ok (.aload_n 2, 1) := by decide +kernel
theorem dX4_desert_108 : decode cX4_desert 108 = .ok (.iload 5, 2) := by decide +kernel
theorem dX4_desert_110 : decode cX4_desert 110 = .ok (.invokestatic 68, 3) := by decide +kernel
theorem dX4_desert_113 : decode cX4_desert 113 = .ok (.invokestatic 72, 3) := by decide +kernel
theorem dX4_desert_116 : decode cX4_desert 116 = .ok (.iadd, 1) := by decide +kernel
theorem dX4_desert_117 : decode cX4_desert 117 = .ok (.istore 5, 2) := by decide +kernel
theorem dX4_desert_119 : decode cX4_desert 119 = .ok (.goto (-47), 3) := by decide +kernel
theorem dX4_desert_122 : decode cX4_desert 122 = .ok (.aload_n 0, 1) := by decide +kernel
theorem dX4_desert_123 : decode cX4_desert 123 = .ok (.getfield 12, 3) := by decide +kernel
theorem dX4_desert_126 : decode cX4_desert 126 = .ok (.aload_n 0, 1) := by decide +kernel
theorem dX4_desert_127 : decode cX4_desert 127 = .ok (.getfield 16, 3) := by decide +kernel
theorem dX4_desert_130 : decode cX4_desert 130 = .ok (.invokevirtual 57, 3) := by decide +kernel
theorem dX4_desert_133 : decode cX4_desert 133 = .ok (.iload 4, 2) := by decide +kernel
theorem dX4_desert_135 : decode cX4_desert 135 = .ok (.ireturn, 1) := by decide +kernel
theorem dX4_corporal_0 : decode cX4_corporal 0 = .ok (.aload_n 0, 1) := by decide +kernel
theorem dX4_corporal_1 : decode cX4_corporal 1 = .ok (.iload_n 1, 1) := by decide +kernel
theorem dX4_corporal_2 : decode cX4_corporal 2 = .ok (.invokevirtual 78, 3) := by decide +kernel
theorem dX4_corporal_5 : decode cX4_corporal 5 = .ok (.ifCond .ne 5, 3) := by decide +kernel
theorem dX4_corporal_8 : decode cX4_corporal 8 = .ok (.iconst (-1), 1) := by decide +kernel
theorem dX4_corporal_9 : decode cX4_corporal 9 = .ok (.ireturn, 1) := by decide +kernel
theorem dX4_corporal_10 : decode cX4_corporal 10 = .ok (.iload_n 2, 1) := by decide +kernel
theorem dX4_corporal_11 : decode cX4_corporal 11 = .ok (.tableswitch 158 0 6 #[41, 51, 61, 71, 81, 91, 111], 41) := by decide +kernel
theorem dX4_corporal_52 : decode cX4_corporal 52 = .ok (.aload_n 0, 1) := by decide +kernel
theorem dX4_corporal_53 : decode cX4_corporal 53 = .ok (.getfield 12, 3) := by decide +kernel
theorem dX4_corporal_56 : decode cX4_corporal 56 = .ok (.getfield 82, 3) := by decide +kernel
theorem dX4_corporal_59 : decode cX4_corporal 59 = .ok (.iload_n 1, 1) := by decide +kernel
theorem dX4_corporal_60 : decode cX4_corporal 60 = .ok (.iaload, 1) := by decide +kernel
theorem dX4_corporal_61 : decode cX4_corporal 61 = .ok (.ireturn, 1) := by decide +kernel
theorem dX4_corporal_62 : decode cX4_corporal 62 = .ok (.aload_n 0, 1) := by decide +kernel
theorem dX4_corporal_63 : decode cX4_corporal 63 = .ok (.getfield 12, 3) := by decide +kernel
theorem dX4_corporal_66 : decode cX4_corporal 66 = .ok (.getfield 85, 3) := by decide +kernel
theorem dX4_corporal_69 : decode cX4_corporal 69 = .ok (.iload_n 1, 1) := by decide +kernel
theorem dX4_corporal_70 : decode cX4_corporal 70 = .ok (.iaload, 1) := by decide +kernel
theorem dX4_corporal_71 : decode cX4_corporal 71 = .ok (.ireturn, 1) := by decide +kernel
theorem dX4_corporal_72 : decode cX4_corporal 72 = .ok (.aload_n 0, 1) := by decide +kernel
theorem dX4_corporal_73 : decode cX4_corporal 73 = .ok (.getfield 12, 3) := by decide +kernel
theorem dX4_corporal_76 : decode cX4_corporal 76 = .ok (.getfield 88, 3) := by decide +kernel
theorem dX4_corporal_79 : decode cX4_corporal 79 = .ok (.iload_n 1, 1) := by decide +kernel
theorem dX4_corporal_80 : decode cX4_corporal 80 = .ok (.iaload, 1) := by decide +kernel
theorem dX4_corporal_81 : decode cX4_corporal 81 = .ok (.ireturn, 1) := by decide +kernel
theorem dX4_corporal_82 : decode cX4_corporal 82 = .ok (.aload_n 0, 1) := by decide +kernel
theorem dX4_corporal_83 : decode cX4_corporal 83 = .ok (.getfield 12, 3) := by decide +kernel
theorem dX4_corporal_86 : decode cX4_corporal 86 = .ok (.getfield 91, 3) := by decide +kernel
theorem dX4_corporal_89 : decode cX4_corporal 89 = .ok (.iload_n 1, 1) := by decide +kernel
theorem dX4_corporal_90 : decode cX4_corporal 90 = .ok (.iaload, 1) := by decide +kernel
theorem dX4_corporal_91 : decode cX4_corporal 91 = .ok (.ireturn, 1) := by decide +kernel
theorem dX4_corporal_92 : decode cX4_corporal 92 = .ok (.aload_n 0, 1) := by decide +kernel
theorem dX4_corporal_93 : decode cX4_corporal 93 = .ok (.getfield 12, 3) := by decide +kernel
theorem dX4_corporal_96 : decode cX4_corporal 96 = .ok (.getfield 94, 3) := by decide +kernel
theorem dX4_corporal_99 : decode cX4_corporal 99 = .ok (.iload_n 1, 1) := by decide +kernel
theorem dX4_corporal_100 : decode cX4_corporal 100 = .ok (.iaload, 1) := by decide +kernel
theorem dX4_corporal_101 : decode cX4_corporal 101 = .ok (.ireturn, 1) := by decide +kernel
theorem dX4_corporal_102 : decode cX4_corporal 102 = .ok (.aload_n 0, 1) := by decide +kernel
theorem dX4_corporal_103 : decode cX4_corporal 103 = .ok (.getfield 12, 3) := by decide +kernel
theorem dX4_corporal_106 : decode cX4_corporal 106 = .ok (.getfield 97, 3) := by decide +kernel
theorem dX4_corporal_109 : decode cX4_corporal 109 = .ok (.iload_n 1, 1) := by decide +kernel
theorem dX4_corporal_110 : decode cX4_corporal 110 = .ok (.invokestatic 100, 3) := by decide +kernel
theorem dX4_corporal_113 : decode cX4_corporal 113 = .ok (.ifCond .eq 7, 3) := by decide +kernel
theorem dX4_corporal_116 : decode cX4_corporal 116 = .ok (.iconst 1, 1) := by decide +kernel
theorem dX4_corporal_117 : decode cX4_corporal 117 = .ok (.goto 4, 3) := by decide +kernel
theorem dX4_corporal_120 : decode cX4_corporal 120 = .ok (.iconst 0, 1) := by decide +kernel
theorem dX4_corporal_121 : decode cX4_corporal 121 = .ok (.ireturn, 1) := by decide +kernel
theorem dX4_corporal_122 : decode cX4_corporal 122 = .ok (.aload_n 0, 1) := by decide +kernel
theorem dX4_corporal_123 : decode cX4_corporal 123 = .ok (.getfield 12, 3) := by decide +kernel
theorem dX4_corporal_126 : decode cX4_corporal 126 = .ok (.getfield 82, 3) := by decide +kernel
theorem dX4_corporal_129 : decode cX4_corporal 129 = .ok (.iload_n 1, 1) := by decide +kernel
theorem dX4_corporal_130 : decode cX4_corporal 130 = .ok (.iaload, 1) := by decide +kernel
theorem dX4_corporal_131 : decode cX4_corporal 131 = .ok (.aload_n 0, 1) := by decide +kernel
theorem dX4_corporal_132 : decode cX4_corporal 132 = .ok (.getfield 12, 3) := by decide +kernel
theorem dX4_corporal_135 : decode cX4_corporal 135 = .ok (.getfield 85, 3) := by decide +kernel
theorem dX4_corporal_138 : decode cX4_corporal 138 = .ok (.iload_n 1, 1) := by decide +kernel
theorem dX4_corporal_139 : decode cX4_corporal 139 = .ok (.iaload, 1) := by decide +kernel
theorem dX4_corporal_140 : decode cX4_corporal 140 = .ok (.aload_n 0, 1) := by decide +kernel
theorem dX4_corporal_141 : decode cX4_corporal 141 = .ok (.getfield 12, 3) := by decide +kernel
theorem dX4_corporal_144 : decode cX4_corporal 144 = .ok (.aload_n 0, 1) := by decide +kernel
theorem dX4_corporal_145 : decode cX4_corporal 145 = .ok (.getfield 12, 3) := by decide +kernel
theorem dX4_corporal_148 : decode cX4_corporal 148 = .ok (.getfield 88, 3) := by decide +kernel
theorem dX4_corporal_151 : decode cX4_corporal 151 = .ok (.iload_n 1, 1) := by decide +kernel
theorem dX4_corporal_152 : decode cX4_corporal 152 = .ok (.iaload, 1) := by decide +kernel
theorem dX4_corporal_153 : decode cX4_corporal 153 = .ok (.invokevirtual 104, 3) := by decide +kernel
theorem dX4_corporal_156 : decode cX4_corporal 156 = .ok (.aload_n 0, 1) := by decide +kernel
theorem dX4_corporal_157 : decode cX4_corporal 157 = .ok (.getfield 12, 3) := by decide +kernel
theorem dX4_corporal_160 : decode cX4_corporal 160 = .ok (.getfield 108, 3) := by decide +kernel
theorem dX4_corporal_163 : decode cX4_corporal 163 = .ok (.iconst 1, 1) := by decide +kernel
theorem dX4_corporal_164 : decode cX4_corporal 164 = .ok (.iadd, 1) := by decide +kernel
theorem dX4_corporal_165 : decode cX4_corporal 165 = .ok (.invokestatic 111, 3) := by decide +kernel
theorem dX4_corporal_168 : decode cX4_corporal 168 = .ok (.ireturn, 1) := by decide +kernel
theorem dX4_corporal_169 : decode cX4_corporal 169 = .ok (.iconst (-1), 1) := by decide +kernel
theorem dX4_corporal_170 : decode cX4_corporal 170 = .ok (.ireturn, 1) := by decide +kernel
theorem dX4_dip_0 : decode cX4_dip 0 = .ok (.iload_n 1, 1) := by decide +kernel
theorem dX4_dip_1 : decode cX4_dip 1 = .ok (.invokestatic 117, 3) := by decide +kernel
theorem dX4_dip_4 : decode cX4_dip 4 = .ok (.ifCond .ne 5, 3) := by decide +kernel
theorem dX4_dip_7 : decode cX4_dip 7 = .ok (.iconst (-1), 1) := by decide +kernel
theorem dX4_dip_8 : decode cX4_dip 8 = .ok (.ireturn, 1) := by decide +kernel
theorem dX4_dip_9 : decode cX4_dip 9 = .ok (.iload_n 2, 1) := by decide +kernel
theorem dX4_dip_10 : decode cX4_dip 10 = .ok (.tableswitch 55 0 2 #[26, 36, 46], 26) := by decide +kernel
theorem dX4_dip_36 : decode cX4_dip 36 = .ok (.aload_n 0, 1) := by decide +kernel
theorem dX4_dip_37 : decode cX4_dip 37 = .ok (.getfield 12, 3) := by decide +kernel
theorem dX4_dip_40 : decode cX4_dip 40 = .ok (.getfield 120, 3) := by decide +kernel
theorem dX4_dip_43 : decode cX4_dip 43 = .ok (.iload_n 1, 1) := by decide +kernel
theorem dX4_dip_44 : decode cX4_dip 44 = .ok (.iaload, 1) := by decide +kernel
theorem dX4_dip_45 : decode cX4_dip 45 = .ok (.ireturn, 1) := by decide +kernel
theorem dX4_dip_46 : decode cX4_dip 46 = .ok (.aload_n 0, 1) := by decide +kernel
theorem dX4_dip_47 : decode cX4_dip 47 = .ok (.getfield 12, 3) := by decide +kernel
theorem dX4_dip_50 : decode cX4_dip 50 = .ok (.getfield 123, 3) := by decide +kernel
theorem dX4_dip_53 : decode cX4_dip 53 = .ok (.iload_n 1, 1) := by decide +kernel
theorem dX4_dip_54 : decode cX4_dip 54 = .ok (.iaload, 1) := by decide +kernel
theorem dX4_dip_55 : decode cX4_dip 55 = .ok (.ireturn, 1) := by decide +kernel
theorem dX4_dip_56 : decode cX4_dip 56 = .ok (.aload_n 0, 1) := by decide +kernel
theorem dX4_dip_57 : decode cX4_dip 57 = .ok (.getfield 12, 3) := by decide +kernel
theorem dX4_dip_60 : decode cX4_dip 60 = .ok (.iload_n 1, 1) := by decide +kernel
theorem dX4_dip_61 : decode cX4_dip 61 = .ok (.invokevirtual 126, 3) := by decide +kernel
theorem dX4_dip_64 : decode cX4_dip 64 = .ok (.ireturn, 1) := by decide +kernel
theorem dX4_dip_65 : decode cX4_dip 65 = .ok (.iconst (-1), 1) := by decide +kernel
theorem dX4_dip_66 : decode cX4_dip 66 = .ok (.ireturn, 1) := by decide +kernel
theorem dX4_comes_0 : decode cX4_comes 0 = .ok (.iload_n 2, 1) := by decide +kernel
theorem dX4_comes_1 : decode cX4_comes 1 = .ok (.invokestatic 117, 3) := by decide +kernel
theorem dX4_comes_4 : decode cX4_comes 4 = .ok (.ifCond .eq 12, 3) := by decide +kernel
theorem dX4_comes_7 : decode cX4_comes 7 = .ok (.iload_n 3, 1) := by decide +kernel
theorem dX4_comes_8 : decode cX4_comes 8 = .ok (.iconst 0, 1) := by decide +kernel
theorem dX4_comes_9 : decode cX4_comes 9 = .ok (.iconst 1, 1) := by decide +kernel
theorem dX4_comes_10 : decode cX4_comes 10 = .ok (.invokestatic 129, 3) := by decide +kernel
theorem dX4_comes_13 : decode cX4_comes 13 = .ok (.ifCond .ne 5, 3) := by decide +kernel
theorem dX4_comes_16 : decode cX4_comes 16 = .ok (.iconst (-1), 1) := by decide +kernel
theorem dX4_comes_17 : decode cX4_comes 17 = .ok (.ireturn, 1) := by decide +kernel
theorem dX4_comes_18 : decode cX4_comes 18 = .ok (.aload_n 0, 1) := by decide +kernel
theorem dX4_comes_19 : decode cX4_comes 19 = .ok (.iload_n 1, 1) := by decide +kernel
theorem dX4_comes_20 : decode cX4_comes 20 = .ok (.invokevirtual 40, 3) := by decide +kernel
theorem dX4_comes_23 : decode cX4_comes 23 = .ok (.astore 4, 2) := by decide +kernel
theorem dX4_comes_25 : decode cX4_comes 25 = .ok (.aload 4, 2) := by decide +kernel
theorem dX4_comes_27 : decode cX4_comes 27 = .ok (.iconst 1, 1) := by decide +kernel
theorem dX4_comes_28 : decode cX4_comes 28 = .ok (.invokestatic 133, 3) := by decide +kernel
theorem dX4_comes_31 : decode cX4_comes 31 = .ok (.istore 5, 2) := by decide +kernel
theorem dX4_comes_33 : decode cX4_comes 33 = .ok (.aload 4, 2) := by decide +kernel
theorem dX4_comes_35 : decode cX4_comes 35 = .ok (.ifnull 8, 3) := by decide +kernel
theorem dX4_comes_38 : decode cX4_comes 38 = .ok (.iload 5, 2) := by decide +kernel
theorem dX4_comes_40 : decode cX4_comes 40 = .ok (.ifCond .eq 6, 3) := by decide +kernel
theorem dX4_comes_43 : decode cX4_comes 43 = .ok (.iload 5, 2) := by decide +kernel
theorem dX4_comes_45 : decode cX4_comes 45 = .ok (.ireturn, 1) := by decide +kernel
theorem dX4_comes_46 : decode cX4_comes 46 = .ok (.aload_n 0, 1) := by decide +kernel
theorem dX4_comes_47 : decode cX4_comes 47 = .ok (.getfield 12, 3) := by decide +kernel
theorem dX4_comes_50 : decode cX4_comes 50 = .ok (.invokevirtual 136, 3) := by decide +kernel
theorem dX4_comes_53 : decode cX4_comes 53 = .ok (.ifCond .ne 6, 3) := by decide +kernel
theorem dX4_comes_56 : decode cX4_comes 56 = .ok (.bipush (-2), 2) := by decide +kernel
theorem dX4_comes_58 : decode cX4_comes 58 = .ok (.ireturn, 1) := by decide +kernel
theorem dX4_comes_59 : decode cX4_comes 59 = .ok (.aload_n 0, 1) := by decide +kernel
theorem dX4_comes_60 : decode cX4_comes 60 = .ok (.getfield 12, 3) := by decide +kernel
theorem dX4_comes_63 : decode cX4_comes 63 = .ok (.aload 4, 2) := by decide +kernel
theorem dX4_comes_65 : decode cX4_comes 65 = .ok (.getfield 140, 3) := by decide +kernel
theorem dX4_comes_68 : decode cX4_comes 68 = .ok (.aload 4, 2) := by decide +kernel
theorem dX4_comes_70 : decode cX4_comes 70 = .ok (.getfield 142, 3) := by decide +kernel
theorem dX4_comes_73 : decode cX4_comes 73 = .ok (.iload_n 2, 1) := by decide +kernel
theorem dX4_comes_74 : decode cX4_comes 74 = .ok (.iload_n 3, 1) := by decide +kernel
theorem dX4_comes_75 : decode cX4_comes 75 = .ok (.invokevirtual 144, 3) := by decide +kernel
theorem dX4_comes_78 : decode cX4_comes 78 = .ok (.aload_n 0, 1) := by decide +kernel
theorem dX4_comes_79 : decode cX4_comes 79 = .ok (.getfield 12, 3) := by decide +kernel
theorem dX4_comes_82 : decode cX4_comes 82 = .ok (.getfield 148, 3) := by decide +kernel
theorem dX4_comes_85 : decode cX4_comes 85 = .ok (.iconst 1, 1) := by decide +kernel
theorem dX4_comes_86 : decode cX4_comes 86 = .ok (.isub, 1) := by decide +kernel
theorem dX4_comes_87 : decode cX4_comes 87 = .ok (.ireturn, 1) := by decide +kernel
theorem dX4_fills_0 : decode cX4_fills 0 = .ok (.iload_n 1, 1) := by decide +kernel
theorem dX4_fills_1 : decode cX4_fills 1 = .ok (.invokestatic 117, 3) := by decide +kernel
theorem dX4_fills_4 : decode cX4_fills 4 = .ok (.ifCond .eq 14, 3) := by decide +kernel
theorem dX4_fills_7 : decode cX4_fills 7 = .ok (.iload_n 2, 1) := by decide +kernel
theorem dX4_fills_8 : decode cX4_fills 8 = .ok (.iconst 0, 1) := by decide +kernel
theorem dX4_fills_9 : decode cX4_fills 9 = .ok (.sipush 999, 3) := by decide +kernel
theorem dX4_fills_12 : decode cX4_fills 12 = .ok (.invokestatic 129, 3) := by decide +kernel
theorem dX4_fills_15 : decode cX4_fills 15 = .ok (.ifCond .ne 5, 3) := by decide +kernel
theorem dX4_fills_18 : decode cX4_fills 18 = .ok (.iconst (-1), 1) := by decide +kernel
theorem dX4_fills_19 : decode cX4_fills 19 = .ok (.ireturn, 1) := by decide +kernel
theorem dX4_fills_20 : decode cX4_fills 20 = .ok (.aload_n 0, 1) := by decide +kernel
theorem dX4_fills_21 : decode cX4_fills 21 = .ok (.getfield 12, 3) := by decide +kernel
theorem dX4_fills_24 : decode cX4_fills 24 = .ok (.getfield 120, 3) := by decide +kernel
theorem dX4_fills_27 : decode cX4_fills 27 = .ok (.iload_n 1, 1) := by decide +kernel
theorem dX4_fills_28 : decode cX4_fills 28 = .ok (.iaload, 1) := by decide +kernel
theorem dX4_fills_29 : decode cX4_fills 29 = .ok (.istore_n 3, 1) := by decide +kernel
theorem dX4_fills_30 : decode cX4_fills 30 = .ok (.aload_n 0, 1) := by decide +kernel
theorem dX4_fills_31 : decode cX4_fills 31 = .ok (.getfield 12, 3) := by decide +kernel
theorem dX4_fills_34 : decode cX4_fills 34 = .ok (.iload_n 1, 1) := by decide +kernel
theorem dX4_fills_35 : decode cX4_fills 35 = .ok (.iload_n 2, 1) := by decide +kernel
theorem dX4_fills_36 : decode cX4_fills 36 = .ok (.invokevirtual 151, 3) := by decide +kernel
theorem dX4_fills_39 : decode cX4_fills 39 = .ok (.iload_n 3, 1) := by decide +kernel
theorem dX4_fills_40 : decode cX4_fills 40 = .ok (.ireturn, 1) := by decide +kernel
theorem dX4_blows_0 : decode cX4_blows 0 = .ok (.iload_n 1, 1) := by decide +kernel
theorem dX4_blows_1 : decode cX4_blows 1 = .ok (.bipush (-9), 2) := by decide +kernel
theorem dX4_blows_3 : decode cX4_blows 3 = .ok (.bipush 9, 2) := by decide +kernel
theorem dX4_blows_5 : decode cX4_blows 5 = .ok (.invokestatic 129, 3) := by decide +kernel
theorem dX4_blows_8 : decode cX4_blows 8 = .ok (.ifCond .ne 6, 3) := by decide +kernel
theorem dX4_blows_11 : decode cX4_blows 11 = .ok (.ldc 155, 2) := by decide +kernel
theorem dX4_blows_13 : decode cX4_blows 13 = .ok (.ireturn, 1) := by decide +kernel
theorem dX4_blows_14 : decode cX4_blows 14 = .ok (.aload_n 0, 1) := by decide +kernel
theorem dX4_blows_15 : decode cX4_blows 15 = .ok (.getfield 12, 3) := by decide +kernel
theorem dX4_blows_18 : decode cX4_blows 18 = .ok (.getfield 156, 3) := by decide +kernel
theorem dX4_blows_21 : decode cX4_blows 21 = .ok (.istore_n 2, 1) := by decide +kernel
theorem dX4_blows_22 : decode cX4_blows 22 = .ok (.aload_n 0, 1) := by decide +kernel
theorem dX4_blows_23 : decode cX4_blows 23 = .ok (.getfield 12, 3) := by decide +kernel
theorem dX4_blows_26 : decode cX4_blows 26 = .ok (.iload_n 1, 1) := by decide +kernel
theorem dX4_blows_27 : decode cX4_blows 27 = .ok (.putfield 156, 3) := by decide +kernel
theorem dX4_blows_30 : decode cX4_blows 30 = .ok (.iload_n 2, 1) := by decide +kernel
theorem dX4_blows_31 : decode cX4_blows 31 = .ok (.ireturn, 1) := by decide +kernel
theorem dX4_rests_0 : decode cX4_rests 0 = .ok (.aload_n 0, 1) := by decide +kernel
theorem dX4_rests_1 : decode cX4_rests 1 = .ok (.iload_n 1, 1) := by decide +kernel
theorem dX4_rests_2 : decode cX4_rests 2 = .ok (.invokevirtual 78, 3) := by decide +kernel
theorem dX4_rests_5 : decode cX4_rests 5 = .ok (.ifCond .ne 5, 3) := by decide +kernel
theorem dX4_rests_8 : decode cX4_rests 8 = .ok (.iconst (-1), 1) := by decide +kernel
theorem dX4_rests_9 : decode cX4_rests 9 = .ok (.ireturn, 1) := by decide +kernel
theorem dX4_rests_10 : decode cX4_rests 10 = .ok (.aload_n 0, 1) := by decide +kernel
theorem dX4_rests_11 : decode cX4_rests 11 = .ok (.getfield 12, 3) := by decide +kernel
theorem dX4_rests_14 : decode cX4_rests 14 = .ok (.iload_n 1, 1) := by decide +kernel
theorem dX4_rests_15 : decode cX4_rests 15 = .ok (.invokevirtual 159, 3) := by decide +kernel
theorem dX4_rests_18 : decode cX4_rests 18 = .ok (.aload_n 0, 1) := by decide +kernel
theorem dX4_rests_19 : decode cX4_rests 19 = .ok (.getfield 12, 3) := by decide +kernel
theorem dX4_rests_22 : decode cX4_rests 22 = .ok (.getfield 97, 3) := by decide +kernel
theorem dX4_rests_25 : decode cX4_rests 25 = .ok (.iload_n 1, 1) := by decide +kernel
theorem dX4_rests_26 : decode cX4_rests 26 = .ok (.invokestatic 100, 3) := by decide +kernel
theorem dX4_rests_29 : decode cX4_rests 29 = .ok (.ifCond .eq 7, 3) := by decide +kernel
theorem dX4_rests_32 : decode cX4_rests 32 = .ok (.iconst 1, 1) := by decide +kernel
theorem dX4_rests_33 : decode cX4_rests 33 = .ok (.goto 4, 3) := by decide +kernel
theorem dX4_rests_36 : decode cX4_rests 36 = .ok (.iconst 0, 1) := by decide +kernel
theorem dX4_rests_37 : decode cX4_rests 37 = .ok (.ireturn, 1) := by decide +kernel
theorem dX4_moves_0 : decode cX4_moves 0 = .ok (.aload_n 0, 1) := by decide +kernel
theorem dX4_moves_1 : decode cX4_moves 1 = .ok (.iload_n 1, 1) := by decide +kernel
theorem dX4_moves_2 : decode cX4_moves 2 = .ok (.invokevirtual 78, 3) := by decide +kernel
theorem dX4_moves_5 : decode cX4_moves 5 = .ok (.ifCond .eq 10, 3) := by decide +kernel
theorem dX4_moves_8 : decode cX4_moves 8 = .ok (.iload_n 2, 1) := by decide +kernel
theorem dX4_moves_9 : decode cX4_moves 9 = .ok (.invokestatic 117, 3) := by decide +kernel
theorem dX4_moves_12 : decode cX4_moves 12 = .ok (.ifCond .ne 5, 3) := by decide +kernel
theorem dX4_moves_15 : decode cX4_moves 15 = .ok (.iconst (-1), 1) := by decide +kernel
theorem dX4_moves_16 : decode cX4_moves 16 = .ok (.ireturn, 1) := by decide +kernel
theorem dX4_moves_17 : decode cX4_moves 17 = .ok (.aload_n 0, 1) := by decide +kernel
theorem dX4_moves_18 : decode cX4_moves 18 = .ok (.getfield 12, 3) := by decide +kernel
theorem dX4_moves_21 : decode cX4_moves 21 = .ok (.getfield 88, 3) := by decide +kernel
theorem dX4_moves_24 : decode cX4_moves 24 = .ok (.iload_n 1, 1) := by decide +kernel
theorem dX4_moves_25 : decode cX4_moves 25 = .ok (.iaload, 1) := by decide +kernel
theorem dX4_moves_26 : decode cX4_moves 26 = .ok (.istore_n 3, 1) := by decide +kernel
theorem dX4_moves_27 : decode cX4_moves 27 = .ok (.aload_n 0, 1) := by decide +kernel
theorem dX4_moves_28 : decode cX4_moves 28 = .ok (.getfield 12, 3) := by decide +kernel
theorem dX4_moves_31 : decode cX4_moves 31 = .ok (.getfield 88, 3) := by decide +kernel
theorem dX4_moves_34 : decode cX4_moves 34 = .ok (.iload_n 1, 1) := by decide +kernel
theorem dX4_moves_35 : decode cX4_moves 35 = .ok (.iload_n 2, 1) := by decide +kernel
theorem dX4_moves_36 : decode cX4_moves 36 = .ok (.iastore, 1) := by decide +kernel
theorem dX4_moves_37 : decode cX4_moves 37 = .ok (.iload_n 3, 1) := by decide +kernel
theorem dX4_moves_38 : decode cX4_moves 38 = .ok (.ireturn, 1) := by decide +kernel
theorem dX4_flood_0 : decode cX4_flood 0 = .ok (.aload_n 0, 1) := by decide +kernel
theorem dX4_flood_1 : decode cX4_flood 1 = .ok (.getfield 12, 3) := by decide +kernel
theorem dX4_flood_4 : decode cX4_flood 4 = .ok (.invokevirtual 163, 3) := by decide +kernel
theorem dX4_flood_7 : decode cX4_flood 7 = .ok (.istore_n 1, 1) := by decide +kernel
theorem dX4_flood_8 : decode cX4_flood 8 = .ok (.aload_n 0, 1) := by decide +kernel
theorem dX4_flood_9 : decode cX4_flood 9 = .ok (.getfield 12, 3) := by decide +kernel
theorem dX4_flood_12 : decode cX4_flood 12 = .ok (.invokevirtual 167, 3) := by decide +kernel
theorem dX4_flood_15 : decode cX4_flood 15 = .ok (.iload_n 1, 1) := by decide +kernel
theorem dX4_flood_16 : decode cX4_flood 16 = .ok (.ireturn, 1) := by decide +kernel
theorem dX4_days_0 : decode cX4_days 0 = .ok (.iload_n 1, 1) := by decide +kernel
theorem dX4_days_1 : decode cX4_days 1 = .ok (.iconst 1, 1) := by decide +kernel
theorem dX4_days_2 : decode cX4_days 2 = .ok (.bipush 60, 2) := by decide +kernel
theorem dX4_days_4 : decode cX4_days 4 = .ok (.invokestatic 129, 3) := by decide +kernel
theorem dX4_days_7 : decode cX4_days 7 = .ok (.ifCond .ne 5, 3) := by decide +kernel
theorem dX4_days_10 : decode cX4_days 10 = .ok (.iconst (-1), 1) := by decide +kernel
theorem dX4_days_11 : decode cX4_days 11 = .ok (.ireturn, 1) := by decide +kernel
theorem dX4_days_12 : decode cX4_days 12 = .ok (.aload_n 0, 1) := by decide +kernel
theorem dX4_days_13 : decode cX4_days 13 = .ok (.getfield 12, 3) := by decide +kernel
theorem dX4_days_16 : decode cX4_days 16 = .ok (.getfield 108, 3) := by decide +kernel
theorem dX4_days_19 : decode cX4_days 19 = .ok (.iload_n 1, 1) := by decide +kernel
theorem dX4_days_20 : decode cX4_days 20 = .ok (.iadd, 1) := by decide +kernel
theorem dX4_days_21 : decode cX4_days 21 = .ok (.sipush 999, 3) := by decide +kernel
theorem dX4_days_24 : decode cX4_days 24 = .ok (.if_icmp .le 6, 3) := by decide +kernel
theorem dX4_days_27 : decode cX4_days 27 = .ok (.bipush (-3), 2) := by decide +kernel
theorem dX4_days_29 : decode cX4_days 29 = .ok (.ireturn, 1) := by decide +kernel
theorem dX4_days_30 : decode cX4_days 30 = .ok (.aload_n 0, 1) := by decide +kernel
theorem dX4_days_31 : decode cX4_days 31 = .ok (.getfield 12, 3) := by decide +kernel
theorem dX4_days_34 : decode cX4_days 34 = .ok (.iload_n 1, 1) := by decide +kernel
theorem dX4_days_35 : decode cX4_days 35 = .ok (.invokevirtual 170, 3) := by decide +kernel
theorem dX4_days_38 : decode cX4_days 38 = .ok (.aload_n 0, 1) := by decide +kernel
theorem dX4_days_39 : decode cX4_days 39 = .ok (.getfield 12, 3) := by decide +kernel
theorem dX4_days_42 : decode cX4_days 42 = .ok (.invokevirtual 163, 3) := by decide +kernel
theorem dX4_days_45 : decode cX4_days 45 = .ok (.ireturn, 1) := by decide +kernel
theorem dX4_corporalThen_0 : decode cX4_corporalThen 0 = .ok (.aload_n 0, 1) := by decide +kernel
theorem dX4_corporalThen_1 : decode cX4_corporalThen 1 = .ok (.iload_n 1, 1) := by decide +kernel
theorem dX4_corporalThen_2 : decode cX4_corporalThen 2 = .ok (.invokevirtual 78, 3) := by decide +kernel
theorem dX4_corporalThen_5 : decode cX4_corporalThen 5 = .ok (.ifCond .eq 19, 3) := by decide +kernel
theorem dX4_corporalThen_8 : decode cX4_corporalThen 8 = .ok (.iload_n 2, 1) := by decide +kernel
theorem dX4_corporalThen_9 : decode cX4_corporalThen 9 = .ok (.invokestatic 173, 3) := by decide +kernel
theorem dX4_corporalThen_12 : decode cX4_corporalThen 12 = .ok (.ifCond .eq 12, 3) := by decide +kernel
theorem dX4_corporalThen_15 : decode cX4_corporalThen 15 = .ok (.iload_n 3, 1) := by decide +kernel
theorem dX4_corporalThen_16 : decode cX4_corporalThen 16 = .ok (.iconst 0, 1) := by decide +kernel
theorem dX4_corporalThen_17 : decode cX4_corporalThen 17 = .ok (.iconst 1, 1) := by decide +kernel
theorem dX4_corporalThen_18 : decode cX4_corporalThen 18 = .ok (.invokestatic 129, 3) := by decide +kernel
theorem dX4_corporalThen_21 : decode cX4_corporalThen 21 = .ok (.ifCond .ne 5, 3) := by decide +kernel
theorem dX4_corporalThen_24 : decode cX4_corporalThen 24 = .ok (.iconst (-1), 1) := by decide +kernel
theorem dX4_corporalThen_25 : decode cX4_corporalThen 25 = .ok (.ireturn, 1) := by decide +kernel
theorem dX4_corporalThen_26 : decode cX4_corporalThen 26 = .ok (.aload_n 0, 1) := by decide +kernel
theorem dX4_corporalThen_27 : decode cX4_corporalThen 27 = .ok (.iload_n 2, 1) := by decide +kernel
theorem dX4_corporalThen_28 : decode cX4_corporalThen 28 = .ok (.invokevirtual 176, 3) := by decide +kernel
theorem dX4_corporalThen_31 : decode cX4_corporalThen 31 = .ok (.iload_n 3, 1) := by decide +kernel
theorem dX4_corporalThen_32 : decode cX4_corporalThen 32 = .ok (.ifCond .ne 15, 3) := by decide +kernel
theorem dX4_corporalThen_35 : decode cX4_corporalThen 35 = .ok (.aload_n 0, 1) := by decide +kernel
theorem dX4_corporalThen_36 : decode cX4_corporalThen 36 = .ok (.getfield 16, 3) := by decide +kernel
theorem dX4_corporalThen_39 : decode cX4_corporalThen 39 = .ok (.getfield 88, 3) := by decide +kernel
theorem dX4_corporalThen_42 : decode cX4_corporalThen 42 = .ok (.iload_n 1, 1) := by decide +kernel
theorem dX4_corporalThen_43 : decode cX4_corporalThen 43 = .ok (.iaload, 1) := by decide +kernel
theorem dX4_corporalThen_44 : decode cX4_corporalThen 44 = .ok (.goto 12, 3) := by decide +kernel
theorem dX4_corporalThen_47 : decode cX4_corporalThen 47 = .ok (.aload_n 0, 1) := by decide +kernel
theorem dX4_corporalThen_48 : decode cX4_corporalThen 48 = .ok (.getfield 16, 3) := by decide +kernel
theorem dX4_corporalThen_51 : decode cX4_corporalThen 51 = .ok (.getfield 94, 3) := by decide +kernel
theorem dX4_corporalThen_54 : decode cX4_corporalThen 54 = .ok (.iload_n 1, 1) := by decide +kernel
theorem dX4_corporalThen_55 : decode cX4_corporalThen 55 = .ok (.iaload, 1) := by decide +kernel
theorem dX4_corporalThen_56 : decode cX4_corporalThen 56 = .ok (.ireturn, 1) := by decide +kernel
theorem dX4_dipThen_0 : decode cX4_dipThen 0 = .ok (.iload_n 1, 1) := by decide +kernel
theorem dX4_dipThen_1 : decode cX4_dipThen 1 = .ok (.invokestatic 117, 3) := by decide +kernel
theorem dX4_dipThen_4 : decode cX4_dipThen 4 = .ok (.ifCond .eq 19, 3) := by decide +kernel
theorem dX4_dipThen_7 : decode cX4_dipThen 7 = .ok (.iload_n 2, 1) := by decide +kernel
theorem dX4_dipThen_8 : decode cX4_dipThen 8 = .ok (.invokestatic 173, 3) := by decide +kernel
theorem dX4_dipThen_11 : decode cX4_dipThen 11 = .ok (.ifCond .eq 12, 3) := by decide +kernel
theorem dX4_dipThen_14 : decode cX4_dipThen 14 = .ok (.iload_n 3, 1) := by decide +kernel
theorem dX4_dipThen_15 : decode cX4_dipThen 15 = .ok (.iconst 0, 1) := by decide +kernel
theorem dX4_dipThen_16 : decode cX4_dipThen 16 = .ok (.iconst 1, 1) := by decide +kernel
theorem dX4_dipThen_17 : decode cX4_dipThen 17 = .ok (.invokestatic 129, 3) := by decide +kernel
theorem dX4_dipThen_20 : decode cX4_dipThen 20 = .ok (.ifCond .ne 5, 3) := by decide +kernel
theorem dX4_dipThen_23 : decode cX4_dipThen 23 = .ok (.iconst (-1), 1) := by decide +kernel
theorem dX4_dipThen_24 : decode cX4_dipThen 24 = .ok (.ireturn, 1) := by decide +kernel
theorem dX4_dipThen_25 : decode cX4_dipThen 25 = .ok (.aload_n 0, 1) := by decide +kernel
theorem dX4_dipThen_26 : decode cX4_dipThen 26 = .ok (.iload_n 2, 1) := by decide +kernel
theorem dX4_dipThen_27 : decode cX4_dipThen 27 = .ok (.invokevirtual 176, 3) := by decide +kernel
theorem dX4_dipThen_30 : decode cX4_dipThen 30 = .ok (.iload_n 3, 1) := by decide +kernel
theorem dX4_dipThen_31 : decode cX4_dipThen 31 = .ok (.ifCond .ne 15, 3) := by decide +kernel
theorem dX4_dipThen_34 : decode cX4_dipThen 34 = .ok (.aload_n 0, 1) := by decide +kernel
theorem dX4_dipThen_35 : decode cX4_dipThen 35 = .ok (.getfield 16, 3) := by decide +kernel
theorem dX4_dipThen_38 : decode cX4_dipThen 38 = .ok (.getfield 120, 3) := by decide +kernel
theorem dX4_dipThen_41 : decode cX4_dipThen 41 = .ok (.iload_n 1, 1) := by decide +kernel
theorem dX4_dipThen_42 : decode cX4_dipThen 42 = .ok (.iaload, 1) := by decide +kernel
theorem dX4_dipThen_43 : decode cX4_dipThen 43 = .ok (.goto 12, 3) := by decide +kernel
theorem dX4_dipThen_46 : decode cX4_dipThen 46 = .ok (.aload_n 0, 1) := by decide +kernel
theorem dX4_dipThen_47 : decode cX4_dipThen 47 = .ok (.getfield 16, 3) := by decide +kernel
theorem dX4_dipThen_50 : decode cX4_dipThen 50 = .ok (.getfield 123, 3) := by decide +kernel
theorem dX4_dipThen_53 : decode cX4_dipThen 53 = .ok (.iload_n 1, 1) := by decide +kernel
theorem dX4_dipThen_54 : decode cX4_dipThen 54 = .ok (.iaload, 1) := by decide +kernel
theorem dX4_dipThen_55 : decode cX4_dipThen 55 = .ok (.ireturn, 1) := by decide +kernel
theorem dX4_dipsDone_0 : decode cX4_dipsDone 0 = .ok (.iload_n 1, 1) := by decide +kernel
theorem dX4_dipsDone_1 : decode cX4_dipsDone 1 = .ok (.invokestatic 173, 3) := by decide +kernel
theorem dX4_dipsDone_4 : decode cX4_dipsDone 4 = .ok (.ifCond .ne 5, 3) := by decide +kernel
theorem dX4_dipsDone_7 : decode cX4_dipsDone 7 = .ok (.iconst (-1), 1) := by decide +kernel
theorem dX4_dipsDone_8 : decode cX4_dipsDone 8 = .ok (.ireturn, 1) := by decide +kernel
theorem dX4_dipsDone_9 : decode cX4_dipsDone 9 = .ok (.aload_n 0, 1) := by decide +kernel
theorem dX4_dipsDone_10 : decode cX4_dipsDone 10 = .ok (.iload_n 1, 1) := by decide +kernel
theorem dX4_dipsDone_11 : decode cX4_dipsDone 11 = .ok (.invokevirtual 176, 3) := by decide +kernel
theorem dX4_dipsDone_14 : decode cX4_dipsDone 14 = .ok (.aload_n 0, 1) := by decide +kernel
theorem dX4_dipsDone_15 : decode cX4_dipsDone 15 = .ok (.getfield 16, 3) := by decide +kernel
theorem dX4_dipsDone_18 : decode cX4_dipsDone 18 = .ok (.invokevirtual 179, 3) := by decide +kernel
theorem dX4_dipsDone_21 : decode cX4_dipsDone 21 = .ok (.ireturn, 1) := by decide +kernel
theorem dX4_ends_0 : decode cX4_ends 0 = .ok (.iload_n 1, 1) := by decide +kernel
theorem dX4_ends_1 : decode cX4_ends 1 = .ok (.iconst (-1), 1) := by decide +kernel
theorem dX4_ends_2 : decode cX4_ends 2 = .ok (.if_icmp .eq 12, 3) := by decide +kernel
theorem dX4_ends_5 : decode cX4_ends 5 = .ok (.iload_n 1, 1) := by decide +kernel
theorem dX4_ends_6 : decode cX4_ends 6 = .ok (.invokestatic 117, 3) := by decide +kernel
theorem dX4_ends_9 : decode cX4_ends 9 = .ok (.ifCond .ne 5, 3) := by decide +kernel
theorem dX4_ends_12 : decode cX4_ends 12 = .ok (.iconst (-1), 1) := by decide +kernel
theorem dX4_ends_13 : decode cX4_ends 13 = .ok (.ireturn, 1) := by decide +kernel
theorem dX4_ends_14 : decode cX4_ends 14 = .ok (.iload_n 1, 1) := by decide +kernel
theorem dX4_ends_15 : decode cX4_ends 15 = .ok (.iconst (-1), 1) := by decide +kernel
theorem dX4_ends_16 : decode cX4_ends 16 = .ok (.if_icmp .ne 9, 3) := by decide +kernel
theorem dX4_ends_19 : decode cX4_ends 19 = .ok (.sipush 1023, 3) := by decide +kernel
theorem dX4_ends_22 : decode cX4_ends 22 = .ok (.goto 6, 3) := by decide +kernel
theorem dX4_ends_25 : decode cX4_ends 25 = .ok (.iconst 1, 1) := by decide +kernel
theorem dX4_ends_26 : decode cX4_ends 26 = .ok (.iload_n 1, 1) := by decide +kernel
theorem dX4_ends_27 : decode cX4_ends 27 = .ok (.ishl, 1) := by decide +kernel
theorem dX4_ends_28 : decode cX4_ends 28 = .ok (.istore_n 2, 1) := by decide +kernel
theorem dX4_ends_29 : decode cX4_ends 29 = .ok (.aload_n 0, 1) := by decide +kernel
theorem dX4_ends_30 : decode cX4_ends 30 = .ok (.getfield 16, 3) := by decide +kernel
theorem dX4_ends_33 : decode cX4_ends 33 = .ok (.aload_n 0, 1) := by decide +kernel
theorem dX4_ends_34 : decode cX4_ends 34 = .ok (.getfield 12, 3) := by decide +kernel
theorem dX4_ends_37 : decode cX4_ends 37 = .ok (.invokevirtual 57, 3) := by decide +kernel
theorem dX4_ends_40 : decode cX4_ends 40 = .ok (.iconst 0, 1) := by decide +kernel
theorem dX4_ends_41 : decode cX4_ends 41 = .ok (.istore_n 3, 1) := by decide +kernel
theorem dX4_ends_42 : decode cX4_ends 42 = .ok (.iload_n 3, 1) := by decide +kernel
theorem dX4_ends_43 : decode cX4_ends 43 = .ok (.bipush 60, 2) := by decide +kernel
theorem dX4_ends_45 : decode cX4_ends 45 = .ok (.if_icmp .gt 31, 3) := by decide +kernel
theorem dX4_ends_48 : decode cX4_ends 48 = .ok (.aload_n 0, 1) := by decide +kernel
theorem dX4_ends_49 : decode cX4_ends 49 = .ok (.getfield 16, 3) := by decide +kernel
theorem dX4_ends_52 : decode cX4_ends 52 = .ok (.invokevirtual 179, 3) := by decide +kernel
theorem dX4_ends_55 : decode cX4_ends 55 = .ok (.iload_n 2, 1) := by decide +kernel
theorem dX4_ends_56 : decode cX4_ends 56 = .ok (.iand, 1) := by decide +kernel
theorem dX4_ends_57 : decode cX4_ends 57 = .ok (.iload_n 2, 1) := by decide +kernel
theorem dX4_ends_58 : decode cX4_ends 58 = .ok (.if_icmp .ne 5, 3) := by decide +kernel
theorem dX4_ends_61 : decode cX4_ends 61 = .ok (.iload_n 3, 1) := by decide +kernel
theorem dX4_ends_62 : decode cX4_ends 62 = .ok (.ireturn, 1) := by decide +kernel
theorem dX4_ends_63 : decode cX4_ends 63 = .ok (.aload_n 0, 1) := by decide +kernel
theorem dX4_ends_64 : decode cX4_ends 64 = .ok (.getfield 16, 3) := by decide +kernel
theorem dX4_ends_67 : decode cX4_ends 67 = .ok (.invokevirtual 182, 3) := by decide +kernel
theorem dX4_ends_70 : decode cX4_ends 70 = .ok (.iinc 3 1, 3) := by decide +kernel
theorem dX4_ends_73 : decode cX4_ends 73 = .ok (.goto (-31), 3) := by decide +kernel
theorem dX4_ends_76 : decode cX4_ends 76 = .ok (.bipush (-4), 2) := by decide +kernel
theorem dX4_ends_78 : decode cX4_ends 78 = .ok (.ireturn, 1) := by decide +kernel
theorem dX4_meet_0 : decode cX4_meet 0 = .ok (.aload_n 0, 1) := by decide +kernel
theorem dX4_meet_1 : decode cX4_meet 1 = .ok (.iload_n 1, 1) := by decide +kernel
theorem dX4_meet_2 : decode cX4_meet 2 = .ok (.invokevirtual 78, 3) := by decide +kernel
theorem dX4_meet_5 : decode cX4_meet 5 = .ok (.ifCond .eq 16, 3) := by decide +kernel
theorem dX4_meet_8 : decode cX4_meet 8 = .ok (.aload_n 0, 1) := by decide +kernel
theorem dX4_meet_9 : decode cX4_meet 9 = .ok (.iload_n 2, 1) := by decide +kernel
theorem dX4_meet_10 : decode cX4_meet 10 = .ok (.invokevirtual 78, 3) := by decide +kernel
theorem dX4_meet_13 : decode cX4_meet 13 = .ok (.ifCond .eq 8, 3) := by decide +kernel
theorem dX4_meet_16 : decode cX4_meet 16 = .ok (.iload_n 1, 1) := by decide +kernel
theorem dX4_meet_17 : decode cX4_meet 17 = .ok (.iload_n 2, 1) := by decide +kernel
theorem dX4_meet_18 : decode cX4_meet 18 = .ok (.if_icmp .ne 5, 3) := by decide +kernel
theorem dX4_meet_21 : decode cX4_meet 21 = .ok (.iconst (-1), 1) := by decide +kernel
theorem dX4_meet_22 : decode cX4_meet 22 = .ok (.ireturn, 1) := by decide +kernel
theorem dX4_meet_23 : decode cX4_meet 23 = .ok (.aload_n 0, 1) := by decide +kernel
theorem dX4_meet_24 : decode cX4_meet 24 = .ok (.getfield 16, 3) := by decide +kernel
theorem dX4_meet_27 : decode cX4_meet 27 = .ok (.aload_n 0, 1) := by decide +kernel
theorem dX4_meet_28 : decode cX4_meet 28 = .ok (.getfield 12, 3) := by decide +kernel
theorem dX4_meet_31 : decode cX4_meet 31 = .ok (.invokevirtual 57, 3) := by decide +kernel
theorem dX4_meet_34 : decode cX4_meet 34 = .ok (.iconst 0, 1) := by decide +kernel
theorem dX4_meet_35 : decode cX4_meet 35 = .ok (.istore_n 3, 1) := by decide +kernel
theorem dX4_meet_36 : decode cX4_meet 36 = .ok (.iload_n 3, 1) := by decide +kernel
theorem dX4_meet_37 : decode cX4_meet 37 = .ok (.bipush 60, 2) := by decide +kernel
theorem dX4_meet_39 : decode cX4_meet 39 = .ok (.if_icmp .gt 44, 3) := by decide +kernel
theorem dX4_meet_42 : decode cX4_meet 42 = .ok (.aload_n 0, 1) := by decide +kernel
theorem dX4_meet_43 : decode cX4_meet 43 = .ok (.getfield 16, 3) := by decide +kernel
theorem dX4_meet_46 : decode cX4_meet 46 = .ok (.getfield 88, 3) := by decide +kernel
theorem dX4_meet_49 : decode cX4_meet 49 = .ok (.iload_n 1, 1) := by decide +kernel
theorem dX4_meet_50 : decode cX4_meet 50 = .ok (.iaload, 1) := by decide +kernel
theorem dX4_meet_51 : decode cX4_meet 51 = .ok (.aload_n 0, 1) := by decide +kernel
theorem dX4_meet_52 : decode cX4_meet 52 = .ok (.getfield 16, 3) := by decide +kernel
theorem dX4_meet_55 : decode cX4_meet 55 = .ok (.getfield 88, 3) := by decide +kernel
theorem dX4_meet_58 : decode cX4_meet 58 = .ok (.iload_n 2, 1) := by decide +kernel
theorem dX4_meet_59 : decode cX4_meet 59 = .ok (.iaload, 1) := by decide +kernel
theorem dX4_meet_60 : decode cX4_meet 60 = .ok (.isub, 1) := by decide +kernel
theorem dX4_meet_61 : decode cX4_meet 61 = .ok (.invokestatic 185, 3) := by decide +kernel
theorem dX4_meet_64 : decode cX4_meet 64 = .ok (.iconst 1, 1) := by decide +kernel
theorem dX4_meet_65 : decode cX4_meet 65 = .ok (.if_icmp .gt 5, 3) := by decide +kernel
theorem dX4_meet_68 : decode cX4_meet 68 = .ok (.iload_n 3, 1) := by decide +kernel
theorem dX4_meet_69 : decode cX4_meet 69 = .ok (.ireturn, 1) := by decide +kernel
theorem dX4_meet_70 : decode cX4_meet 70 = .ok (.aload_n 0, 1) := by decide +kernel
theorem dX4_meet_71 : decode cX4_meet 71 = .ok (.getfield 16, 3) := by decide +kernel
theorem dX4_meet_74 : decode cX4_meet 74 = .ok (.invokevirtual 182, 3) := by decide +kernel
theorem dX4_meet_77 : decode cX4_meet 77 = .ok (.iinc 3 1, 3) := by decide +kernel
theorem dX4_meet_80 : decode cX4_meet 80 = .ok (.goto (-44), 3) := by decide +kernel
theorem dX4_meet_83 : decode cX4_meet 83 = .ok (.bipush (-4), 2) := by decide +kernel
theorem dX4_meet_85 : decode cX4_meet 85 = .ok (.ireturn, 1) := by decide +kernel
theorem dX4_line_0 : decode cX4_line 0 = .ok (.iload_n 1, 1) := by decide +kernel
theorem dX4_line_1 : decode cX4_line 1 = .ok (.invokestatic 173, 3) := by decide +kernel
theorem dX4_line_4 : decode cX4_line 4 = .ok (.ifCond .ne 5, 3) := by decide +kernel
theorem dX4_line_7 : decode cX4_line 7 = .ok (.iconst (-1), 1) := by decide +kernel
theorem dX4_line_8 : decode cX4_line 8 = .ok (.ireturn, 1) := by decide +kernel
theorem dX4_line_9 : decode cX4_line 9 = .ok (.aload_n 0, 1) := by decide +kernel
theorem dX4_line_10 : decode cX4_line 10 = .ok (.iload_n 1, 1) := by decide +kernel
theorem dX4_line_11 : decode cX4_line 11 = .ok (.invokevirtual 176, 3) := by decide +kernel
theorem dX4_line_14 : decode cX4_line 14 = .ok (.iconst 0, 1) := by decide +kernel
theorem dX4_line_15 : decode cX4_line 15 = .ok (.istore_n 2, 1) := by decide +kernel
theorem dX4_line_16 : decode cX4_line 16 = .ok (.bipush 9, 2) := by decide +kernel
theorem dX4_line_18 : decode cX4_line 18 = .ok (.istore_n 3, 1) := by decide +kernel
theorem dX4_line_19 : decode cX4_line 19 = .ok (.iconst 0, 1) := by decide +kernel
theorem dX4_line_20 : decode cX4_line 20 = .ok (.istore 4, 2) := by decide +kernel
theorem dX4_line_22 : decode cX4_line 22 = .ok (.iload 4, 2) := by decide +kernel
theorem dX4_line_24 : decode cX4_line 24 = .ok (.aload_n 0, 1) := by decide +kernel
theorem dX4_line_25 : decode cX4_line 25 = .ok (.getfield 16, 3) := by decide +kernel
theorem dX4_line_28 : decode cX4_line 28 = .ok (.getfield 148, 3) := by decide +kernel
theorem dX4_line_31 : decode cX4_line 31 = .ok (.if_icmp .ge 55, 3) := by decide +kernel
theorem dX4_line_34 : decode cX4_line 34 = .ok (.aload_n 0, 1) := by decide +kernel
theorem dX4_line_35 : decode cX4_line 35 = .ok (.getfield 16, 3) := by decide +kernel
theorem dX4_line_38 : decode cX4_line 38 = .ok (.getfield 91, 3) := by decide +kernel
theorem dX4_line_41 : decode cX4_line 41 = .ok (.iload 4, 2) := by decide +kernel
theorem dX4_line_43 : decode cX4_line 43 = .ok (.iaload, 1) := by decide +kernel
theorem dX4_line_44 : decode cX4_line 44 = .ok (.ifCond .ne 21, 3) := by decide +kernel
theorem dX4_line_47 : decode cX4_line 47 = .ok (.iload_n 2, 1) := by decide +kernel
theorem dX4_line_48 : decode cX4_line 48 = .ok (.aload_n 0, 1) := by decide +kernel
theorem dX4_line_49 : decode cX4_line 49 = .ok (.getfield 16, 3) := by decide +kernel
theorem dX4_line_52 : decode cX4_line 52 = .ok (.getfield 88, 3) := by decide +kernel
theorem dX4_line_55 : decode cX4_line 55 = .ok (.iload 4, 2) := by decide +kernel
theorem dX4_line_57 : decode cX4_line 57 = .ok (.iaload, 1) := by decide +kernel
theorem dX4_line_58 : decode cX4_line 58 = .ok (.invokestatic 72, 3) := by decide +kernel
theorem dX4_line_61 : decode cX4_line 61 = .ok (.istore_n 2, 1) := by decide +kernel
theorem dX4_line_62 : decode cX4_line 62 = .ok (.goto 18, 3) := by decide +kernel
theorem dX4_line_65 : decode cX4_line 65 = .ok (.iload_n 3, 1) := by decide +kernel
theorem dX4_line_66 : decode cX4_line 66 = .ok (.aload_n 0, 1) := by decide +kernel
theorem dX4_line_67 : decode cX4_line 67 = .ok (.getfield 16, 3) := by decide +kernel
theorem dX4_line_70 : decode cX4_line 70 = .ok (.getfield 88, 3) := by decide +kernel
theorem dX4_line_73 : decode cX4_line 73 = .ok (.iload 4, 2) := by decide +kernel
theorem dX4_line_75 : decode cX4_line 75 = .ok (.iaload, 1) := by decide +kernel
theorem dX4_line_76 : decode cX4_line 76 = .ok (.invokestatic 188, 3) := by decide +kernel
theorem dX4_line_79 : decode cX4_line 79 = .ok (.istore_n 3, 1) := by decide +kernel
theorem dX4_line_80 : decode cX4_line 80 = .ok (.iinc 4 1, 3) := by decide +kernel
theorem dX4_line_83 : decode cX4_line 83 = .ok (.goto (-61), 3) := by decide +kernel
theorem dX4_line_86 : decode cX4_line 86 = .ok (.bipush 10, 2) := by decide +kernel
theorem dX4_line_88 : decode cX4_line 88 = .ok (.iload_n 2, 1) := by decide +kernel
theorem dX4_line_89 : decode cX4_line 89 = .ok (.imul, 1) := by decide +kernel
theorem dX4_line_90 : decode cX4_line 90 = .ok (.iload_n 3, 1) := by decide +kernel
theorem dX4_line_91 : decode cX4_line 91 = .ok (.iadd, 1) := by decide +kernel
theorem dX4_line_92 : decode cX4_line 92 = .ok (.ireturn, 1) := by decide +kernel
theorem dX4_treaty_0 : decode cX4_treaty 0 = .ok (.iload_n 1, 1) := by decide +kernel
theorem dX4_treaty_1 : decode cX4_treaty 1 = .ok (.invokestatic 173, 3) := by decide +kernel
theorem dX4_treaty_4 : decode cX4_treaty 4 = .ok (.ifCond .ne 6, 3) := by decide +kernel
theorem dX4_treaty_7 : decode cX4_treaty 7 = .ok (.ldc 155, 2) := by decide +kernel
theorem dX4_treaty_9 : decode cX4_treaty 9 = .ok (.ireturn, 1) := by decide +kernel
theorem dX4_treaty_10 : decode cX4_treaty 10 = .ok (.aload_n 0, 1) := by decide +kernel
theorem dX4_treaty_11 : decode cX4_treaty 11 = .ok (.iload_n 1, 1) := by decide +kernel
theorem dX4_treaty_12 : decode cX4_treaty 12 = .ok (.invokevirtual 176, 3) := by decide +kernel
theorem dX4_treaty_15 : decode cX4_treaty 15 = .ok (.iconst 0, 1) := by decide +kernel
theorem dX4_treaty_16 : decode cX4_treaty 16 = .ok (.istore_n 2, 1) := by decide +kernel
theorem dX4_treaty_17 : decode cX4_treaty 17 = .ok (.iconst 0, 1) := by decide +kernel
theorem dX4_treaty_18 : decode cX4_treaty 18 = .ok (.istore_n 3, 1) := by decide +kernel
theorem dX4_treaty_19 : decode cX4_treaty 19 = .ok (.iload_n 3, 1) := by decide +kernel
theorem dX4_treaty_20 : decode cX4_treaty 20 = .ok (.aload_n 0, 1) := by decide +kernel
theorem dX4_treaty_21 : decode cX4_treaty 21 = .ok (.getfield 16, 3) := by decide +kernel
theorem dX4_treaty_24 : decode cX4_treaty 24 = .ok (.getfield 148, 3) := by decide +kernel
theorem dX4_treaty_27 : decode cX4_treaty 27 = .ok (.if_icmp .ge 46, 3) := by decide +kernel
theorem dX4_treaty_30 : decode cX4_treaty 30 = .ok (.iload_n 2, 1) := by decide +kernel
theorem dX4_treaty_31 : decode cX4_treaty 31 = .ok (.aload_n 0, 1) := by decide +kernel
theorem dX4_treaty_32 : decode cX4_treaty 32 = .ok (.getfield 16, 3) := by decide +kernel
theorem dX4_treaty_35 : decode cX4_treaty 35 = .ok (.getfield 91, 3) := by decide +kernel
theorem dX4_treaty_38 : decode cX4_treaty 38 = .ok (.iload_n 3, 1) := by decide +kernel
theorem dX4_treaty_39 : decode cX4_treaty 39 = .ok (.iaload, 1) := by decide +kernel
theorem dX4_treaty_40 : decode cX4_treaty 40 = .ok (.ifCond .ne 15, 3) := by decide +kernel
theorem dX4_treaty_43 : decode cX4_treaty 43 = .ok (.aload_n 0, 1) := by decide +kernel
theorem dX4_treaty_44 : decode cX4_treaty 44 = .ok (.getfield 16, 3) := by decide +kernel
theorem dX4_treaty_47 : decode cX4_treaty 47 = .ok (.getfield 94, 3) := by decide +kernel
theorem dX4_treaty_50 : decode cX4_treaty 50 = .ok (.iload_n 3, 1) := by decide +kernel
theorem dX4_treaty_51 : decode cX4_treaty 51 = .ok (.iaload, 1) := by decide +kernel
theorem dX4_treaty_52 : decode cX4_treaty 52 = .ok (.goto 13, 3) := by decide +kernel
theorem dX4_treaty_55 : decode cX4_treaty 55 = .ok (.aload_n 0, 1) := by decide +kernel
theorem dX4_treaty_56 : decode cX4_treaty 56 = .ok (.getfield 16, 3) := by decide +kernel
theorem dX4_treaty_59 : decode cX4_treaty 59 = .ok (.getfield 94, 3) := by decide +kernel
theorem dX4_treaty_62 : decode cX4_treaty 62 = .ok (.iload_n 3, 1) := by decide +kernel
theorem dX4_treaty_63 : decode cX4_treaty 63 = .ok (.iaload, 1) := by decide +kernel
theorem dX4_treaty_64 : decode cX4_treaty 64 = .ok (.ineg, 1) := by decide +kernel
theorem dX4_treaty_65 : decode cX4_treaty 65 = .ok (.iadd, 1) := by decide +kernel
theorem dX4_treaty_66 : decode cX4_treaty 66 = .ok (.istore_n 2, 1) := by decide +kernel
theorem dX4_treaty_67 : decode cX4_treaty 67 = .ok (.iinc 3 1, 3) := by decide +kernel
theorem dX4_treaty_70 : decode cX4_treaty 70 = .ok (.goto (-51), 3) := by decide +kernel
theorem dX4_treaty_73 : decode cX4_treaty 73 = .ok (.iload_n 2, 1) := by decide +kernel
theorem dX4_treaty_74 : decode cX4_treaty 74 = .ok (.ireturn, 1) := by decide +kernel
theorem dX4_bestWind_0 : decode cX4_bestWind 0 = .ok (.iload_n 1, 1) := by decide +kernel
theorem dX4_bestWind_1 : decode cX4_bestWind 1 = .ok (.invokestatic 173, 3) := by decide +kernel
theorem dX4_bestWind_4 : decode cX4_bestWind 4 = .ok (.ifCond .eq 12, 3) := by decide +kernel
theorem dX4_bestWind_7 : decode cX4_bestWind 7 = .ok (.iload_n 2, 1) := by decide +kernel
theorem dX4_bestWind_8 : decode cX4_bestWind 8 = .ok (.iconst 0, 1) := by decide +kernel
theorem dX4_bestWind_9 : decode cX4_bestWind 9 = .ok (.iconst 1, 1) := by decide +kernel
theorem dX4_bestWind_10 : decode cX4_bestWind 10 = .ok (.invokestatic 129, 3) := by decide +kernel
theorem dX4_bestWind_13 : decode cX4_bestWind 13 = .ok (.ifCond .ne 6, 3) := by decide +kernel
theorem dX4_bestWind_16 : decode cX4_bestWind 16 = .ok (.ldc 155, 2) := by decide +kernel
theorem dX4_bestWind_18 : decode cX4_bestWind 18 = .ok (.ireturn, 1) := by decide +kernel
theorem dX4_bestWind_19 : decode cX4_bestWind 19 = .ok (.bipush (-9), 2) := by decide +kernel
theorem dX4_bestWind_21 : decode cX4_bestWind 21 = .ok (.istore_n 3, 1) := by decide +kernel
theorem dX4_bestWind_22 : decode cX4_bestWind 22 = .ok (.iconst (-1), 1) := by decide +kernel
theorem dX4_bestWind_23 : decode cX4_bestWind 23 = .ok (.istore 4, 2) := by decide +kernel
theorem dX4_bestWind_25 : decode cX4_bestWind 25 = .ok (.bipush (-9), 2) := by decide +kernel
theorem dX4_bestWind_27 : decode cX4_bestWind 27 = .ok (.istore 5, 2) := by decide +kernel
theorem dX4_bestWind_29 : decode cX4_bestWind 29 = .ok (.iload 5, 2) := by decide +kernel
theorem dX4_bestWind_31 : decode cX4_bestWind 31 = .ok (.bipush 9, 2) := by decide +kernel
theorem dX4_bestWind_33 : decode cX4_bestWind 33 = .ok (.if_icmp .gt 60, 3) := by decide +kernel
theorem dX4_bestWind_36 : decode cX4_bestWind 36 = .ok (.aload_n 0, 1) := by decide +kernel
theorem dX4_bestWind_37 : decode cX4_bestWind 37 = .ok (.getfield 16, 3) := by decide +kernel
theorem dX4_bestWind_40 : decode cX4_bestWind 40 = .ok (.aload_n 0, 1) := by decide +kernel
theorem dX4_bestWind_41 : decode cX4_bestWind 41 = .ok (.getfield 12, 3) := by decide +kernel
theorem dX4_bestWind_44 : decode cX4_bestWind 44 = .ok (.invokevirtual 57, 3) := by decide +kernel
theorem dX4_bestWind_47 : decode cX4_bestWind 47 = .ok (.aload_n 0, 1) := by decide +kernel
theorem dX4_bestWind_48 : decode cX4_bestWind 48 = .ok (.getfield 16, 3) := by decide +kernel
theorem dX4_bestWind_51 : decode cX4_bestWind 51 = .ok (.iload 5, 2) := by decide +kernel
theorem dX4_bestWind_53 : decode cX4_bestWind 53 = .ok (.putfield 156, 3) := by decide +kernel
theorem dX4_bestWind_56 : decode cX4_bestWind 56 = .ok (.aload_n 0, 1) := by decide +kernel
theorem dX4_bestWind_57 : decode cX4_bestWind 57 = .ok (.getfield 16, 3) := by decide +kernel
theorem dX4_bestWind_60 : decode cX4_bestWind 60 = .ok (.iload_n 1, 1) := by decide +kernel
theorem dX4_bestWind_61 : decode cX4_bestWind 61 = .ok (.invokevirtual 170, 3) := by decide +kernel
theorem dX4_bestWind_64 : decode cX4_bestWind 64 = .ok (.aload_n 0, 1) := by decide +kernel
theorem dX4_bestWind_65 : decode cX4_bestWind 65 = .ok (.getfield 16, 3) := by decide +kernel
theorem dX4_bestWind_68 : decode cX4_bestWind 68 = .ok (.invokevirtual 163, 3) := by decide +kernel
theorem dX4_bestWind_71 : decode cX4_bestWind 71 = .ok (.istore 6, 2) := by decide +kernel
theorem dX4_bestWind_73 : decode cX4_bestWind 73 = .ok (.iload 6, 2) := by decide +kernel
theorem dX4_bestWind_75 : decode cX4_bestWind 75 = .ok (.iload 4, 2) := by decide +kernel
theorem dX4_bestWind_77 : decode cX4_bestWind 77 = .ok (.if_icmp .le 10, 3) := by decide +kernel
theorem dX4_bestWind_80 : decode cX4_bestWind 80 = .ok (.iload 6, 2) := by decide +kernel
theorem dX4_bestWind_82 : decode cX4_bestWind 82 = .ok (.istore 4, 2) := by decide +kernel
theorem dX4_bestWind_84 : decode cX4_bestWind 84 = .ok (.iload 5, 2) := by decide +kernel
theorem dX4_bestWind_86 : decode cX4_bestWind 86 = .ok (.istore_n 3, 1) := by decide +kernel
theorem dX4_bestWind_87 : decode cX4_bestWind 87 = .ok (.iinc 5 1, 3) := by decide +kernel
theorem dX4_bestWind_90 : decode cX4_bestWind 90 = .ok (.goto (-61), 3) := by decide +kernel
theorem dX4_bestWind_93 : decode cX4_bestWind 93 = .ok (.iload_n 2, 1) := by decide +kernel
theorem dX4_bestWind_94 : decode cX4_bestWind 94 = .ok (.ifCond .ne 7, 3) := by decide +kernel
theorem dX4_bestWind_97 : decode cX4_bestWind 97 = .ok (.iload_n 3, 1) := by decide +kernel
theorem dX4_bestWind_98 : decode cX4_bestWind 98 = .ok (.goto 5, 3) := by decide +kernel
theorem dX4_bestWind_101 : decode cX4_bestWind 101 = .ok (.iload 4, 2) := by decide +kernel
theorem dX4_bestWind_103 : decode cX4_bestWind 103 = .ok (.ireturn, 1) := by decide +kernel
theorem dX4_send_0 : decode cX4_send 0 = .ok (.aload_n 0, 1) := by decide +kernel
theorem dX4_send_1 : decode cX4_send 1 = .ok (.iload_n 1, 1) := by decide +kernel
theorem dX4_send_2 : decode cX4_send 2 = .ok (.invokevirtual 78, 3) := by decide +kernel
theorem dX4_send_5 : decode cX4_send 5 = .ok (.ifCond .eq 19, 3) := by decide +kernel
theorem dX4_send_8 : decode cX4_send 8 = .ok (.iload_n 2, 1) := by decide +kernel
theorem dX4_send_9 : decode cX4_send 9 = .ok (.invokestatic 173, 3) := by decide +kernel
theorem dX4_send_12 : decode cX4_send 12 = .ok (.ifCond .eq 12, 3) := by decide +kernel
theorem dX4_send_15 : decode cX4_send 15 = .ok (.iload_n 3, 1) := by decide +kernel
theorem dX4_send_16 : decode cX4_send 16 = .ok (.iconst 0, 1) := by decide +kernel
theorem dX4_send_17 : decode cX4_send 17 = .ok (.iconst 1, 1) := by decide +kernel
theorem dX4_send_18 : decode cX4_send 18 = .ok (.invokestatic 129, 3) := by decide +kernel
theorem dX4_send_21 : decode cX4_send 21 = .ok (.ifCond .ne 5, 3) := by decide +kernel
theorem dX4_send_24 : decode cX4_send 24 = .ok (.iconst (-1), 1) := by decide +kernel
theorem dX4_send_25 : decode cX4_send 25 = .ok (.ireturn, 1) := by decide +kernel
theorem dX4_send_26 : decode cX4_send 26 = .ok (.iconst 0, 1) := by decide +kernel
theorem dX4_send_27 : decode cX4_send 27 = .ok (.istore 4, 2) := by decide +kernel
theorem dX4_send_29 : decode cX4_send 29 = .ok (.iconst (-1), 1) := by decide +kernel
theorem dX4_send_30 : decode cX4_send 30 = .ok (.istore 5, 2) := by decide +kernel
theorem dX4_send_32 : decode cX4_send 32 = .ok (.iconst 0, 1) := by decide +kernel
theorem dX4_send_33 : decode cX4_send 33 = .ok (.istore 6, 2) := by decide +kernel
theorem dX4_send_35 : decode cX4_send 35 = .ok (.iload 6, 2) := by decide +kernel
theorem dX4_send_37 : decode cX4_send 37 = .ok (.bipush 10, 2) := by decide +kernel
theorem dX4_send_39 : decode cX4_send 39 = .ok (.if_icmp .ge 66, 3) := by decide +kernel
theorem dX4_send_42 : decode cX4_send 42 = .ok (.aload_n 0, 1) := by decide +kernel
theorem dX4_send_43 : decode cX4_send 43 = .ok (.getfield 16, 3) := by decide +kernel
theorem dX4_send_46 : decode cX4_send 46 = .ok (.aload_n 0, 1) := by decide +kernel
theorem dX4_send_47 : decode cX4_send 47 = .ok (.getfield 12, 3) := by decide +kernel
theorem dX4_send_50 : decode cX4_send 50 = .ok (.invokevirtual 57, 3) := by decide +kernel
theorem dX4_send_53 : decode cX4_send 53 = .ok (.aload_n 0, 1) := by decide +kernel
theorem dX4_send_54 : decode cX4_send 54 = .ok (.getfield 16, 3) := by decide +kernel
theorem dX4_send_57 : decode cX4_send 57 = .ok (.getfield 88, 3) := by decide +kernel
theorem dX4_send_60 : decode cX4_send 60 = .ok (.iload_n 1, 1) := by decide +kernel
theorem dX4_send_61 : decode cX4_send 61 = .ok (.iload 6, 2) := by decide +kernel
theorem dX4_send_63 : decode cX4_send 63 = .ok (.iastore, 1) := by decide +kernel
theorem dX4_send_64 : decode cX4_send 64 = .ok (.aload_n 0, 1) := by decide +kernel
theorem dX4_send_65 : decode cX4_send 65 = .ok (.getfield 16, 3) := by decide +kernel
theorem dX4_send_68 : decode cX4_send 68 = .ok (.iload_n 2, 1) := by decide +kernel
theorem dX4_send_69 : decode cX4_send 69 = .ok (.invokevirtual 170, 3) := by decide +kernel
theorem dX4_send_72 : decode cX4_send 72 = .ok (.aload_n 0, 1) := by decide +kernel
theorem dX4_send_73 : decode cX4_send 73 = .ok (.getfield 16, 3) := by decide +kernel
theorem dX4_send_76 : decode cX4_send 76 = .ok (.invokevirtual 179, 3) := by decide +kernel
theorem dX4_send_79 : decode cX4_send 79 = .ok (.invokestatic 191, 3) := by decide +kernel
theorem dX4_send_82 : decode cX4_send 82 = .ok (.istore 7, 2) := by decide +kernel
theorem dX4_send_84 : decode cX4_send 84 = .ok (.iload 7, 2) := by decide +kernel
theorem dX4_send_86 : decode cX4_send 86 = .ok (.iload 5, 2) := by decide +kernel
theorem dX4_send_88 : decode cX4_send 88 = .ok (.if_icmp .le 11, 3) := by decide +kernel
theorem dX4_send_91 : decode cX4_send 91 = .ok (.iload 7, 2) := by decide +kernel
theorem dX4_send_93 : decode cX4_send 93 = .ok (.istore 5, 2) := by decide +kernel
theorem dX4_send_95 : decode cX4_send 95 = .ok (.iload 6, 2) := by decide +kernel
theorem dX4_send_97 : decode cX4_send 97 = .ok (.istore 4, 2) := by decide +kernel
theorem dX4_send_99 : decode cX4_send 99 = .ok (.iinc 6 1, 3) := by decide +kernel
theorem dX4_send_102 : decode cX4_send 102 = .ok (.goto (-67), 3) := by decide +kernel
theorem dX4_send_105 : decode cX4_send 105 = .ok (.iload_n 3, 1) := by decide +kernel
theorem dX4_send_106 : decode cX4_send 106 = .ok (.ifCond .ne 8, 3) := by decide +kernel
theorem dX4_send_109 : decode cX4_send 109 = .ok (.iload 4, 2) := by decide +kernel
theorem dX4_send_111 : decode cX4_send 111 = .ok (.goto 5, 3) := by decide +kernel
theorem dX4_send_114 : decode cX4_send 114 = .ok (.iload 5, 2) := by decide +kernel
theorem dX4_send_116 : decode cX4_send 116 = .ok (.ireturn, 1) := by decide +kernel
theorem dX4_idle_0 : decode cX4_idle 0 = .ok (.iload_n 1, 1) := by decide +kernel
theorem dX4_idle_1 : decode cX4_idle 1 = .ok (.invokestatic 173, 3) := by decide +kernel
theorem dX4_idle_4 : decode cX4_idle 4 = .ok (.ifCond .ne 5, 3) := by decide +kernel
theorem dX4_idle_7 : decode cX4_idle 7 = .ok (.iconst (-1), 1) := by decide +kernel
theorem dX4_idle_8 : decode cX4_idle 8 = .ok (.ireturn, 1) := by decide +kernel
theorem dX4_idle_9 : decode cX4_idle 9 = .ok (.aload_n 0, 1) := by decide +kernel
theorem dX4_idle_10 : decode cX4_idle 10 = .ok (.iload_n 1, 1) := by decide +kernel
theorem dX4_idle_11 : decode cX4_idle 11 = .ok (.invokevirtual 176, 3) := by decide +kernel
theorem dX4_idle_14 : decode cX4_idle 14 = .ok (.aload_n 0, 1) := by decide +kernel
theorem dX4_idle_15 : decode cX4_idle 15 = .ok (.getfield 16, 3) := by decide +kernel
theorem dX4_idle_18 : decode cX4_idle 18 = .ok (.invokevirtual 163, 3) := by decide +kernel
theorem dX4_idle_21 : decode cX4_idle 21 = .ok (.istore_n 2, 1) := by decide +kernel
theorem dX4_idle_22 : decode cX4_idle 22 = .ok (.iconst 0, 1) := by decide +kernel
theorem dX4_idle_23 : decode cX4_idle 23 = .ok (.istore_n 3, 1) := by decide +kernel
theorem dX4_idle_24 : decode cX4_idle 24 = .ok (.iload_n 3, 1) := by decide +kernel
theorem dX4_idle_25 : decode cX4_idle 25 = .ok (.aload_n 0, 1) := by decide +kernel
theorem dX4_idle_26 : decode cX4_idle 26 = .ok (.getfield 12, 3) := by decide +kernel
theorem dX4_idle_29 : decode cX4_idle 29 = .ok (.getfield 148, 3) := by decide +kernel
theorem dX4_idle_32 : decode cX4_idle 32 = .ok (.if_icmp .ge 56, 3) := by decide +kernel
theorem dX4_idle_35 : decode cX4_idle 35 = .ok (.aload_n 0, 1) := by decide +kernel
theorem dX4_idle_36 : decode cX4_idle 36 = .ok (.getfield 16, 3) := by decide +kernel
theorem dX4_idle_39 : decode cX4_idle 39 = .ok (.aload_n 0, 1) := by decide +kernel
theorem dX4_idle_40 : decode cX4_idle 40 = .ok (.getfield 12, 3) := by decide +kernel
theorem dX4_idle_43 : decode cX4_idle 43 = .ok (.invokevirtual 57, 3) := by decide +kernel
theorem dX4_idle_46 : decode cX4_idle 46 = .ok (.aload_n 0, 1) := by decide +kernel
theorem dX4_idle_47 : decode cX4_idle 47 = .ok (.getfield 16, 3) := by decide +kernel
theorem dX4_idle_50 : decode cX4_idle 50 = .ok (.dup, 1) := by decide +kernel
theorem dX4_idle_51 : decode cX4_idle 51 = .ok (.getfield 97, 3) := by decide +kernel
theorem dX4_idle_54 : decode cX4_idle 54 = .ok (.iconst 1, 1) := by decide +kernel
theorem dX4_idle_55 : decode cX4_idle 55 = .ok (.iload_n 3, 1) := by decide +kernel
theorem dX4_idle_56 : decode cX4_idle 56 = .ok (.ishl, 1) := by decide +kernel
theorem dX4_idle_57 : decode cX4_idle 57 = .ok (.ior, 1) := by decide +kernel
theorem dX4_idle_58 : decode cX4_idle 58 = .ok (.putfield 97, 3) := by decide +kernel
theorem dX4_idle_61 : decode cX4_idle 61 = .ok (.aload_n 0, 1) := by decide +kernel
theorem dX4_idle_62 : decode cX4_idle 62 = .ok (.getfield 16, 3) := by decide +kernel
theorem dX4_idle_65 : decode cX4_idle 65 = .ok (.iload_n 1, 1) := by decide +kernel
theorem dX4_idle_66 : decode cX4_idle 66 = .ok (.invokevirtual 170, 3) := by decide +kernel
theorem dX4_idle_69 : decode cX4_idle 69 = .ok (.aload_n 0, 1) := by decide +kernel
theorem dX4_idle_70 : decode cX4_idle 70 = .ok (.getfield 16, 3) := by decide +kernel
theorem dX4_idle_73 : decode cX4_idle 73 = .ok (.invokevirtual 163, 3) := by decide +kernel
theorem dX4_idle_76 : decode cX4_idle 76 = .ok (.iload_n 2, 1) := by decide +kernel
theorem dX4_idle_77 : decode cX4_idle 77 = .ok (.if_icmp .lt 5, 3) := by decide +kernel
theorem dX4_idle_80 : decode cX4_idle 80 = .ok (.iload_n 3, 1) := by decide +kernel
theorem dX4_idle_81 : decode cX4_idle 81 = .ok (.ireturn, 1) := by decide +kernel
theorem dX4_idle_82 : decode cX4_idle 82 = .ok (.iinc 3 1, 3) := by decide +kernel
theorem dX4_idle_85 : decode cX4_idle 85 = .ok (.goto (-61), 3) := by decide +kernel
theorem dX4_idle_88 : decode cX4_idle 88 = .ok (.bipush (-4), 2) := by decide +kernel
theorem dX4_idle_90 : decode cX4_idle 90 = .ok (.ireturn, 1) := by decide +kernel
theorem dX4_slowest_0 : decode cX4_slowest 0 = .ok (.iload_n 1, 1) := by decide +kernel
theorem dX4_slowest_1 : decode cX4_slowest 1 = .ok (.invokestatic 173, 3) := by decide +kernel
theorem dX4_slowest_4 : decode cX4_slowest 4 = .ok (.ifCond .ne 5, 3) := by decide +kernel
theorem dX4_slowest_7 : decode cX4_slowest 7 = .ok (.iconst (-1), 1) := by decide +kernel
theorem dX4_slowest_8 : decode cX4_slowest 8 = .ok (.ireturn, 1) := by decide +kernel
theorem dX4_slowest_9 : decode cX4_slowest 9 = .ok (.aload_n 0, 1) := by decide +kernel
theorem dX4_slowest_10 : decode cX4_slowest 10 = .ok (.iload_n 1, 1) := by decide +kernel
theorem dX4_slowest_11 : decode cX4_slowest 11 = .ok (.invokevirtual 176, 3) := by decide +kernel
theorem dX4_slowest_14 : decode cX4_slowest 14 = .ok (.bipush (-4), 2) := by decide +kernel
theorem dX4_slowest_16 : decode cX4_slowest 16 = .ok (.istore_n 2, 1) := by decide +kernel
theorem dX4_slowest_17 : decode cX4_slowest 17 = .ok (.sipush 10000, 3) := by decide +kernel
theorem dX4_slowest_20 : decode cX4_slowest 20 = .ok (.istore_n 3, 1) := by decide +kernel
theorem dX4_slowest_21 : decode cX4_slowest 21 = .ok (.iconst 0, 1) := by decide +kernel
theorem dX4_slowest_22 : decode cX4_slowest 22 = .ok (.istore 4, 2) := by decide +kernel
theorem dX4_slowest_24 : decode cX4_slowest 24 = .ok (.iload 4, 2) := by decide +kernel
theorem dX4_slowest_26 : decode cX4_slowest 26 = .ok (.aload_n 0, 1) := by decide +kernel
theorem dX4_slowest_27 : decode cX4_slowest 27 = .ok (.getfield 12, 3) := by decide +kernel
theorem dX4_slowest_30 : decode cX4_slowest 30 = .ok (.getfield 148, 3) := by decide +kernel
theorem dX4_slowest_33 : decode cX4_slowest 33 = .ok (.if_icmp .ge 44, 3) := by decide +kernel
theorem dX4_slowest_36 : decode cX4_slowest 36 = .ok (.aload_n 0, 1) := by decide +kernel
theorem dX4_slowest_37 : decode cX4_slowest 37 = .ok (.getfield 16, 3) := by decide +kernel
theorem dX4_slowest_40 : decode cX4_slowest 40 = .ok (.getfield 94, 3) := by decide +kernel
theorem dX4_slowest_43 : decode cX4_slowest 43 = .ok (.iload 4, 2) := by decide +kernel
theorem dX4_slowest_45 : decode cX4_slowest 45 = .ok (.iaload, 1) := by decide +kernel
theorem dX4_slowest_46 : decode cX4_slowest 46 = .ok (.aload_n 0, 1) := by decide +kernel
theorem dX4_slowest_47 : decode cX4_slowest 47 = .ok (.getfield 12, 3) := by decide +kernel
theorem dX4_slowest_50 : decode cX4_slowest 50 = .ok (.getfield 94, 3) := by decide +kernel
theorem dX4_slowest_53 : decode cX4_slowest 53 = .ok (.iload 4, 2) := by decide +kernel
theorem dX4_slowest_55 : decode cX4_slowest 55 = .ok (.iaload, 1) := by decide +kernel
theorem dX4_slowest_56 : decode cX4_slowest 56 = .ok (.isub, 1) := by decide +kernel
theorem dX4_slowest_57 : decode cX4_slowest 57 = .ok (.istore 5, 2) := by decide +kernel
theorem dX4_slowest_59 : decode cX4_slowest 59 = .ok (.iload 5, 2) := by decide +kernel
theorem dX4_slowest_61 : decode cX4_slowest 61 = .ok (.iload_n 3, 1) := by decide +kernel
theorem dX4_slowest_62 : decode cX4_slowest 62 = .ok (.if_icmp .ge 9, 3) := by decide +kernel
theorem dX4_slowest_65 : decode cX4_slowest 65 = .ok (.iload 5, 2) := by decide +kernel
theorem dX4_slowest_67 : decode cX4_slowest 67 = .ok (.istore_n 3, 1) := by decide +kernel
theorem dX4_slowest_68 : decode cX4_slowest 68 = .ok (.iload 4, 2) := by decide +kernel
theorem dX4_slowest_70 : decode cX4_slowest 70 = .ok (.istore_n 2, 1) := by decide +kernel
theorem dX4_slowest_71 : decode cX4_slowest 71 = .ok (.iinc 4 1, 3) := by decide +kernel
theorem dX4_slowest_74 : decode cX4_slowest 74 = .ok (.goto (-50), 3) := by decide +kernel
theorem dX4_slowest_77 : decode cX4_slowest 77 = .ok (.iload_n 2, 1) := by decide +kernel
theorem dX4_slowest_78 : decode cX4_slowest 78 = .ok (.ireturn, 1) := by decide +kernel
theorem dX4_lost_0 : decode cX4_lost 0 = .ok (.iload_n 1, 1) := by decide +kernel
theorem dX4_lost_1 : decode cX4_lost 1 = .ok (.invokestatic 173, 3) := by decide +kernel
theorem dX4_lost_4 : decode cX4_lost 4 = .ok (.ifCond .ne 5, 3) := by decide +kernel
theorem dX4_lost_7 : decode cX4_lost 7 = .ok (.iconst (-1), 1) := by decide +kernel
theorem dX4_lost_8 : decode cX4_lost 8 = .ok (.ireturn, 1) := by decide +kernel
theorem dX4_lost_9 : decode cX4_lost 9 = .ok (.aload_n 0, 1) := by decide +kernel
theorem dX4_lost_10 : decode cX4_lost 10 = .ok (.iload_n 1, 1) := by decide +kernel
theorem dX4_lost_11 : decode cX4_lost 11 = .ok (.invokevirtual 176, 3) := by decide +kernel
theorem dX4_lost_14 : decode cX4_lost 14 = .ok (.aload_n 0, 1) := by decide +kernel
theorem dX4_lost_15 : decode cX4_lost 15 = .ok (.getfield 16, 3) := by decide +kernel
theorem dX4_lost_18 : decode cX4_lost 18 = .ok (.getfield 196, 3) := by decide +kernel
theorem dX4_lost_21 : decode cX4_lost 21 = .ok (.ireturn, 1) := by decide +kernel
theorem dX4_heap_0 : decode cX4_heap 0 = .ok (.iload_n 1, 1) := by decide +kernel
theorem dX4_heap_1 : decode cX4_heap 1 = .ok (.invokestatic 173, 3) := by decide +kernel
theorem dX4_heap_4 : decode cX4_heap 4 = .ok (.ifCond .eq 12, 3) := by decide +kernel
theorem dX4_heap_7 : decode cX4_heap 7 = .ok (.iload_n 2, 1) := by decide +kernel
theorem dX4_heap_8 : decode cX4_heap 8 = .ok (.iconst 0, 1) := by decide +kernel
theorem dX4_heap_9 : decode cX4_heap 9 = .ok (.iconst 1, 1) := by decide +kernel
theorem dX4_heap_10 : decode cX4_heap 10 = .ok (.invokestatic 129, 3) := by decide +kernel
theorem dX4_heap_13 : decode cX4_heap 13 = .ok (.ifCond .ne 5, 3) := by decide +kernel
theorem dX4_heap_16 : decode cX4_heap 16 = .ok (.iconst (-1), 1) := by decide +kernel
theorem dX4_heap_17 : decode cX4_heap 17 = .ok (.ireturn, 1) := by decide +kernel
theorem dX4_heap_18 : decode cX4_heap 18 = .ok (.aload_n 0, 1) := by decide +kernel
theorem dX4_heap_19 : decode cX4_heap 19 = .ok (.iload_n 1, 1) := by decide +kernel
theorem dX4_heap_20 : decode cX4_heap 20 = .ok (.invokevirtual 176, 3) := by decide +kernel
theorem dX4_heap_23 : decode cX4_heap 23 = .ok (.iconst 0, 1) := by decide +kernel
theorem dX4_heap_24 : decode cX4_heap 24 = .ok (.istore_n 3, 1) := by decide +kernel
theorem dX4_heap_25 : decode cX4_heap 25 = .ok (.iconst 1, 1) := by decide +kernel
theorem dX4_heap_26 : decode cX4_heap 26 = .ok (.istore 4, 2) := by decide +kernel
theorem dX4_heap_28 : decode cX4_heap 28 = .ok (.iload 4, 2) := by decide +kernel
theorem dX4_heap_30 : decode cX4_heap 30 = .ok (.bipush 10, 2) := by decide +kernel
theorem dX4_heap_32 : decode cX4_heap 32 = .ok (.if_icmp .ge 34, 3) := by decide +kernel
theorem dX4_heap_35 : decode cX4_heap 35 = .ok (.aload_n 0, 1) := by decide +kernel
theorem dX4_heap_36 : decode cX4_heap 36 = .ok (.getfield 16, 3) := by decide +kernel
theorem dX4_heap_39 : decode cX4_heap 39 = .ok (.getfield 120, 3) := by decide +kernel
theorem dX4_heap_42 : decode cX4_heap 42 = .ok (.iload 4, 2) := by decide +kernel
theorem dX4_heap_44 : decode cX4_heap 44 = .ok (.iaload, 1) := by decide +kernel
theorem dX4_heap_45 : decode cX4_heap 45 = .ok (.aload_n 0, 1) := by decide +kernel
theorem dX4_heap_46 : decode cX4_heap 46 = .ok (.getfield 16, 3) := by decide +kernel
theorem dX4_heap_49 : decode cX4_heap 49 = .ok (.getfield 120, 3) := by decide +kernel
theorem dX4_heap_52 : decode cX4_heap 52 = .ok (.iload_n 3, 1) := by decide +kernel
theorem dX4_heap_53 : decode cX4_heap 53 = .ok (.iaload, 1) := by decide +kernel
theorem dX4_heap_54 : decode cX4_heap 54 = .ok (.if_icmp .le 6, 3) := by decide +kernel
theorem dX4_heap_57 : decode cX4_heap 57 = .ok (.iload 4, 2) := by decide +kernel
theorem dX4_heap_59 : decode cX4_heap 59 = .ok (.istore_n 3, 1) := by decide +kernel
theorem dX4_heap_60 : decode cX4_heap 60 = .ok (.iinc 4 1, 3) := by decide +kernel
theorem dX4_heap_63 : decode cX4_heap 63 = .ok (.goto (-35), 3) := by decide +kernel
theorem dX4_heap_66 : decode cX4_heap 66 = .ok (.iload_n 2, 1) := by decide +kernel
theorem dX4_heap_67 : decode cX4_heap 67 = .ok (.ifCond .ne 7, 3) := by decide +kernel
theorem dX4_heap_70 : decode cX4_heap 70 = .ok (.iload_n 3, 1) := by decide +kernel
theorem dX4_heap_71 : decode cX4_heap 71 = .ok (.goto 12, 3) := by decide +kernel
theorem dX4_heap_74 : decode cX4_heap 74 = .ok (.aload_n 0, 1) := by decide +kernel
theorem dX4_heap_75 : decode cX4_heap 75 = .ok (.getfield 16, 3) := by decide +kernel
theorem dX4_heap_78 : decode cX4_heap 78 = .ok (.getfield 120, 3) := by decide +kernel
theorem dX4_heap_81 : decode cX4_heap 81 = .ok (.iload_n 3, 1) := by decide +kernel
theorem dX4_heap_82 : decode cX4_heap 82 = .ok (.iaload, 1) := by decide +kernel
theorem dX4_heap_83 : decode cX4_heap 83 = .ok (.ireturn, 1) := by decide +kernel
theorem dX4_begin_0 : decode cX4_begin 0 = .ok (.aload_n 0, 1) := by decide +kernel
theorem dX4_begin_1 : decode cX4_begin 1 = .ok (.iload_n 1, 1) := by decide +kernel
theorem dX4_begin_2 : decode cX4_begin 2 = .ok (.invokevirtual 78, 3) := by decide +kernel
theorem dX4_begin_5 : decode cX4_begin 5 = .ok (.ifCond .eq 10, 3) := by decide +kernel
theorem dX4_begin_8 : decode cX4_begin 8 = .ok (.iload_n 2, 1) := by decide +kernel
theorem dX4_begin_9 : decode cX4_begin 9 = .ok (.invokestatic 173, 3) := by decide +kernel
theorem dX4_begin_12 : decode cX4_begin 12 = .ok (.ifCond .ne 5, 3) := by decide +kernel
theorem dX4_begin_15 : decode cX4_begin 15 = .ok (.iconst (-1), 1) := by decide +kernel
theorem dX4_begin_16 : decode cX4_begin 16 = .ok (.ireturn, 1) := by decide +kernel
theorem dX4_begin_17 : decode cX4_begin 17 = .ok (.iconst 0, 1) := by decide +kernel
theorem dX4_begin_18 : decode cX4_begin 18 = .ok (.istore_n 3, 1) := by decide +kernel
theorem dX4_begin_19 : decode cX4_begin 19 = .ok (.iconst (-1), 1) := by decide +kernel
theorem dX4_begin_20 : decode cX4_begin 20 = .ok (.istore 4, 2) := by decide +kernel
theorem dX4_begin_22 : decode cX4_begin 22 = .ok (.iconst 0, 1) := by decide +kernel
theorem dX4_begin_23 : decode cX4_begin 23 = .ok (.istore 5, 2) := by decide +kernel
theorem dX4_begin_25 : decode cX4_begin 25 = .ok (.iload 5, 2) := by decide +kernel
theorem dX4_begin_27 : decode cX4_begin 27 = .ok (.iconst 1, 1) := by decide +kernel
theorem dX4_begin_28 : decode cX4_begin 28 = .ok (.if_icmp .gt 100, 3) := by decide +kernel
theorem dX4_begin_31 : decode cX4_begin 31 = .ok (.iconst 0, 1) := by decide +kernel
theorem dX4_begin_32 : decode cX4_begin 32 = .ok (.istore 6, 2) := by decide +kernel
theorem dX4_begin_34 : decode cX4_begin 34 = .ok (.iload 6, 2) := by decide +kernel
theorem dX4_begin_36 : decode cX4_begin 36 = .ok (.bipush 10, 2) := by decide +kernel
theorem dX4_begin_38 : decode cX4_begin 38 = .ok (.if_icmp .ge 84, 3) := by decide +kernel
theorem dX4_begin_41 : decode cX4_begin 41 = .ok (.aload_n 0, 1) := by decide +kernel
theorem dX4_begin_42 : decode cX4_begin 42 = .ok (.getfield 16, 3) := by decide +kernel
theorem dX4_begin_45 : decode cX4_begin 45 = .ok (.aload_n 0, 1) := by decide +kernel
theorem dX4_begin_46 : decode cX4_begin 46 = .ok (.getfield 12, 3) := by decide +kernel
theorem dX4_begin_49 : decode cX4_begin 49 = .ok (.invokevirtual 57, 3) := by decide +kernel
theorem dX4_begin_52 : decode cX4_begin 52 = .ok (.aload_n 0, 1) := by decide +kernel
theorem dX4_begin_53 : decode cX4_begin 53 = .ok (.getfield 16, 3) := by decide +kernel
theorem dX4_begin_56 : decode cX4_begin 56 = .ok (.getfield 91, 3) := by decide +kernel
theorem dX4_begin_59 : decode cX4_begin 59 = .ok (.iload_n 1, 1) := by decide +kernel
theorem dX4_begin_60 : decode cX4_begin 60 = .ok (.iload 5, 2) := by decide +kernel
theorem dX4_begin_62 : decode cX4_begin 62 = .ok (.iastore, 1) := by decide +kernel
theorem dX4_begin_63 : decode cX4_begin 63 = .ok (.aload_n 0, 1) := by decide +kernel
theorem dX4_begin_64 : decode cX4_begin 64 = .ok (.getfield 16, 3) := by decide +kernel
theorem dX4_begin_67 : decode cX4_begin 67 = .ok (.getfield 88, 3) := by decide +kernel
theorem dX4_begin_70 : decode cX4_begin 70 = .ok (.iload_n 1, 1) := by decide +kernel
theorem dX4_begin_71 : decode cX4_begin 71 = .ok (.iload 6, 2) := by decide +kernel
theorem dX4_begin_73 : decode cX4_begin 73 = .ok (.iastore, 1) := by decide +kernel
theorem dX4_begin_74 : decode cX4_begin 74 = .ok (.aload_n 0, 1) := by decide +kernel
theorem dX4_begin_75 : decode cX4_begin 75 = .ok (.getfield 16, 3) := by decide +kernel
theorem dX4_begin_78 : decode cX4_begin 78 = .ok (.iload_n 2, 1) := by decide +kernel
theorem dX4_begin_79 : decode cX4_begin 79 = .ok (.invokevirtual 170, 3) := by decide +kernel
theorem dX4_begin_82 : decode cX4_begin 82 = .ok (.aload_n 0, 1) := by decide +kernel
theorem dX4_begin_83 : decode cX4_begin 83 = .ok (.getfield 16, 3) := by decide +kernel
theorem dX4_begin_86 : decode cX4_begin 86 = .ok (.getfield 94, 3) := by decide +kernel
theorem dX4_begin_89 : decode cX4_begin 89 = .ok (.iload_n 1, 1) := by decide +kernel
theorem dX4_begin_90 : decode cX4_begin 90 = .ok (.iaload, 1) := by decide +kernel
theorem dX4_begin_91 : decode cX4_begin 91 = .ok (.iload 4, 2) := by decide +kernel
theorem dX4_begin_93 : decode cX4_begin 93 = .ok (.if_icmp .le 23, 3) := by decide +kernel
theorem dX4_begin_96 : decode cX4_begin 96 = .ok (.aload_n 0, 1) := by decide +kernel
theorem dX4_begin_97 : decode cX4_begin 97 = .ok (.getfield 16, 3) := by decide +kernel
theorem dX4_begin_100 : decode cX4_begin 100 = .ok (.getfield 94, 3) := by decide +kernel
theorem dX4_begin_103 : decode cX4_begin 103 = .ok (.iload_n 1, 1) := by decide +kernel
theorem dX4_begin_104 : decode cX4_begin 104 = .ok (.iaload, 1) := by decide +kernel
theorem dX4_begin_105 : decode cX4_begin 105 = .ok (.istore 4, 2) := by decide +kernel
theorem dX4_begin_107 : decode cX4_begin 107 = .ok (.bipush 10, 2) := by decide +kernel
theorem dX4_begin_109 : decode cX4_begin 109 = .ok (.iload 5, 2) := by decide +kernel
theorem dX4_begin_111 : decode cX4_begin 111 = .ok (.imul, 1) := by decide +kernel
theorem dX4_begin_112 : decode cX4_begin 112 = .ok (.iload 6, 2) := by decide +kernel
theorem dX4_begin_114 : decode cX4_begin 114 = .ok (.iadd, 1) := by decide +kernel
theorem dX4_begin_115 : decode cX4_begin 115 = .ok (.istore_n 3, 1) := by decide +kernel
theorem dX4_begin_116 : decode cX4_begin 116 = .ok (.iinc 6 1, 3) := by decide +kernel
theorem dX4_begin_119 : decode cX4_begin 119 = .ok (.goto (-85), 3) := by decide +kernel
theorem dX4_begin_122 : decode cX4_begin 122 = .ok (.iinc 5 1, 3) := by decide +kernel
theorem dX4_begin_125 : decode cX4_begin 125 = .ok (.goto (-100), 3) := by decide +kernel
theorem dX4_begin_128 : decode cX4_begin 128 = .ok (.iload_n 3, 1) := by decide +kernel
theorem dX4_begin_129 : decode cX4_begin 129 = .ok (.ireturn, 1) := by decide +kernel
theorem dX4_pairs_0 : decode cX4_pairs 0 = .ok (.iconst 0, 1) := by decide +kernel
theorem dX4_pairs_1 : decode cX4_pairs 1 = .ok (.istore_n 1, 1) := by decide +kernel
theorem dX4_pairs_2 : decode cX4_pairs 2 = .ok (.iconst 0, 1) := by decide +kernel
theorem dX4_pairs_3 : decode cX4_pairs 3 = .ok (.istore_n 2, 1) := by decide +kernel
theorem dX4_pairs_4 : decode cX4_pairs 4 = .ok (.iconst 0, 1) := by decide +kernel
theorem dX4_pairs_5 : decode cX4_pairs 5 = .ok (.istore_n 3, 1) := by decide +kernel
theorem dX4_pairs_6 : decode cX4_pairs 6 = .ok (.iload_n 3, 1) := by decide +kernel
theorem dX4_pairs_7 : decode cX4_pairs 7 = .ok (.bipush 10, 2) := by decide +kernel
theorem dX4_pairs_9 : decode cX4_pairs 9 = .ok (.if_icmp .ge 85, 3) := by decide +kernel
theorem dX4_pairs_12 : decode cX4_pairs 12 = .ok (.iconst 0, 1) := by decide +kernel
theorem dX4_pairs_13 : decode cX4_pairs 13 = .ok (.istore 4, 2) := by decide +kernel
theorem dX4_pairs_15 : decode cX4_pairs 15 = .ok (.iload 4, 2) := by decide +kernel
theorem dX4_pairs_17 : decode cX4_pairs 17 = .ok (.aload_n 0, 1) := by decide +kernel
theorem dX4_pairs_18 : decode cX4_pairs 18 = .ok (.getfield 12, 3) := by decide +kernel
theorem dX4_pairs_21 : decode cX4_pairs 21 = .ok (.getfield 148, 3) := by decide +kernel
theorem dX4_pairs_24 : decode cX4_pairs 24 = .ok (.if_icmp .ge 64, 3) := by decide +kernel
theorem dX4_pairs_27 : decode cX4_pairs 27 = .ok (.aload_n 0, 1) := by decide +kernel
theorem dX4_pairs_28 : decode cX4_pairs 28 = .ok (.getfield 12, 3) := by decide +kernel
theorem dX4_pairs_31 : decode cX4_pairs 31 = .ok (.getfield 91, 3) := by decide +kernel
theorem dX4_pairs_34 : decode cX4_pairs 34 = .ok (.iload 4, 2) := by decide +kernel
theorem dX4_pairs_36 : decode cX4_pairs 36 = .ok (.iaload, 1) := by decide +kernel
theorem dX4_pairs_37 : decode cX4_pairs 37 = .ok (.ifCond .ne 26, 3) := by decide +kernel
theorem dX4_pairs_40 : decode cX4_pairs 40 = .ok (.aload_n 0, 1) := by decide +kernel
theorem dX4_pairs_41 : decode cX4_pairs 41 = .ok (.getfield 12, 3) := by decide +kernel
theorem dX4_pairs_44 : decode cX4_pairs 44 = .ok (.getfield 88, 3) := by decide +kernel
theorem dX4_pairs_47 : decode cX4_pairs 47 = .ok (.iload 4, 2) := by decide +kernel
theorem dX4_pairs_49 : decode cX4_pairs 49 = .ok (.iaload, 1) := by decide +kernel
theorem dX4_pairs_50 : decode cX4_pairs 50 = .ok (.iload_n 3, 1) := by decide +kernel
theorem dX4_pairs_51 : decode cX4_pairs 51 = .ok (.if_icmp .ne 12, 3) := by decide +kernel
theorem dX4_pairs_54 : decode cX4_pairs 54 = .ok (.aload_n 0, 1) := by decide +kernel
theorem dX4_pairs_55 : decode cX4_pairs 55 = .ok (.iload_n 3, 1) := by decide +kernel
theorem dX4_pairs_56 : decode cX4_pairs 56 = .ok (.iload_n 2, 1) := by decide +kernel
theorem dX4_pairs_57 : decode cX4_pairs 57 = .ok (.invokevirtual 199, 3) := by decide +kernel
theorem dX4_pairs_60 : decode cX4_pairs 60 = .ok (.goto 5, 3) := by decide +kernel
theorem dX4_pairs_63 : decode cX4_pairs 63 = .ok (.bipush (-4), 2) := by decide +kernel
theorem dX4_pairs_65 : decode cX4_pairs 65 = .ok (.istore 5, 2) := by decide +kernel
theorem dX4_pairs_67 : decode cX4_pairs 67 = .ok (.iload 5, 2) := by decide +kernel
theorem dX4_pairs_69 : decode cX4_pairs 69 = .ok (.ifCond .lt 13, 3) := by decide +kernel
theorem dX4_pairs_72 : decode cX4_pairs 72 = .ok (.iload_n 2, 1) := by decide +kernel
theorem dX4_pairs_73 : decode cX4_pairs 73 = .ok (.iconst 1, 1) := by decide +kernel
theorem dX4_pairs_74 : decode cX4_pairs 74 = .ok (.iload 5, 2) := by decide +kernel
theorem dX4_pairs_76 : decode cX4_pairs 76 = .ok (.ishl, 1) := by decide +kernel
theorem dX4_pairs_77 : decode cX4_pairs 77 = .ok (.ior, 1) := by decide +kernel
theorem dX4_pairs_78 : decode cX4_pairs 78 = .ok (.istore_n 2, 1) := by decide +kernel
theorem dX4_pairs_79 : decode cX4_pairs 79 = .ok (.iinc 1 1, 3) := by decide +kernel
theorem dX4_pairs_82 : decode cX4_pairs 82 = .ok (.iinc 4 1, 3) := by decide +kernel
theorem dX4_pairs_85 : decode cX4_pairs 85 = .ok (.goto (-70), 3) := by decide +kernel
theorem dX4_pairs_88 : decode cX4_pairs 88 = .ok (.iinc 3 1, 3) := by decide +kernel
theorem dX4_pairs_91 : decode cX4_pairs 91 = .ok (.goto (-85), 3) := by decide +kernel
theorem dX4_pairs_94 : decode cX4_pairs 94 = .ok (.iload_n 1, 1) := by decide +kernel
theorem dX4_pairs_95 : decode cX4_pairs 95 = .ok (.ireturn, 1) := by decide +kernel
theorem dX4_even_0 : decode cX4_even 0 = .ok (.iload_n 1, 1) := by decide +kernel
theorem dX4_even_1 : decode cX4_even 1 = .ok (.iconst 0, 1) := by decide +kernel
theorem dX4_even_2 : decode cX4_even 2 = .ok (.iconst 1, 1) := by decide +kernel
theorem dX4_even_3 : decode cX4_even 3 = .ok (.invokestatic 129, 3) := by decide +kernel
theorem dX4_even_6 : decode cX4_even 6 = .ok (.ifCond .ne 5, 3) := by decide +kernel
theorem dX4_even_9 : decode cX4_even 9 = .ok (.iconst (-1), 1) := by decide +kernel
theorem dX4_even_10 : decode cX4_even 10 = .ok (.ireturn, 1) := by decide +kernel
theorem dX4_even_11 : decode cX4_even 11 = .ok (.aload_n 0, 1) := by decide +kernel
theorem dX4_even_12 : decode cX4_even 12 = .ok (.getfield 12, 3) := by decide +kernel
theorem dX4_even_15 : decode cX4_even 15 = .ok (.invokevirtual 202, 3) := by decide +kernel
theorem dX4_even_18 : decode cX4_even 18 = .ok (.istore_n 2, 1) := by decide +kernel
theorem dX4_even_19 : decode cX4_even 19 = .ok (.iconst 0, 1) := by decide +kernel
theorem dX4_even_20 : decode cX4_even 20 = .ok (.istore_n 3, 1) := by decide +kernel
theorem dX4_even_21 : decode cX4_even 21 = .ok (.iconst 0, 1) := by decide +kernel
theorem dX4_even_22 : decode cX4_even 22 = .ok (.istore 4, 2) := by decide +kernel
theorem dX4_even_24 : decode cX4_even 24 = .ok (.iload_n 2, 1) := by decide +kernel
theorem dX4_even_25 : decode cX4_even 25 = .ok (.iconst 1, 1) := by decide +kernel
theorem dX4_even_26 : decode cX4_even 26 = .ok (.iadd, 1) := by decide +kernel
theorem dX4_even_27 : decode cX4_even 27 = .ok (.istore 5, 2) := by decide +kernel
theorem dX4_even_29 : decode cX4_even 29 = .ok (.iconst 0, 1) := by decide +kernel
theorem dX4_even_30 : decode cX4_even 30 = .ok (.istore 6, 2) := by decide +kernel
theorem dX4_even_32 : decode cX4_even 32 = .ok (.iload 6, 2) := by decide +kernel
theorem dX4_even_34 : decode cX4_even 34 = .ok (.bipush 9, 2) := by decide +kernel
theorem dX4_even_36 : decode cX4_even 36 = .ok (.if_icmp .ge 47, 3) := by decide +kernel
theorem dX4_even_39 : decode cX4_even 39 = .ok (.iload_n 3, 1) := by decide +kernel
theorem dX4_even_40 : decode cX4_even 40 = .ok (.aload_n 0, 1) := by decide +kernel
theorem dX4_even_41 : decode cX4_even 41 = .ok (.getfield 12, 3) := by decide +kernel
theorem dX4_even_44 : decode cX4_even 44 = .ok (.getfield 120, 3) := by decide +kernel
theorem dX4_even_47 : decode cX4_even 47 = .ok (.iload 6, 2) := by decide +kernel
theorem dX4_even_49 : decode cX4_even 49 = .ok (.iaload, 1) := by decide +kernel
theorem dX4_even_50 : decode cX4_even 50 = .ok (.iadd, 1) := by decide +kernel
theorem dX4_even_51 : decode cX4_even 51 = .ok (.istore_n 3, 1) := by decide +kernel
theorem dX4_even_52 : decode cX4_even 52 = .ok (.iload_n 3, 1) := by decide +kernel
theorem dX4_even_53 : decode cX4_even 53 = .ok (.iload_n 2, 1) := by decide +kernel
theorem dX4_even_54 : decode cX4_even 54 = .ok (.iload_n 3, 1) := by decide +kernel
theorem dX4_even_55 : decode cX4_even 55 = .ok (.isub, 1) := by decide +kernel
theorem dX4_even_56 : decode cX4_even 56 = .ok (.isub, 1) := by decide +kernel
theorem dX4_even_57 : decode cX4_even 57 = .ok (.invokestatic 185, 3) := by decide +kernel
theorem dX4_even_60 : decode cX4_even 60 = .ok (.istore 7, 2) := by decide +kernel
theorem dX4_even_62 : decode cX4_even 62 = .ok (.iload 7, 2) := by decide +kernel
theorem dX4_even_64 : decode cX4_even 64 = .ok (.iload 5, 2) := by decide +kernel
theorem dX4_even_66 : decode cX4_even 66 = .ok (.if_icmp .ge 11, 3) := by decide +kernel
theorem dX4_even_69 : decode cX4_even 69 = .ok (.iload 7, 2) := by decide +kernel
theorem dX4_even_71 : decode cX4_even 71 = .ok (.istore 5, 2) := by decide +kernel
theorem dX4_even_73 : decode cX4_even 73 = .ok (.iload 6, 2) := by decide +kernel
theorem dX4_even_75 : decode cX4_even 75 = .ok (.istore 4, 2) := by decide +kernel
theorem dX4_even_77 : decode cX4_even 77 = .ok (.iinc 6 1, 3) := by decide +kernel
theorem dX4_even_80 : decode cX4_even 80 = .ok (.goto (-48), 3) := by decide +kernel
theorem dX4_even_83 : decode cX4_even 83 = .ok (.iload_n 1, 1) := by decide +kernel
theorem dX4_even_84 : decode cX4_even 84 = .ok (.ifCond .ne 8, 3) := by decide +kernel
theorem dX4_even_87 : decode cX4_even 87 = .ok (.iload 4, 2) := by decide +kernel
theorem dX4_even_89 : decode cX4_even 89 = .ok (.goto 5, 3) := by decide +kernel
theorem dX4_even_92 : decode cX4_even 92 = .ok (.iload 5, 2) := by decide +kernel
theorem dX4_even_94 : decode cX4_even 94 = .ok (.ireturn, 1) := by decide +kernel
theorem dX4_howMany_0 : decode cX4_howMany 0 = .ok (.iload_n 2, 1) := by decide +kernel
theorem dX4_howMany_1 : decode cX4_howMany 1 = .ok (.invokestatic 117, 3) := by decide +kernel
theorem dX4_howMany_4 : decode cX4_howMany 4 = .ok (.ifCond .eq 12, 3) := by decide +kernel
theorem dX4_howMany_7 : decode cX4_howMany 7 = .ok (.iload_n 3, 1) := by decide +kernel
theorem dX4_howMany_8 : decode cX4_howMany 8 = .ok (.iconst 0, 1) := by decide +kernel
theorem dX4_howMany_9 : decode cX4_howMany 9 = .ok (.iconst 2, 1) := by decide +kernel
theorem dX4_howMany_10 : decode cX4_howMany 10 = .ok (.invokestatic 129, 3) := by decide +kernel
theorem dX4_howMany_13 : decode cX4_howMany 13 = .ok (.ifCond .ne 5, 3) := by decide +kernel
theorem dX4_howMany_16 : decode cX4_howMany 16 = .ok (.iconst (-1), 1) := by decide +kernel
theorem dX4_howMany_17 : decode cX4_howMany 17 = .ok (.ireturn, 1) := by decide +kernel
theorem dX4_howMany_18 : decode cX4_howMany 18 = .ok (.aload_n 0, 1) := by decide +kernel
theorem dX4_howMany_19 : decode cX4_howMany 19 = .ok (.iload_n 1, 1) := by decide +kernel
theorem dX4_howMany_20 : decode cX4_howMany 20 = .ok (.invokevirtual 40, 3) := by decide +kernel
theorem dX4_howMany_23 : decode cX4_howMany 23 = .ok (.astore 4, 2) := by decide +kernel
theorem dX4_howMany_25 : decode cX4_howMany 25 = .ok (.aload 4, 2) := by decide +kernel
theorem dX4_howMany_27 : decode cX4_howMany 27 = .ok (.iconst 2, 1) := by decide +kernel
theorem dX4_howMany_28 : decode cX4_howMany 28 = .ok (.invokestatic 133, 3) := by decide +kernel
theorem dX4_howMany_31 : decode cX4_howMany 31 = .ok (.istore 5, 2) := by decide +kernel
theorem dX4_howMany_33 : decode cX4_howMany 33 = .ok (.aload 4, 2) := by decide +kernel
theorem dX4_howMany_35 : decode cX4_howMany 35 = .ok (.ifnull 8, 3) := by decide +kernel
theorem dX4_howMany_38 : decode cX4_howMany 38 = .ok (.iload 5, 2) := by decide +kernel
theorem dX4_howMany_40 : decode cX4_howMany 40 = .ok (.ifCond .eq 6, 3) := by decide +kernel
theorem dX4_howMany_43 : decode cX4_howMany 43 = .ok (.iload 5, 2) := by decide +kernel
theorem dX4_howMany_45 : decode cX4_howMany 45 = .ok (.ireturn, 1) := by decide +kernel
theorem dX4_howMany_46 : decode cX4_howMany 46 = .ok (.iconst 0, 1) := by decide +kernel
theorem dX4_howMany_47 : decode cX4_howMany 47 = .ok (.istore 6, 2) := by decide +kernel
theorem dX4_howMany_49 : decode cX4_howMany 49 = .ok (.bipush (-4), 2) := by decide +kernel
theorem dX4_howMany_51 : decode cX4_howMany 51 = .ok (.istore 7, 2) := by decide +kernel
theorem dX4_howMany_53 : decode cX4_howMany 53 = .ok (.bipush (-4), 2) := by decide +kernel
theorem dX4_howMany_55 : decode cX4_howMany 55 = .ok (.istore 8, 2) := by decide +kernel
theorem dX4_howMany_57 : decode cX4_howMany 57 = .ok (.aload 4, 2) := by decide +kernel
theorem dX4_howMany_59 : decode cX4_howMany 59 = .ok (.invokevirtual 205, 3) := by decide +kernel
theorem dX4_howMany_62 : decode cX4_howMany 62 = .ok (.istore 9, 2) := by decide +kernel
theorem dX4_howMany_64 : decode cX4_howMany 64 = .ok (.aload_n 0, 1) := by decide +kernel
theorem dX4_howMany_65 : decode cX4_howMany 65 = .ok (.getfield 12, 3) := by decide +kernel
theorem dX4_howMany_68 : decode cX4_howMany 68 = .ok (.getfield 123, 3) := by decide +kernel
theorem dX4_howMany_71 : decode cX4_howMany 71 = .ok (.iload_n 2, 1) := by decide +kernel
theorem dX4_howMany_72 : decode cX4_howMany 72 = .ok (.iaload, 1) := by decide +kernel
theorem dX4_howMany_73 : decode cX4_howMany 73 = .ok (.istore 10, 2) := by decide +kernel
theorem dX4_howMany_75 : decode cX4_howMany 75 = .ok (.iload 10, 2) := by decide +kernel
theorem dX4_howMany_77 : decode cX4_howMany 77 = .ok (.sipush 999, 3) := by decide +kernel
theorem dX4_howMany_80 : decode cX4_howMany 80 = .ok (.if_icmp .gt 46, 3) := by decide +kernel
theorem dX4_howMany_83 : decode cX4_howMany 83 = .ok (.aload_n 0, 1) := by decide +kernel
theorem dX4_howMany_84 : decode cX4_howMany 84 = .ok (.aload 4, 2) := by decide +kernel
theorem dX4_howMany_86 : decode cX4_howMany 86 = .ok (.iload 9, 2) := by decide +kernel
theorem dX4_howMany_88 : decode cX4_howMany 88 = .ok (.iload_n 2, 1) := by decide +kernel
theorem dX4_howMany_89 : decode cX4_howMany 89 = .ok (.iload 10, 2) := by decide +kernel
theorem dX4_howMany_91 : decode cX4_howMany 91 = .ok (.invokevirtual 208, 3) := by decide +kernel
theorem dX4_howMany_94 : decode cX4_howMany 94 = .ok (.ifCond .eq 26, 3) := by decide +kernel
theorem dX4_howMany_97 : decode cX4_howMany 97 = .ok (.iinc 6 1, 3) := by decide +kernel
theorem dX4_howMany_100 : decode cX4_howMany 100 = .ok (.iload 7, 2) := by decide +kernel
theorem dX4_howMany_102 : decode cX4_howMany 102 = .ok (.bipush (-4), 2) := by decide +kernel
theorem dX4_howMany_104 : decode cX4_howMany 104 = .ok (.if_icmp .ne 8, 3) := by decide +kernel
theorem dX4_howMany_107 : decode cX4_howMany 107 = .ok (.iload 10, 2) := by decide +kernel
theorem dX4_howMany_109 : decode cX4_howMany 109 = .ok (.goto 5, 3) := by decide +kernel
theorem dX4_howMany_112 : decode cX4_howMany 112 = .ok (.iload 7, 2) := by decide +kernel
theorem dX4_howMany_114 : decode cX4_howMany 114 = .ok (.istore 7, 2) := by decide +kernel
theorem dX4_howMany_116 : decode cX4_howMany 116 = .ok (.iload 10, 2) := by decide +kernel
theorem dX4_howMany_118 : decode cX4_howMany 118 = .ok (.istore 8, 2) := by decide +kernel
theorem dX4_howMany_120 : decode cX4_howMany 120 = .ok (.iinc 10 1, 3) := by decide +kernel
theorem dX4_howMany_123 : decode cX4_howMany 123 = .ok (.goto (-48), 3) := by decide +kernel
theorem dX4_howMany_126 : decode cX4_howMany 126 = .ok (.iload_n 3, 1) := by decide +kernel
theorem dX4_howMany_127 : decode cX4_howMany 127 = .ok (.ifCond .ne 8, 3) := by decide +kernel
theorem dX4_howMany_130 : decode cX4_howMany 130 = .ok (.iload 6, 2) := by decide +kernel
theorem dX4_howMany_132 : decode cX4_howMany 132 = .ok (.goto 15, 3) := by decide +kernel
theorem dX4_howMany_135 : decode cX4_howMany 135 = .ok (.iload_n 3, 1) := by decide +kernel
theorem dX4_howMany_136 : decode cX4_howMany 136 = .ok (.iconst 1, 1) := by decide +kernel
theorem dX4_howMany_137 : decode cX4_howMany 137 = .ok (.if_icmp .ne 8, 3) := by decide +kernel
theorem dX4_howMany_140 : decode cX4_howMany 140 = .ok (.iload 7, 2) := by decide +kernel
theorem dX4_howMany_142 : decode cX4_howMany 142 = .ok (.goto 5, 3) := by decide +kernel
theorem dX4_howMany_145 : decode cX4_howMany 145 = .ok (.iload 8, 2) := by decide +kernel
theorem dX4_howMany_147 : decode cX4_howMany 147 = .ok (.ireturn, 1) := by decide +kernel
theorem dX4_whatIs_0 : decode cX4_whatIs 0 = .ok (.aload_n 0, 1) := by decide +kernel
theorem dX4_whatIs_1 : decode cX4_whatIs 1 = .ok (.iload_n 2, 1) := by decide +kernel
theorem dX4_whatIs_2 : decode cX4_whatIs 2 = .ok (.invokevirtual 78, 3) := by decide +kernel
theorem dX4_whatIs_5 : decode cX4_whatIs 5 = .ok (.ifCond .eq 12, 3) := by decide +kernel
theorem dX4_whatIs_8 : decode cX4_whatIs 8 = .ok (.iload_n 3, 1) := by decide +kernel
theorem dX4_whatIs_9 : decode cX4_whatIs 9 = .ok (.iconst 0, 1) := by decide +kernel
theorem dX4_whatIs_10 : decode cX4_whatIs 10 = .ok (.iconst 1, 1) := by decide +kernel
theorem dX4_whatIs_11 : decode cX4_whatIs 11 = .ok (.invokestatic 129, 3) := by decide +kernel
theorem dX4_whatIs_14 : decode cX4_whatIs 14 = .ok (.ifCond .ne 5, 3) := by decide +kernel
theorem dX4_whatIs_17 : decode cX4_whatIs 17 = .ok (.iconst (-1), 1) := by decide +kernel
theorem dX4_whatIs_18 : decode cX4_whatIs 18 = .ok (.ireturn, 1) := by decide +kernel
theorem dX4_whatIs_19 : decode cX4_whatIs 19 = .ok (.aload_n 0, 1) := by decide +kernel
theorem dX4_whatIs_20 : decode cX4_whatIs 20 = .ok (.iload_n 1, 1) := by decide +kernel
theorem dX4_whatIs_21 : decode cX4_whatIs 21 = .ok (.invokevirtual 40, 3) := by decide +kernel
theorem dX4_whatIs_24 : decode cX4_whatIs 24 = .ok (.astore 4, 2) := by decide +kernel
theorem dX4_whatIs_26 : decode cX4_whatIs 26 = .ok (.aload 4, 2) := by decide +kernel
theorem dX4_whatIs_28 : decode cX4_whatIs 28 = .ok (.iconst 2, 1) := by decide +kernel
theorem dX4_whatIs_29 : decode cX4_whatIs 29 = .ok (.invokestatic 133, 3) := by decide +kernel
theorem dX4_whatIs_32 : decode cX4_whatIs 32 = .ok (.istore 5, 2) := by decide +kernel
theorem dX4_whatIs_34 : decode cX4_whatIs 34 = .ok (.aload 4, 2) := by decide +kernel
theorem dX4_whatIs_36 : decode cX4_whatIs 36 = .ok (.ifnull 8, 3) := by decide +kernel
theorem dX4_whatIs_39 : decode cX4_whatIs 39 = .ok (.iload 5, 2) := by decide +kernel
theorem dX4_whatIs_41 : decode cX4_whatIs 41 = .ok (.ifCond .eq 6, 3) := by decide +kernel
theorem dX4_whatIs_44 : decode cX4_whatIs 44 = .ok (.iload 5, 2) := by decide +kernel
theorem dX4_whatIs_46 : decode cX4_whatIs 46 = .ok (.ireturn, 1) := by decide +kernel
theorem dX4_whatIs_47 : decode cX4_whatIs 47 = .ok (.iconst 0, 1) := by decide +kernel
theorem dX4_whatIs_48 : decode cX4_whatIs 48 = .ok (.istore 6, 2) := by decide +kernel
theorem dX4_whatIs_50 : decode cX4_whatIs 50 = .ok (.aload 4, 2) := by decide +kernel
theorem dX4_whatIs_52 : decode cX4_whatIs 52 = .ok (.invokevirtual 205, 3) := by decide +kernel
theorem dX4_whatIs_55 : decode cX4_whatIs 55 = .ok (.istore 7, 2) := by decide +kernel
theorem dX4_whatIs_57 : decode cX4_whatIs 57 = .ok (.iload_n 3, 1) := by decide +kernel
theorem dX4_whatIs_58 : decode cX4_whatIs 58 = .ok (.ifCond .ne 8, 3) := by decide +kernel
theorem dX4_whatIs_61 : decode cX4_whatIs 61 = .ok (.bipush 8, 2) := by decide +kernel
theorem dX4_whatIs_63 : decode cX4_whatIs 63 = .ok (.goto 5, 3) := by decide +kernel
theorem dX4_whatIs_66 : decode cX4_whatIs 66 = .ok (.bipush 10, 2) := by decide +kernel
theorem dX4_whatIs_68 : decode cX4_whatIs 68 = .ok (.istore 8, 2) := by decide +kernel
theorem dX4_whatIs_70 : decode cX4_whatIs 70 = .ok (.iconst 0, 1) := by decide +kernel
theorem dX4_whatIs_71 : decode cX4_whatIs 71 = .ok (.istore 9, 2) := by decide +kernel
theorem dX4_whatIs_73 : decode cX4_whatIs 73 = .ok (.iload 9, 2) := by decide +kernel
theorem dX4_whatIs_75 : decode cX4_whatIs 75 = .ok (.iload 8, 2) := by decide +kernel
theorem dX4_whatIs_77 : decode cX4_whatIs 77 = .ok (.if_icmp .ge 70, 3) := by decide +kernel
theorem dX4_whatIs_80 : decode cX4_whatIs 80 = .ok (.aload_n 0, 1) := by decide +kernel
theorem dX4_whatIs_81 : decode cX4_whatIs 81 = .ok (.getfield 16, 3) := by decide +kernel
theorem dX4_whatIs_84 : decode cX4_whatIs 84 = .ok (.aload_n 0, 1) := by decide +kernel
theorem dX4_whatIs_85 : decode cX4_whatIs 85 = .ok (.getfield 12, 3) := by decide +kernel
theorem dX4_whatIs_88 : decode cX4_whatIs 88 = .ok (.invokevirtual 57, 3) := by decide +kernel
theorem dX4_whatIs_91 : decode cX4_whatIs 91 = .ok (.iload_n 3, 1) := by decide +kernel
theorem dX4_whatIs_92 : decode cX4_whatIs 92 = .ok (.ifCond .ne 17, 3) := by decide +kernel
theorem dX4_whatIs_95 : decode cX4_whatIs 95 = .ok (.aload_n 0, 1) := by decide +kernel
theorem dX4_whatIs_96 : decode cX4_whatIs 96 = .ok (.getfield 16, 3) := by decide +kernel
theorem dX4_whatIs_99 : decode cX4_whatIs 99 = .ok (.getfield 82, 3) := by decide +kernel
theorem dX4_whatIs_102 : decode cX4_whatIs 102 = .ok (.iload_n 2, 1) := by decide +kernel
theorem dX4_whatIs_103 : decode cX4_whatIs 103 = .ok (.iload 9, 2) := by decide +kernel
theorem dX4_whatIs_105 : decode cX4_whatIs 105 = .ok (.iastore, 1) := by decide +kernel
theorem dX4_whatIs_106 : decode cX4_whatIs 106 = .ok (.goto 14, 3) := by decide +kernel
theorem dX4_whatIs_109 : decode cX4_whatIs 109 = .ok (.aload_n 0, 1) := by decide +kernel
theorem dX4_whatIs_110 : decode cX4_whatIs 110 = .ok (.getfield 16, 3) := by decide +kernel
theorem dX4_whatIs_113 : decode cX4_whatIs 113 = .ok (.getfield 85, 3) := by decide +kernel
theorem dX4_whatIs_116 : decode cX4_whatIs 116 = .ok (.iload_n 2, 1) := by decide +kernel
theorem dX4_whatIs_117 : decode cX4_whatIs 117 = .ok (.iload 9, 2) := by decide +kernel
theorem dX4_whatIs_119 : decode cX4_whatIs 119 = .ok (.iastore, 1) := by decide +kernel
theorem dX4_whatIs_120 : decode cX4_whatIs 120 = .ok (.aload_n 0, 1) := by decide +kernel
theorem dX4_whatIs_121 : decode cX4_whatIs 121 = .ok (.aload 4, 2) := by decide +kernel
theorem dX4_whatIs_123 : decode cX4_whatIs 123 = .ok (.iload 7, 2) := by decide +kernel
theorem dX4_whatIs_125 : decode cX4_whatIs 125 = .ok (.iload_n 2, 1) := by decide +kernel
theorem dX4_whatIs_126 : decode cX4_whatIs 126 = .ok (.invokevirtual 212, 3) := by decide +kernel
theorem dX4_whatIs_129 : decode cX4_whatIs 129 = .ok (.ifCond .eq 12, 3) := by decide +kernel
theorem dX4_whatIs_132 : decode cX4_whatIs 132 = .ok (.iload 6, 2) := by decide +kernel
theorem dX4_whatIs_134 : decode cX4_whatIs 134 = .ok (.iconst 1, 1) := by decide +kernel
theorem dX4_whatIs_135 : decode cX4_whatIs 135 = .ok (.iload 9, 2) := by decide +kernel
theorem dX4_whatIs_137 : decode cX4_whatIs 137 = .ok (.ishl, 1) := by decide +kernel
theorem dX4_whatIs_138 : decode cX4_whatIs 138 = .ok (.ior, 1) := by decide +kernel
theorem dX4_whatIs_139 : decode cX4_whatIs 139 = .ok (.istore 6, 2) := by decide +kernel
theorem dX4_whatIs_141 : decode cX4_whatIs 141 = .ok (.iinc 9 1, 3) := by decide +kernel
theorem dX4_whatIs_144 : decode cX4_whatIs 144 = .ok (.goto (-71), 3) := by decide +kernel
theorem dX4_whatIs_147 : decode cX4_whatIs 147 = .ok (.iload 6, 2) := by decide +kernel
theorem dX4_whatIs_149 : decode cX4_whatIs 149 = .ok (.ireturn, 1) := by decide +kernel
theorem dX4_two_0 : decode cX4_two 0 = .ok (.aload_n 0, 1) := by decide +kernel
theorem dX4_two_1 : decode cX4_two 1 = .ok (.iload_n 1, 1) := by decide +kernel
theorem dX4_two_2 : decode cX4_two 2 = .ok (.invokevirtual 78, 3) := by decide +kernel
theorem dX4_two_5 : decode cX4_two 5 = .ok (.ifCond .eq 16, 3) := by decide +kernel
theorem dX4_two_8 : decode cX4_two 8 = .ok (.aload_n 0, 1) := by decide +kernel
theorem dX4_two_9 : decode cX4_two 9 = .ok (.iload_n 2, 1) := by decide +kernel
theorem dX4_two_10 : decode cX4_two 10 = .ok (.invokevirtual 78, 3) := by decide +kernel
theorem dX4_two_13 : decode cX4_two 13 = .ok (.ifCond .eq 8, 3) := by decide +kernel
theorem dX4_two_16 : decode cX4_two 16 = .ok (.iload_n 1, 1) := by decide +kernel
theorem dX4_two_17 : decode cX4_two 17 = .ok (.iload_n 2, 1) := by decide +kernel
theorem dX4_two_18 : decode cX4_two 18 = .ok (.if_icmp .ne 5, 3) := by decide +kernel
theorem dX4_two_21 : decode cX4_two 21 = .ok (.iconst (-1), 1) := by decide +kernel
theorem dX4_two_22 : decode cX4_two 22 = .ok (.ireturn, 1) := by decide +kernel
theorem dX4_two_23 : decode cX4_two 23 = .ok (.iconst 0, 1) := by decide +kernel
theorem dX4_two_24 : decode cX4_two 24 = .ok (.istore_n 3, 1) := by decide +kernel
theorem dX4_two_25 : decode cX4_two 25 = .ok (.iload_n 3, 1) := by decide +kernel
theorem dX4_two_26 : decode cX4_two 26 = .ok (.aload_n 0, 1) := by decide +kernel
theorem dX4_two_27 : decode cX4_two 27 = .ok (.getfield 32, 3) := by decide +kernel
theorem dX4_two_30 : decode cX4_two 30 = .ok (.arraylength, 1) := by decide +kernel
theorem dX4_two_31 : decode cX4_two 31 = .ok (.if_icmp .ge 16, 3) := by decide +kernel
theorem dX4_two_34 : decode cX4_two 34 = .ok (.aload_n 0, 1) := by decide +kernel
theorem dX4_two_35 : decode cX4_two 35 = .ok (.iload_n 1, 1) := by decide +kernel
theorem dX4_two_36 : decode cX4_two 36 = .ok (.iload_n 2, 1) := by decide +kernel
theorem dX4_two_37 : decode cX4_two 37 = .ok (.iload_n 3, 1) := by decide +kernel
theorem dX4_two_38 : decode cX4_two 38 = .ok (.invokevirtual 216, 3) := by decide +kernel
theorem dX4_two_41 : decode cX4_two 41 = .ok (.iinc 3 1, 3) := by decide +kernel
theorem dX4_two_44 : decode cX4_two 44 = .ok (.goto (-19), 3) := by decide +kernel
theorem dX4_two_47 : decode cX4_two 47 = .ok (.iconst 0, 1) := by decide +kernel
theorem dX4_two_48 : decode cX4_two 48 = .ok (.istore_n 3, 1) := by decide +kernel
theorem dX4_two_49 : decode cX4_two 49 = .ok (.iload_n 3, 1) := by decide +kernel
theorem dX4_two_50 : decode cX4_two 50 = .ok (.aload_n 0, 1) := by decide +kernel
theorem dX4_two_51 : decode cX4_two 51 = .ok (.getfield 32, 3) := by decide +kernel
theorem dX4_two_54 : decode cX4_two 54 = .ok (.arraylength, 1) := by decide +kernel
theorem dX4_two_55 : decode cX4_two 55 = .ok (.if_icmp .ge 78, 3) := by decide +kernel
theorem dX4_two_58 : decode cX4_two 58 = .ok (.aload_n 0, 1) := by decide +kernel
theorem dX4_two_59 : decode cX4_two 59 = .ok (.getfield 32, 3) := by decide +kernel
theorem dX4_two_62 : decode cX4_two 62 = .ok (.iload_n 3, 1) := by decide +kernel
theorem dX4_two_63 : decode cX4_two 63 = .ok (.iaload, 1) := by decide +kernel
theorem dX4_two_64 : decode cX4_two 64 = .ok (.aload_n 0, 1) := by decide +kernel
theorem dX4_two_65 : decode cX4_two 65 = .ok (.getfield 32, 3) := by decide +kernel
theorem dX4_two_68 : decode cX4_two 68 = .ok (.iload_n 3, 1) := by decide +kernel
theorem dX4_two_69 : decode cX4_two 69 = .ok (.iconst 2, 1) := by decide +kernel
theorem dX4_two_70 : decode cX4_two 70 = .ok (.ixor, 1) := by decide +kernel
theorem dX4_two_71 : decode cX4_two 71 = .ok (.iaload, 1) := by decide +kernel
theorem dX4_two_72 : decode cX4_two 72 = .ok (.if_icmp .lt 7, 3) := by decide +kernel
theorem dX4_two_75 : decode cX4_two 75 = .ok (.iconst 1, 1) := by decide +kernel
theorem dX4_two_76 : decode cX4_two 76 = .ok (.goto 4, 3) := by decide +kernel
theorem dX4_two_79 : decode cX4_two 79 = .ok (.iconst 0, 1) := by decide +kernel
theorem dX4_two_80 : decode cX4_two 80 = .ok (.istore 4, 2) := by decide +kernel
theorem dX4_two_82 : decode cX4_two 82 = .ok (.aload_n 0, 1) := by decide +kernel
theorem dX4_two_83 : decode cX4_two 83 = .ok (.getfield 36, 3) := by decide +kernel
theorem dX4_two_86 : decode cX4_two 86 = .ok (.iload_n 3, 1) := by decide +kernel
theorem dX4_two_87 : decode cX4_two 87 = .ok (.iaload, 1) := by decide +kernel
theorem dX4_two_88 : decode cX4_two 88 = .ok (.aload_n 0, 1) := by decide +kernel
theorem dX4_two_89 : decode cX4_two 89 = .ok (.getfield 36, 3) := by decide +kernel
theorem dX4_two_92 : decode cX4_two 92 = .ok (.iload_n 3, 1) := by decide +kernel
theorem dX4_two_93 : decode cX4_two 93 = .ok (.iconst 1, 1) := by decide +kernel
theorem dX4_two_94 : decode cX4_two 94 = .ok (.ixor, 1) := by decide +kernel
theorem dX4_two_95 : decode cX4_two 95 = .ok (.iaload, 1) := by decide +kernel
theorem dX4_two_96 : decode cX4_two 96 = .ok (.if_icmp .lt 7, 3) := by decide +kernel
theorem dX4_two_99 : decode cX4_two 99 = .ok (.iconst 1, 1) := by decide +kernel
theorem dX4_two_100 : decode cX4_two 100 = .ok (.goto 4, 3) := by decide +kernel
theorem dX4_two_103 : decode cX4_two 103 = .ok (.iconst 0, 1) := by decide +kernel
theorem dX4_two_104 : decode cX4_two 104 = .ok (.istore 5, 2) := by decide +kernel
theorem dX4_two_106 : decode cX4_two 106 = .ok (.iload 4, 2) := by decide +kernel
theorem dX4_two_108 : decode cX4_two 108 = .ok (.ifCond .eq 19, 3) := by decide +kernel
theorem dX4_two_111 : decode cX4_two 111 = .ok (.iload 5, 2) := by decide +kernel
theorem dX4_two_113 : decode cX4_two 113 = .ok (.ifCond .eq 14, 3) := by decide +kernel
theorem dX4_two_116 : decode cX4_two 116 = .ok (.bipush 10, 2) := by decide +kernel
theorem dX4_two_118 : decode cX4_two 118 = .ok (.iload_n 3, 1) := by decide +kernel
theorem dX4_two_119 : decode cX4_two 119 = .ok (.iconst 1, 1) := by decide +kernel
theorem dX4_two_120 : decode cX4_two 120 = .ok (.ishr, 1) := by decide +kernel
theorem dX4_two_121 : decode cX4_two 121 = .ok (.imul, 1) := by decide +kernel
theorem dX4_two_122 : decode cX4_two 122 = .ok (.iload_n 3, 1) := by decide +kernel
theorem dX4_two_123 : decode cX4_two 123 = .ok (.iconst 1, 1) := by decide +kernel
theorem dX4_two_124 : decode cX4_two 124 = .ok (.iand, 1) := by decide +kernel
theorem dX4_two_125 : decode cX4_two 125 = .ok (.iadd, 1) := by decide +kernel
theorem dX4_two_126 : decode cX4_two 126 = .ok (.ireturn, 1) := by decide +kernel
theorem dX4_two_127 : decode cX4_two 127 = .ok (.iinc 3 1, 3) := by decide +kernel
theorem dX4_two_130 : decode cX4_two 130 = .ok (.goto (-81), 3) := by decide +kernel
theorem dX4_two_133 : decode cX4_two 133 = .ok (.bipush (-4), 2) := by decide +kernel
theorem dX4_two_135 : decode cX4_two 135 = .ok (.ireturn, 1) := by decide +kernel
theorem dX4_storm_0 : decode cX4_storm 0 = .ok (.iload_n 1, 1) := by decide +kernel
theorem dX4_storm_1 : decode cX4_storm 1 = .ok (.invokestatic 117, 3) := by decide +kernel
theorem dX4_storm_4 : decode cX4_storm 4 = .ok (.ifCond .eq 33, 3) := by decide +kernel
theorem dX4_storm_7 : decode cX4_storm 7 = .ok (.iload_n 2, 1) := by decide +kernel
theorem dX4_storm_8 : decode cX4_storm 8 = .ok (.iconst 0, 1) := by decide +kernel
theorem dX4_storm_9 : decode cX4_storm 9 = .ok (.bipush 7, 2) := by decide +kernel
theorem dX4_storm_11 : decode cX4_storm 11 = .ok (.invokestatic 129, 3) := by decide +kernel
theorem dX4_storm_14 : decode cX4_storm 14 = .ok (.ifCond .eq 23, 3) := by decide +kernel
theorem dX4_storm_17 : decode cX4_storm 17 = .ok (.iload_n 3, 1) := by decide +kernel
theorem dX4_storm_18 : decode cX4_storm 18 = .ok (.iconst 2, 1) := by decide +kernel
theorem dX4_storm_19 : decode cX4_storm 19 = .ok (.bipush 20, 2) := by decide +kernel
theorem dX4_storm_21 : decode cX4_storm 21 = .ok (.invokestatic 129, 3) := by decide +kernel
theorem dX4_storm_24 : decode cX4_storm 24 = .ok (.ifCond .eq 13, 3) := by decide +kernel
theorem dX4_storm_27 : decode cX4_storm 27 = .ok (.iload 4, 2) := by decide +kernel
theorem dX4_storm_29 : decode cX4_storm 29 = .ok (.iconst 0, 1) := by decide +kernel
theorem dX4_storm_30 : decode cX4_storm 30 = .ok (.iconst 1, 1) := by decide +kernel
theorem dX4_storm_31 : decode cX4_storm 31 = .ok (.invokestatic 129, 3) := by decide +kernel
theorem dX4_storm_34 : decode cX4_storm 34 = .ok (.ifCond .ne 7, 3) := by decide +kernel
theorem dX4_storm_37 : decode cX4_storm 37 = .ok (.ldc2_w 220, 3) := by decide +kernel
theorem dX4_storm_40 : decode cX4_storm 40 = .ok (.lreturn, 1) := by decide +kernel
theorem dX4_storm_41 : decode cX4_storm 41 = .ok (.lconst 0, 1) := by decide +kernel
theorem dX4_storm_42 : decode cX4_storm 42 = .ok (.lstore 5, 2) := by decide +kernel
theorem dX4_storm_44 : decode cX4_storm 44 = .ok (.iconst 0, 1) := by decide +kernel
theorem dX4_storm_45 : decode cX4_storm 45 = .ok (.istore 7, 2) := by decide +kernel
theorem dX4_storm_47 : decode cX4_storm 47 = .ok (.iload 7, 2) := by decide +kernel
theorem dX4_storm_49 : decode cX4_storm 49 = .ok (.iconst 1, 1) := by decide +kernel
theorem dX4_storm_50 : decode cX4_storm 50 = .ok (.iload_n 2, 1) := by decide +kernel
theorem dX4_storm_51 : decode cX4_storm 51 = .ok (.ishl, 1) := by decide +kernel
theorem dX4_storm_52 : decode cX4_storm 52 = .ok (.if_icmp .ge 114, 3) := by decide +kernel
theorem dX4_storm_55 : decode cX4_storm 55 = .ok (.aload_n 0, 1) := by decide +kernel
theorem dX4_storm_56 : decode cX4_storm 56 = .ok (.getfield 16, 3) := by decide +kernel
theorem dX4_storm_59 : decode cX4_storm 59 = .ok (.aload_n 0, 1) := by decide +kernel
theorem dX4_storm_60 : decode cX4_storm 60 = .ok (.getfield 12, 3) := by decide +kernel
theorem dX4_storm_63 : decode cX4_storm 63 = .ok (.invokevirtual 57, 3) := by decide +kernel
theorem dX4_storm_66 : decode cX4_storm 66 = .ok (.lconst 1, 1) := by decide +kernel
theorem dX4_storm_67 : decode cX4_storm 67 = .ok (.lstore 8, 2) := by decide +kernel
theorem dX4_storm_69 : decode cX4_storm 69 = .ok (.iconst 0, 1) := by decide +kernel
theorem dX4_storm_70 : decode cX4_storm 70 = .ok (.istore 10, 2) := by decide +kernel
theorem dX4_storm_72 : decode cX4_storm 72 = .ok (.iload 10, 2) := by decide +kernel
theorem dX4_storm_74 : decode cX4_storm 74 = .ok (.iload_n 2, 1) := by decide +kernel
theorem dX4_storm_75 : decode cX4_storm 75 = .ok (.if_icmp .ge 67, 3) := by decide +kernel
theorem dX4_storm_78 : decode cX4_storm 78 = .ok (.iload 7, 2) := by decide +kernel
theorem dX4_storm_80 : decode cX4_storm 80 = .ok (.iload 10, 2) := by decide +kernel
theorem dX4_storm_82 : decode cX4_storm 82 = .ok (.invokestatic 100, 3) := by decide +kernel
theorem dX4_storm_85 : decode cX4_storm 85 = .ok (.istore 11, 2) := by decide +kernel
theorem dX4_storm_87 : decode cX4_storm 87 = .ok (.aload_n 0, 1) := by decide +kernel
theorem dX4_storm_88 : decode cX4_storm 88 = .ok (.getfield 16, 3) := by decide +kernel
theorem dX4_storm_91 : decode cX4_storm 91 = .ok (.iload 11, 2) := by decide +kernel
theorem dX4_storm_93 : decode cX4_storm 93 = .ok (.ifCond .eq 8, 3) := by decide +kernel
theorem dX4_storm_96 : decode cX4_storm 96 = .ok (.bipush 9, 2) := by decide +kernel
theorem dX4_storm_98 : decode cX4_storm 98 = .ok (.goto 10, 3) := by decide +kernel
theorem dX4_storm_101 : decode cX4_storm 101 = .ok (.aload_n 0, 1) := by decide +kernel
theorem dX4_storm_102 : decode cX4_storm 102 = .ok (.getfield 12, 3) := by decide +kernel
theorem dX4_storm_105 : decode cX4_storm 105 = .ok (.getfield 156, 3) := by decide +kernel
theorem dX4_storm_108 : decode cX4_storm 108 = .ok (.putfield 156, 3) := by decide +kernel
theorem dX4_storm_111 : decode cX4_storm 111 = .ok (.lload 8, 2) := by decide +kernel
theorem dX4_storm_113 : decode cX4_storm 113 = .ok (.iload 11, 2) := by decide +kernel
theorem dX4_storm_115 : decode cX4_storm 115 = .ok (.ifCond .eq 7, 3) := by decide +kernel
theorem dX4_storm_118 : decode cX4_storm 118 = .ok (.lconst 1, 1) := by decide +kernel
theorem dX4_storm_119 : decode cX4_storm 119 = .ok (.goto 7, 3) := by decide +kernel
theorem dX4_storm_122 : decode cX4_storm 122 = .ok (.iload_n 3, 1) := by decide +kernel
theorem dX4_storm_123 : decode cX4_storm 123 = .ok (.iconst 1, 1) := by decide +kernel
theorem dX4_storm_124 : decode cX4_storm 124 = .ok (.isub, 1) := by decide +kernel
theorem dX4_storm_125 : decode cX4_storm 125 = .ok (.i2l, 1) := by decide +kernel
theorem dX4_storm_126 : decode cX4_storm 126 = .ok (.lmul, 1) := by decide +kernel
theorem dX4_storm_127 : decode cX4_storm 127 = .ok (.lstore 8, 2) := by decide +kernel
theorem dX4_storm_129 : decode cX4_storm 129 = .ok (.aload_n 0, 1) := by decide +kernel
theorem dX4_storm_130 : decode cX4_storm 130 = .ok (.getfield 16, 3) := by decide +kernel
theorem dX4_storm_133 : decode cX4_storm 133 = .ok (.invokevirtual 182, 3) := by decide +kernel
theorem dX4_storm_136 : decode cX4_storm 136 = .ok (.iinc 10 1, 3) := by decide +kernel
theorem dX4_storm_139 : decode cX4_storm 139 = .ok (.goto (-67), 3) := by decide +kernel
theorem dX4_storm_142 : decode cX4_storm 142 = .ok (.aload_n 0, 1) := by decide +kernel
theorem dX4_storm_143 : decode cX4_storm 143 = .ok (.getfield 16, 3) := by decide +kernel
theorem dX4_storm_146 : decode cX4_storm 146 = .ok (.iload_n 1, 1) := by decide +kernel
theorem dX4_storm_147 : decode cX4_storm 147 = .ok (.invokevirtual 222, 3) := by decide +kernel
theorem dX4_storm_150 : decode cX4_storm 150 = .ok (.ifCond .eq 10, 3) := by decide +kernel
theorem dX4_storm_153 : decode cX4_storm 153 = .ok (.lload 5, 2) := by decide +kernel
theorem dX4_storm_155 : decode cX4_storm 155 = .ok (.lload 8, 2) := by decide +kernel
theorem dX4_storm_157 : decode cX4_storm 157 = .ok (.ladd, 1) := by decide +kernel
theorem dX4_storm_158 : decode cX4_storm 158 = .ok (.lstore 5, 2) := by decide +kernel
theorem dX4_storm_160 : decode cX4_storm 160 = .ok (.iinc 7 1, 3) := by decide +kernel
theorem dX4_storm_163 : decode cX4_storm 163 = .ok (.goto (-116), 3) := by decide +kernel
theorem dX4_storm_166 : decode cX4_storm 166 = .ok (.lconst 1, 1) := by decide +kernel
theorem dX4_storm_167 : decode cX4_storm 167 = .ok (.lstore 7, 2) := by decide +kernel
theorem dX4_storm_169 : decode cX4_storm 169 = .ok (.iconst 0, 1) := by decide +kernel
theorem dX4_storm_170 : decode cX4_storm 170 = .ok (.istore 9, 2) := by decide +kernel
theorem dX4_storm_172 : decode cX4_storm 172 = .ok (.iload 9, 2) := by decide +kernel
theorem dX4_storm_174 : decode cX4_storm 174 = .ok (.iload_n 2, 1) := by decide +kernel
theorem dX4_storm_175 : decode cX4_storm 175 = .ok (.if_icmp .ge 16, 3) := by decide +kernel
theorem dX4_storm_178 : decode cX4_storm 178 = .ok (.lload 7, 2) := by decide +kernel
theorem dX4_storm_180 : decode cX4_storm 180 = .ok (.iload_n 3, 1) := by decide +kernel
theorem dX4_storm_181 : decode cX4_storm 181 = .ok (.i2l, 1) := by decide +kernel
theorem dX4_storm_182 : decode cX4_storm 182 = .ok (.lmul, 1) := by decide +kernel
theorem dX4_storm_183 : decode cX4_storm 183 = .ok (.lstore 7, 2) := by decide +kernel
theorem dX4_storm_185 : decode cX4_storm 185 = .ok (.iinc 9 1, 3) := by decide +kernel
theorem dX4_storm_188 : decode cX4_storm 188 = .ok (.goto (-16), 3) := by decide +kernel
theorem dX4_storm_191 : decode cX4_storm 191 = .ok (.lload 5, 2) := by decide +kernel
theorem dX4_storm_193 : decode cX4_storm 193 = .ok (.lload 7, 2) := by decide +kernel
theorem dX4_storm_195 : decode cX4_storm 195 = .ok (.iload 4, 2) := by decide +kernel
theorem dX4_storm_197 : decode cX4_storm 197 = .ok (.invokestatic 225, 3) := by decide +kernel
theorem dX4_storm_200 : decode cX4_storm 200 = .ok (.lreturn, 1) := by decide +kernel
theorem dX4_mean_0 : decode cX4_mean 0 = .ok (.iload_n 1, 1) := by decide +kernel
theorem dX4_mean_1 : decode cX4_mean 1 = .ok (.iconst 0, 1) := by decide +kernel
theorem dX4_mean_2 : decode cX4_mean 2 = .ok (.iconst 1, 1) := by decide +kernel
theorem dX4_mean_3 : decode cX4_mean 3 = .ok (.invokestatic 129, 3) := by decide +kernel
theorem dX4_mean_6 : decode cX4_mean 6 = .ok (.ifCond .ne 7, 3) := by decide +kernel
theorem dX4_mean_9 : decode cX4_mean 9 = .ok (.ldc2_w 220, 3) := by decide +kernel
theorem dX4_mean_12 : decode cX4_mean 12 = .ok (.lreturn, 1) := by decide +kernel
theorem dX4_mean_13 : decode cX4_mean 13 = .ok (.aload_n 0, 1) := by decide +kernel
theorem dX4_mean_14 : decode cX4_mean 14 = .ok (.getfield 12, 3) := by decide +kernel
theorem dX4_mean_17 : decode cX4_mean 17 = .ok (.invokevirtual 202, 3) := by decide +kernel
theorem dX4_mean_20 : decode cX4_mean 20 = .ok (.i2l, 1) := by decide +kernel
theorem dX4_mean_21 : decode cX4_mean 21 = .ok (.ldc2_w 229, 3) := by decide +kernel
theorem dX4_mean_24 : decode cX4_mean 24 = .ok (.iload_n 1, 1) := by decide +kernel
theorem dX4_mean_25 : decode cX4_mean 25 = .ok (.invokestatic 225, 3) := by decide +kernel
theorem dX4_mean_28 : decode cX4_mean 28 = .ok (.lreturn, 1) := by decide +kernel
theorem dX4_forged_0 : decode cX4_forged 0 = .ok (.aload_n 0, 1) := by decide +kernel
theorem dX4_forged_1 : decode cX4_forged 1 = .ok (.iload_n 1, 1) := by decide +kernel
theorem dX4_forged_2 : decode cX4_forged 2 = .ok (.invokevirtual 40, 3) := by decide +kernel
theorem dX4_forged_5 : decode cX4_forged 5 = .ok (.astore_n 2, 1) := by decide +kernel
theorem dX4_forged_6 : decode cX4_forged 6 = .ok (.aload_n 2, 1) := by decide +kernel
theorem dX4_forged_7 : decode cX4_forged 7 = .ok (.iconst 2, 1) := by decide +kernel
theorem dX4_forged_8 : decode cX4_forged 8 = .ok (.invokestatic 133, 3) := by decide +kernel
theorem dX4_forged_11 : decode cX4_forged 11 = .ok (.istore_n 3, 1) := by decide +kernel
theorem dX4_forged_12 : decode cX4_forged 12 = .ok (.aload_n 2, 1) := by decide +kernel
theorem dX4_forged_13 : decode cX4_forged 13 = .ok (.ifnull 7, 3) := by decide +kernel
theorem dX4_forged_16 : decode cX4_forged 16 = .ok (.iload_n 3, 1) := by decide +kernel
theorem dX4_forged_17 : decode cX4_forged 17 = .ok (.ifCond .eq 5, 3) := by decide +kernel
theorem dX4_forged_20 : decode cX4_forged 20 = .ok (.iload_n 3, 1) := by decide +kernel
theorem dX4_forged_21 : decode cX4_forged 21 = .ok (.ireturn, 1) := by decide +kernel
theorem dX4_forged_22 : decode cX4_forged 22 = .ok (.iconst 0, 1) := by decide +kernel
theorem dX4_forged_23 : decode cX4_forged 23 = .ok (.istore 4, 2) := by decide +kernel
theorem dX4_forged_25 : decode cX4_forged 25 = .ok (.iload 4, 2) := by decide +kernel
theorem dX4_forged_27 : decode cX4_forged 27 = .ok (.aload_n 2, 1) := by decide +kernel
theorem dX4_forged_28 : decode cX4_forged 28 = .ok (.getfield 61, 3) := by decide +kernel
theorem dX4_forged_31 : decode cX4_forged 31 = .ok (.if_icmp .ge 43, 3) := by decide +kernel
theorem dX4_forged_34 : decode cX4_forged 34 = .ok (.iload 4, 2) := by decide +kernel
theorem dX4_forged_36 : decode cX4_forged 36 = .ok (.bipush 10, 2) := by decide +kernel
theorem dX4_forged_38 : decode cX4_forged 38 = .ok (.if_icmp .ge 27, 3) := by decide +kernel
theorem dX4_forged_41 : decode cX4_forged 41 = .ok (.aload_n 2, 1) := by decide +kernel
theorem dX4_forged_42 : decode cX4_forged 42 = .ok (.getfield 231, 3) := by decide +kernel
theorem dX4_forged_45 : decode cX4_forged 45 = .ok (.iload 4, 2) := by decide +kernel
theorem dX4_forged_47 : decode cX4_forged 47 = .ok (.iaload, 1) := by decide +kernel
theorem dX4_forged_48 : decode cX4_forged 48 = .ok (.iconst 0, 1) := by decide +kernel
theorem dX4_forged_49 : decode cX4_forged 49 = .ok (.aload_n 0, 1) := by decide +kernel
theorem dX4_forged_50 : decode cX4_forged 50 = .ok (.getfield 12, 3) := by decide +kernel
theorem dX4_forged_53 : decode cX4_forged 53 = .ok (.getfield 120, 3) := by decide +kernel
theorem dX4_forged_56 : decode cX4_forged 56 = .ok (.iload 4, 2) := by decide +kernel
theorem dX4_forged_58 : decode cX4_forged 58 = .ok (.iaload, 1) := by decide +kernel
theorem dX4_forged_59 : decode cX4_forged 59 = .ok (.invokestatic 129, 3) := by decide +kernel
theorem dX4_forged_62 : decode cX4_forged 62 = .ok (.ifCond .ne 6, 3) := by decide +kernel
theorem dX4_forged_65 : decode cX4_forged 65 = .ok (.iload 4, 2) := by decide +kernel
theorem dX4_forged_67 : decode cX4_forged 67 = .ok (.ireturn, 1) := by decide +kernel
theorem dX4_forged_68 : decode cX4_forged 68 = .ok (.iinc 4 1, 3) := by decide +kernel
theorem dX4_forged_71 : decode cX4_forged 71 = .ok (.goto (-46), 3) := by decide +kernel
theorem dX4_forged_74 : decode cX4_forged 74 = .ok (.bipush (-4), 2) := by decide +kernel
theorem dX4_forged_76 : decode cX4_forged 76 = .ok (.ireturn, 1) := by decide +kernel
theorem dX4_judge_0 : decode cX4_judge 0 = .ok (.aload_n 0, 1) := by decide +kernel
theorem dX4_judge_1 : decode cX4_judge 1 = .ok (.iload_n 1, 1) := by decide +kernel
theorem dX4_judge_2 : decode cX4_judge 2 = .ok (.invokevirtual 40, 3) := by decide +kernel
theorem dX4_judge_5 : decode cX4_judge 5 = .ok (.astore_n 2, 1) := by decide +kernel
theorem dX4_judge_6 : decode cX4_judge 6 = .ok (.aload_n 2, 1) := by decide +kernel
theorem dX4_judge_7 : decode cX4_judge 7 = .ok (.iconst 2, 1) := by decide +kernel
theorem dX4_judge_8 : decode cX4_judge 8 = .ok (.invokestatic 133, 3) := by decide +kernel
theorem dX4_judge_11 : decode cX4_judge 11 = .ok (.istore_n 3, 1) := by decide +kernel
theorem dX4_judge_12 : decode cX4_judge 12 = .ok (.aload_n 2, 1) := by decide +kernel
theorem dX4_judge_13 : decode cX4_judge 13 = .ok (.ifnull 7, 3) := by decide +kernel
theorem dX4_judge_16 : decode cX4_judge 16 = .ok (.iload_n 3, 1) := by decide +kernel
theorem dX4_judge_17 : decode cX4_judge 17 = .ok (.ifCond .eq 5, 3) := by decide +kernel
theorem dX4_judge_20 : decode cX4_judge 20 = .ok (.iload_n 3, 1) := by decide +kernel
theorem dX4_judge_21 : decode cX4_judge 21 = .ok (.ireturn, 1) := by decide +kernel
theorem dX4_judge_22 : decode cX4_judge 22 = .ok (.aload_n 0, 1) := by decide +kernel
theorem dX4_judge_23 : decode cX4_judge 23 = .ok (.getfield 16, 3) := by decide +kernel
theorem dX4_judge_26 : decode cX4_judge 26 = .ok (.aload_n 0, 1) := by decide +kernel
theorem dX4_judge_27 : decode cX4_judge 27 = .ok (.getfield 12, 3) := by decide +kernel
theorem dX4_judge_30 : decode cX4_judge 30 = .ok (.invokevirtual 57, 3) := by decide +kernel
theorem dX4_judge_33 : decode cX4_judge 33 = .ok (.iconst 0, 1) := by decide +kernel
theorem dX4_judge_34 : decode cX4_judge 34 = .ok (.istore 4, 2) := by decide +kernel
theorem dX4_judge_36 : decode cX4_judge 36 = .ok (.iload 4, 2) := by decide +kernel
theorem dX4_judge_38 : decode cX4_judge 38 = .ok (.aload_n 2, 1) := by decide +kernel
theorem dX4_judge_39 : decode cX4_judge 39 = .ok (.getfield 61, 3) := by decide +kernel
theorem dX4_judge_42 : decode cX4_judge 42 = .ok (.if_icmp .ge 35, 3) := by decide +kernel
theorem dX4_judge_45 : decode cX4_judge 45 = .ok (.aload_n 2, 1) := by decide +kernel
theorem dX4_judge_46 : decode cX4_judge 46 = .ok (.iload 4, 2) := by decide +kernel
theorem dX4_judge_48 : decode cX4_judge 48 = .ok (.aload_n 0, 1) := by decide +kernel
theorem dX4_judge_49 : decode cX4_judge 49 = .ok (.getfield 16, 3) := by decide +kernel
theorem dX4_judge_52 : decode cX4_judge 52 = .ok (.invokevirtual 163, 3) := by decide +kernel
theorem dX4_judge_55 : decode cX4_judge 55 = .ok (.invokevirtual 234, 3) := by decide +kernel
theorem dX4_judge_58 : decode cX4_judge 58 = .ok (.ifCond .ne 6, 3) := by decide +kernel
theorem dX4_judge_61 : decode cX4_judge 61 = .ok (.iload 4, 2) := by decide +kernel
theorem dX4_judge_63 : decode cX4_judge 63 = .ok (.ireturn, 1) := by decide +kernel
theorem dX4_judge_64 : decode cX4_judge 64 = .ok (.aload_n 0, 1) := by decide +kernel
theorem dX4_judge_65 : decode cX4_judge 65 = .ok (.getfield 16, 3) := by decide +kernel
theorem dX4_judge_68 : decode cX4_judge 68 = .ok (.invokevirtual 182, 3) := by decide +kernel
theorem dX4_judge_71 : decode cX4_judge 71 = .ok (.iinc 4 1, 3) := by decide +kernel
theorem dX4_judge_74 : decode cX4_judge 74 = .ok (.goto (-38), 3) := by decide +kernel
theorem dX4_judge_77 : decode cX4_judge 77 = .ok (.bipush (-4), 2) := by decide +kernel
theorem dX4_judge_79 : decode cX4_judge 79 = .ok (.ireturn, 1) := by decide +kernel
theorem dX4_deserts_0 : decode cX4_deserts 0 = .ok (.iload_n 1, 1) := by decide +kernel
theorem dX4_deserts_1 : decode cX4_deserts 1 = .ok (.iconst 1, 1) := by decide +kernel
theorem dX4_deserts_2 : decode cX4_deserts 2 = .ok (.bipush 20, 2) := by decide +kernel
theorem dX4_deserts_4 : decode cX4_deserts 4 = .ok (.invokestatic 129, 3) := by decide +kernel
theorem dX4_deserts_7 : decode cX4_deserts 7 = .ok (.ifCond .eq 12, 3) := by decide +kernel
theorem dX4_deserts_10 : decode cX4_deserts 10 = .ok (.iload_n 3, 1) := by decide +kernel
theorem dX4_deserts_11 : decode cX4_deserts 11 = .ok (.iconst 0, 1) := by decide +kernel
theorem dX4_deserts_12 : decode cX4_deserts 12 = .ok (.iconst 1, 1) := by decide +kernel
theorem dX4_deserts_13 : decode cX4_deserts 13 = .ok (.invokestatic 129, 3) := by decide +kernel
theorem dX4_deserts_16 : decode cX4_deserts 16 = .ok (.ifCond .ne 5, 3) := by decide +kernel
theorem dX4_deserts_19 : decode cX4_deserts 19 = .ok (.iconst (-1), 1) := by decide +kernel
theorem dX4_deserts_20 : decode cX4_deserts 20 = .ok (.ireturn, 1) := by decide +kernel
theorem dX4_deserts_21 : decode cX4_deserts 21 = .ok (.aload_n 0, 1) := by decide +kernel
theorem dX4_deserts_22 : decode cX4_deserts 22 = .ok (.getfield 12, 3) := by decide +kernel
theorem dX4_deserts_25 : decode cX4_deserts 25 = .ok (.invokevirtual 163, 3) := by decide +kernel
theorem dX4_deserts_28 : decode cX4_deserts 28 = .ok (.istore 4, 2) := by decide +kernel
theorem dX4_deserts_30 : decode cX4_deserts 30 = .ok (.iconst 0, 1) := by decide +kernel
theorem dX4_deserts_31 : decode cX4_deserts 31 = .ok (.istore 5, 2) := by decide +kernel
theorem dX4_deserts_33 : decode cX4_deserts 33 = .ok (.iconst 0, 1) := by decide +kernel
theorem dX4_deserts_34 : decode cX4_deserts 34 = .ok (.istore 6, 2) := by decide +kernel
theorem dX4_deserts_36 : decode cX4_deserts 36 = .ok (.iload_n 2, 1) := by decide +kernel
theorem dX4_deserts_37 : decode cX4_deserts 37 = .ok (.istore 7, 2) := by decide +kernel
theorem dX4_deserts_39 : decode cX4_deserts 39 = .ok (.iconst 0, 1) := by decide +kernel
theorem dX4_deserts_40 : decode cX4_deserts 40 = .ok (.istore 8, 2) := by decide +kernel
theorem dX4_deserts_42 : decode cX4_deserts 42 = .ok (.iload 8, 2) := by decide +kernel
theorem dX4_deserts_44 : decode cX4_deserts 44 = .ok (.iload_n 1, 1) := by decide +kernel
theorem dX4_deserts_45 : decode cX4_deserts 45 = .ok (.if_icmp .ge 99, 3) := by decide +kernel
theorem dX4_deserts_48 : decode cX4_deserts 48 = .ok (.aload_n 0, 1) := by decide +kernel
theorem dX4_deserts_49 : decode cX4_deserts 49 = .ok (.getfield 16, 3) := by decide +kernel
theorem dX4_deserts_52 : decode cX4_deserts 52 = .ok (.aload_n 0, 1) := by decide +kernel
theorem dX4_deserts_53 : decode cX4_deserts 53 = .ok (.getfield 12, 3) := by decide +kernel
theorem dX4_deserts_56 : decode cX4_deserts 56 = .ok (.invokevirtual 57, 3) := by decide +kernel
theorem dX4_deserts_59 : decode cX4_deserts 59 = .ok (.iconst 0, 1) := by decide +kernel
theorem dX4_deserts_60 : decode cX4_deserts 60 = .ok (.istore 9, 2) := by decide +kernel
theorem dX4_deserts_62 : decode cX4_deserts 62 = .ok (.iload 9, 2) := by decide +kernel
theorem dX4_deserts_64 : decode cX4_deserts 64 = .ok (.bipush 10, 2) := by decide +kernel
theorem dX4_deserts_66 : decode cX4_deserts 66 = .ok (.if_icmp .ge 33, 3) := by decide +kernel
theorem dX4_deserts_69 : decode cX4_deserts 69 = .ok (.iload 7, 2) := by decide +kernel
theorem dX4_deserts_71 : decode cX4_deserts 71 = .ok (.invokestatic 237, 3) := by decide +kernel
theorem dX4_deserts_74 : decode cX4_deserts 74 = .ok (.istore 7, 2) := by decide +kernel
theorem dX4_deserts_76 : decode cX4_deserts 76 = .ok (.aload_n 0, 1) := by decide +kernel
theorem dX4_deserts_77 : decode cX4_deserts 77 = .ok (.getfield 16, 3) := by decide +kernel
theorem dX4_deserts_80 : decode cX4_deserts 80 = .ok (.iload 9, 2) := by decide +kernel
theorem dX4_deserts_82 : decode cX4_deserts 82 = .ok (.iload 7, 2) := by decide +kernel
theorem dX4_deserts_84 : decode cX4_deserts 84 = .ok (.sipush 200, 3) := by decide +kernel
theorem dX4_deserts_87 : decode cX4_deserts 87 = .ok (.invokestatic 240, 3) := by decide +kernel
theorem dX4_deserts_90 : decode cX4_deserts 90 = .ok (.invokevirtual 151, 3) := by decide +kernel
theorem dX4_deserts_93 : decode cX4_deserts 93 = .ok (.iinc 9 1, 3) := by decide +kernel
theorem dX4_deserts_96 : decode cX4_deserts 96 = .ok (.goto (-34), 3) := by decide +kernel
theorem dX4_deserts_99 : decode cX4_deserts 99 = .ok (.aload_n 0, 1) := by decide +kernel
theorem dX4_deserts_100 : decode cX4_deserts 100 = .ok (.getfield 16, 3) := by decide +kernel
theorem dX4_deserts_103 : decode cX4_deserts 103 = .ok (.bipush 10, 2) := by decide +kernel
theorem dX4_deserts_105 : decode cX4_deserts 105 = .ok (.invokevirtual 170, 3) := by decide +kernel
theorem dX4_deserts_108 : decode cX4_deserts 108 = .ok (.iload 5, 2) := by decide +kernel
theorem dX4_deserts_110 : decode cX4_deserts 110 = .ok (.aload_n 0, 1) := by decide +kernel
theorem dX4_deserts_111 : decode cX4_deserts 111 = .ok (.getfield 16, 3) := by decide +kernel
theorem dX4_deserts_114 : decode cX4_deserts 114 = .ok (.invokevirtual 179, 3) := by decide +kernel
theorem dX4_deserts_117 : decode cX4_deserts 117 = .ok (.invokestatic 191, 3) := by decide +kernel
theorem dX4_deserts_120 : decode cX4_deserts 120 = .ok (.iadd, 1) := by decide +kernel
theorem dX4_deserts_121 : decode cX4_deserts 121 = .ok (.istore 5, 2) := by decide +kernel
theorem dX4_deserts_123 : decode cX4_deserts 123 = .ok (.iload 6, 2) := by decide +kernel
theorem dX4_deserts_125 : decode cX4_deserts 125 = .ok (.aload_n 0, 1) := by decide +kernel
theorem dX4_deserts_126 : decode cX4_deserts 126 = .ok (.getfield 16, 3) := by decide +kernel
theorem dX4_deserts_129 : decode cX4_deserts 129 = .ok (.invokevirtual 163, 3) := by decide +kernel
theorem dX4_deserts_132 : decode cX4_deserts 132 = .ok (.iload 4, 2) := by decide +kernel
theorem dX4_deserts_134 : decode cX4_deserts 134 = .ok (.isub, 1) := by decide +kernel
theorem dX4_deserts_135 : decode cX4_deserts 135 = .ok (.iadd, 1) := by decide +kernel
theorem dX4_deserts_136 : decode cX4_deserts 136 = .ok (.istore 6, 2) := by decide +kernel
theorem dX4_deserts_138 : decode cX4_deserts 138 = .ok (.iinc 8 1, 3) := by decide +kernel
theorem dX4_deserts_141 : decode cX4_deserts 141 = .ok (.goto (-99), 3) := by decide +kernel
theorem dX4_deserts_144 : decode cX4_deserts 144 = .ok (.iload_n 3, 1) := by decide +kernel
theorem dX4_deserts_145 : decode cX4_deserts 145 = .ok (.ifCond .ne 8, 3) := by decide +kernel
theorem dX4_deserts_148 : decode cX4_deserts 148 = .ok (.iload 5, 2) := by decide +kernel
theorem dX4_deserts_150 : decode cX4_deserts 150 = .ok (.goto 5, 3) := by decide +kernel
theorem dX4_deserts_153 : decode cX4_deserts 153 = .ok (.iload 6, 2) := by decide +kernel
theorem dX4_deserts_155 : decode cX4_deserts 155 = .ok (.ireturn, 1) := by decide +kernel
theorem dX4_image_0 : decode cX4_image 0 = .ok (.aload_n 0, 1) := by decide +kernel
theorem dX4_image_1 : decode cX4_image 1 = .ok (.getfield 19, 3) := by decide +kernel
theorem dX4_image_4 : decode cX4_image 4 = .ok (.aload_n 0, 1) := by decide +kernel
theorem dX4_image_5 : decode cX4_image 5 = .ok (.getfield 12, 3) := by decide +kernel
theorem dX4_image_8 : decode cX4_image 8 = .ok (.invokevirtual 57, 3) := by decide +kernel
theorem dX4_image_11 : decode cX4_image 11 = .ok (.aload_n 0, 1) := by decide +kernel
theorem dX4_image_12 : decode cX4_image 12 = .ok (.iconst 1, 1) := by decide +kernel
theorem dX4_image_13 : decode cX4_image 13 = .ok (.putfield 22, 3) := by decide +kernel
theorem dX4_image_16 : decode cX4_image 16 = .ok (.aload_n 0, 1) := by decide +kernel
theorem dX4_image_17 : decode cX4_image 17 = .ok (.getfield 12, 3) := by decide +kernel
theorem dX4_image_20 : decode cX4_image 20 = .ok (.getfield 108, 3) := by decide +kernel
theorem dX4_image_23 : decode cX4_image 23 = .ok (.ireturn, 1) := by decide +kernel
theorem dX4_restore_0 : decode cX4_restore 0 = .ok (.aload_n 0, 1) := by decide +kernel
theorem dX4_restore_1 : decode cX4_restore 1 = .ok (.getfield 22, 3) := by decide +kernel
theorem dX4_restore_4 : decode cX4_restore 4 = .ok (.ifCond .ne 6, 3) := by decide +kernel
theorem dX4_restore_7 : decode cX4_restore 7 = .ok (.bipush (-3), 2) := by decide +kernel
theorem dX4_restore_9 : decode cX4_restore 9 = .ok (.ireturn, 1) := by decide +kernel
theorem dX4_restore_10 : decode cX4_restore 10 = .ok (.aload_n 0, 1) := by decide +kernel
theorem dX4_restore_11 : decode cX4_restore 11 = .ok (.getfield 12, 3) := by decide +kernel
theorem dX4_restore_14 : decode cX4_restore 14 = .ok (.aload_n 0, 1) := by decide +kernel
theorem dX4_restore_15 : decode cX4_restore 15 = .ok (.getfield 19, 3) := by decide +kernel
theorem dX4_restore_18 : decode cX4_restore 18 = .ok (.invokevirtual 57, 3) := by decide +kernel
theorem dX4_restore_21 : decode cX4_restore 21 = .ok (.aload_n 0, 1) := by decide +kernel
theorem dX4_restore_22 : decode cX4_restore 22 = .ok (.getfield 12, 3) := by decide +kernel
theorem dX4_restore_25 : decode cX4_restore 25 = .ok (.getfield 108, 3) := by decide +kernel
theorem dX4_restore_28 : decode cX4_restore 28 = .ok (.ireturn, 1) := by decide +kernel
theorem dX4_count_0 : decode cX4_count 0 = .ok (.iload_n 1, 1) := by decide +kernel
theorem dX4_count_1 : decode cX4_count 1 = .ok (.tableswitch 102 0 6 #[43, 51, 59, 67, 75, 83, 91], 43) := by decide +kernel
theorem dX4_count_44 : decode cX4_count 44 = .ok (.aload_n 0, 1) := by decide +kernel
theorem dX4_count_45 : decode cX4_count 45 = .ok (.getfield 12, 3) := by decide +kernel
theorem dX4_count_48 : decode cX4_count 48 = .ok (.getfield 148, 3) := by decide +kernel
theorem dX4_count_51 : decode cX4_count 51 = .ok (.ireturn, 1) := by decide +kernel
theorem dX4_count_52 : decode cX4_count 52 = .ok (.aload_n 0, 1) := by decide +kernel
theorem dX4_count_53 : decode cX4_count 53 = .ok (.getfield 12, 3) := by decide +kernel
theorem dX4_count_56 : decode cX4_count 56 = .ok (.getfield 108, 3) := by decide +kernel
theorem dX4_count_59 : decode cX4_count 59 = .ok (.ireturn, 1) := by decide +kernel
theorem dX4_count_60 : decode cX4_count 60 = .ok (.aload_n 0, 1) := by decide +kernel
theorem dX4_count_61 : decode cX4_count 61 = .ok (.getfield 12, 3) := by decide +kernel
theorem dX4_count_64 : decode cX4_count 64 = .ok (.invokevirtual 202, 3) := by decide +kernel
theorem dX4_count_67 : decode cX4_count 67 = .ok (.ireturn, 1) := by decide +kernel
theorem dX4_count_68 : decode cX4_count 68 = .ok (.aload_n 0, 1) := by decide +kernel
theorem dX4_count_69 : decode cX4_count 69 = .ok (.getfield 12, 3) := by decide +kernel
theorem dX4_count_72 : decode cX4_count 72 = .ok (.invokevirtual 243, 3) := by decide +kernel
theorem dX4_count_75 : decode cX4_count 75 = .ok (.ireturn, 1) := by decide +kernel
theorem dX4_count_76 : decode cX4_count 76 = .ok (.aload_n 0, 1) := by decide +kernel
theorem dX4_count_77 : decode cX4_count 77 = .ok (.getfield 12, 3) := by decide +kernel
theorem dX4_count_80 : decode cX4_count 80 = .ok (.invokevirtual 163, 3) := by decide +kernel
theorem dX4_count_83 : decode cX4_count 83 = .ok (.ireturn, 1) := by decide +kernel
theorem dX4_count_84 : decode cX4_count 84 = .ok (.aload_n 0, 1) := by decide +kernel
theorem dX4_count_85 : decode cX4_count 85 = .ok (.getfield 12, 3) := by decide +kernel
theorem dX4_count_88 : decode cX4_count 88 = .ok (.getfield 97, 3) := by decide +kernel
theorem dX4_count_91 : decode cX4_count 91 = .ok (.ireturn, 1) := by decide +kernel
theorem dX4_count_92 : decode cX4_count 92 = .ok (.aload_n 0, 1) := by decide +kernel
theorem dX4_count_93 : decode cX4_count 93 = .ok (.getfield 12, 3) := by decide +kernel
theorem dX4_count_96 : decode cX4_count 96 = .ok (.getfield 156, 3) := by decide +kernel
theorem dX4_count_99 : decode cX4_count 99 = .ok (.bipush 9, 2) := by decide +kernel
theorem dX4_count_101 : decode cX4_count 101 = .ok (.iadd, 1) := by decide +kernel
theorem dX4_count_102 : decode cX4_count 102 = .ok (.ireturn, 1) := by decide +kernel
theorem dX4_count_103 : decode cX4_count 103 = .ok (.iconst (-1), 1) := by decide +kernel
theorem dX4_count_104 : decode cX4_count 104 = .ok (.ireturn, 1) := by decide +kernel
theorem dX4_keep_0 : decode cX4_keep 0 = .ok (.aload_n 0, 1) := by decide +kernel
theorem dX4_keep_1 : decode cX4_keep 1 = .ok (.iload_n 1, 1) := by decide +kernel
theorem dX4_keep_2 : decode cX4_keep 2 = .ok (.invokevirtual 40, 3) := by decide +kernel
theorem dX4_keep_5 : decode cX4_keep 5 = .ok (.astore 5, 2) := by decide +kernel
theorem dX4_keep_7 : decode cX4_keep 7 = .ok (.aload 5, 2) := by decide +kernel
theorem dX4_keep_9 : decode cX4_keep 9 = .ok (.ifnull 12, 3) := by decide +kernel
theorem dX4_keep_12 : decode cX4_keep 12 = .ok (.iload_n 2, 1) := by decide +kernel
theorem dX4_keep_13 : decode cX4_keep 13 = .ok (.iconst 0, 1) := by decide +kernel
theorem dX4_keep_14 : decode cX4_keep 14 = .ok (.iconst 1, 1) := by decide +kernel
theorem dX4_keep_15 : decode cX4_keep 15 = .ok (.invokestatic 129, 3) := by decide +kernel
theorem dX4_keep_18 : decode cX4_keep 18 = .ok (.ifCond .ne 5, 3) := by decide +kernel
theorem dX4_keep_21 : decode cX4_keep 21 = .ok (.iconst (-1), 1) := by decide +kernel
theorem dX4_keep_22 : decode cX4_keep 22 = .ok (.ireturn, 1) := by decide +kernel
theorem dX4_keep_23 : decode cX4_keep 23 = .ok (.iload_n 2, 1) := by decide +kernel
theorem dX4_keep_24 : decode cX4_keep 24 = .ok (.ifCond .ne 10, 3) := by decide +kernel
theorem dX4_keep_27 : decode cX4_keep 27 = .ok (.aload 5, 2) := by decide +kernel
theorem dX4_keep_29 : decode cX4_keep 29 = .ok (.invokevirtual 246, 3) := by decide +kernel
theorem dX4_keep_32 : decode cX4_keep 32 = .ok (.iconst 0, 1) := by decide +kernel
theorem dX4_keep_33 : decode cX4_keep 33 = .ok (.ireturn, 1) := by decide +kernel
theorem dX4_keep_34 : decode cX4_keep 34 = .ok (.iload_n 3, 1) := by decide +kernel
theorem dX4_keep_35 : decode cX4_keep 35 = .ok (.iconst 0, 1) := by decide +kernel
theorem dX4_keep_36 : decode cX4_keep 36 = .ok (.bipush 7, 2) := by decide +kernel
theorem dX4_keep_38 : decode cX4_keep 38 = .ok (.invokestatic 129, 3) := by decide +kernel
theorem dX4_keep_41 : decode cX4_keep 41 = .ok (.ifCond .eq 14, 3) := by decide +kernel
theorem dX4_keep_44 : decode cX4_keep 44 = .ok (.iload 4, 2) := by decide +kernel
theorem dX4_keep_46 : decode cX4_keep 46 = .ok (.iconst 0, 1) := by decide +kernel
theorem dX4_keep_47 : decode cX4_keep 47 = .ok (.bipush 9, 2) := by decide +kernel
theorem dX4_keep_49 : decode cX4_keep 49 = .ok (.invokestatic 129, 3) := by decide +kernel
theorem dX4_keep_52 : decode cX4_keep 52 = .ok (.ifCond .ne 5, 3) := by decide +kernel
theorem dX4_keep_55 : decode cX4_keep 55 = .ok (.iconst (-1), 1) := by decide +kernel
theorem dX4_keep_56 : decode cX4_keep 56 = .ok (.ireturn, 1) := by decide +kernel
theorem dX4_keep_57 : decode cX4_keep 57 = .ok (.aload 5, 2) := by decide +kernel
theorem dX4_keep_59 : decode cX4_keep 59 = .ok (.iload_n 3, 1) := by decide +kernel
theorem dX4_keep_60 : decode cX4_keep 60 = .ok (.iload 4, 2) := by decide +kernel
theorem dX4_keep_62 : decode cX4_keep 62 = .ok (.invokevirtual 249, 3) := by decide +kernel
theorem dX4_keep_65 : decode cX4_keep 65 = .ok (.iconst 0, 1) := by decide +kernel
theorem dX4_keep_66 : decode cX4_keep 66 = .ok (.ireturn, 1) := by decide +kernel
theorem dX4_row_0 : decode cX4_row 0 = .ok (.aload_n 0, 1) := by decide +kernel
theorem dX4_row_1 : decode cX4_row 1 = .ok (.iload_n 1, 1) := by decide +kernel
theorem dX4_row_2 : decode cX4_row 2 = .ok (.invokevirtual 40, 3) := by decide +kernel
theorem dX4_row_5 : decode cX4_row 5 = .ok (.astore 4, 2) := by decide +kernel
theorem dX4_row_7 : decode cX4_row 7 = .ok (.aload 4, 2) := by decide +kernel
theorem dX4_row_9 : decode cX4_row 9 = .ok (.ifnull 18, 3) := by decide +kernel
theorem dX4_row_12 : decode cX4_row 12 = .ok (.iload_n 2, 1) := by decide +kernel
theorem dX4_row_13 : decode cX4_row 13 = .ok (.iconst 0, 1) := by decide +kernel
theorem dX4_row_14 : decode cX4_row 14 = .ok (.iconst 2, 1) := by decide +kernel
theorem dX4_row_15 : decode cX4_row 15 = .ok (.invokestatic 129, 3) := by decide +kernel
theorem dX4_row_18 : decode cX4_row 18 = .ok (.ifCond .eq 9, 3) := by decide +kernel
theorem dX4_row_21 : decode cX4_row 21 = .ok (.iload_n 3, 1) := by decide +kernel
theorem dX4_row_22 : decode cX4_row 22 = .ok (.bipush 100, 2) := by decide +kernel
theorem dX4_row_24 : decode cX4_row 24 = .ok (.if_icmp .le 5, 3) := by decide +kernel
theorem dX4_row_27 : decode cX4_row 27 = .ok (.iconst (-1), 1) := by decide +kernel
theorem dX4_row_28 : decode cX4_row 28 = .ok (.ireturn, 1) := by decide +kernel
theorem dX4_row_29 : decode cX4_row 29 = .ok (.iload_n 3, 1) := by decide +kernel
theorem dX4_row_30 : decode cX4_row 30 = .ok (.ifCond .ge 6, 3) := by decide +kernel
theorem dX4_row_33 : decode cX4_row 33 = .ok (.bipush (-14), 2) := by decide +kernel
theorem dX4_row_35 : decode cX4_row 35 = .ok (.ireturn, 1) := by decide +kernel
theorem dX4_row_36 : decode cX4_row 36 = .ok (.aload 4, 2) := by decide +kernel
theorem dX4_row_38 : decode cX4_row 38 = .ok (.iload_n 2, 1) := by decide +kernel
theorem dX4_row_39 : decode cX4_row 39 = .ok (.iload_n 3, 1) := by decide +kernel
theorem dX4_row_40 : decode cX4_row 40 = .ok (.invokevirtual 252, 3) := by decide +kernel
theorem dX4_row_43 : decode cX4_row 43 = .ok (.iconst 0, 1) := by decide +kernel
theorem dX4_row_44 : decode cX4_row 44 = .ok (.ireturn, 1) := by decide +kernel
theorem dX4_put_0 : decode cX4_put 0 = .ok (.aload_n 0, 1) := by decide +kernel
theorem dX4_put_1 : decode cX4_put 1 = .ok (.iload_n 1, 1) := by decide +kernel
theorem dX4_put_2 : decode cX4_put 2 = .ok (.invokevirtual 40, 3) := by decide +kernel
theorem dX4_put_5 : decode cX4_put 5 = .ok (.astore 4, 2) := by decide +kernel
theorem dX4_put_7 : decode cX4_put 7 = .ok (.aload 4, 2) := by decide +kernel
theorem dX4_put_9 : decode cX4_put 9 = .ok (.iconst 2, 1) := by decide +kernel
theorem dX4_put_10 : decode cX4_put 10 = .ok (.invokestatic 133, 3) := by decide +kernel
theorem dX4_put_13 : decode cX4_put 13 = .ok (.istore 5, 2) := by decide +kernel
theorem dX4_put_15 : decode cX4_put 15 = .ok (.aload 4, 2) := by decide +kernel
theorem dX4_put_17 : decode cX4_put 17 = .ok (.ifnull 8, 3) := by decide +kernel
theorem dX4_put_20 : decode cX4_put 20 = .ok (.iload 5, 2) := by decide +kernel
theorem dX4_put_22 : decode cX4_put 22 = .ok (.ifCond .eq 6, 3) := by decide +kernel
theorem dX4_put_25 : decode cX4_put 25 = .ok (.iload 5, 2) := by decide +kernel
theorem dX4_put_27 : decode cX4_put 27 = .ok (.ireturn, 1) := by decide +kernel
theorem dX4_put_28 : decode cX4_put 28 = .ok (.aload 4, 2) := by decide +kernel
theorem dX4_put_30 : decode cX4_put 30 = .ok (.iload_n 2, 1) := by decide +kernel
theorem dX4_put_31 : decode cX4_put 31 = .ok (.invokevirtual 255, 3) := by decide +kernel
theorem dX4_put_34 : decode cX4_put 34 = .ok (.ifCond .ne 6, 3) := by decide +kernel
theorem dX4_put_37 : decode cX4_put 37 = .ok (.bipush (-13), 2) := by decide +kernel
theorem dX4_put_39 : decode cX4_put 39 = .ok (.ireturn, 1) := by decide +kernel
theorem dX4_put_40 : decode cX4_put 40 = .ok (.aload 4, 2) := by decide +kernel
theorem dX4_put_42 : decode cX4_put 42 = .ok (.iload_n 2, 1) := by decide +kernel
theorem dX4_put_43 : decode cX4_put 43 = .ok (.iload_n 3, 1) := by decide +kernel
theorem dX4_put_44 : decode cX4_put 44 = .ok (.invokevirtual 258, 3) := by decide +kernel
theorem dX4_put_47 : decode cX4_put 47 = .ok (.iconst 0, 1) := by decide +kernel
theorem dX4_put_48 : decode cX4_put 48 = .ok (.ireturn, 1) := by decide +kernel
theorem dX4_element_0 : decode cX4_element 0 = .ok (.aload_n 0, 1) := by decide +kernel
theorem dX4_element_1 : decode cX4_element 1 = .ok (.iload_n 1, 1) := by decide +kernel
theorem dX4_element_2 : decode cX4_element 2 = .ok (.invokevirtual 40, 3) := by decide +kernel
theorem dX4_element_5 : decode cX4_element 5 = .ok (.astore_n 3, 1) := by decide +kernel
theorem dX4_element_6 : decode cX4_element 6 = .ok (.aload_n 3, 1) := by decide +kernel
theorem dX4_element_7 : decode cX4_element 7 = .ok (.ifnonnull 14, 3) := by decide +kernel
theorem dX4_element_10 : decode cX4_element 10 = .ok (.new 261, 3) := by decide +kernel
theorem dX4_element_13 : decode cX4_element 13 = .ok (.dup, 1) := by decide +kernel
theorem dX4_element_14 : decode cX4_element 14 = .ok (.ldc_w 263, 3) := by decide +kernel
theorem dX4_element_17 : decode cX4_element 17 = .ok (.invokespecial 265, 3) := by decide +kernel
theorem dX4_element_20 : decode cX4_element 20 = .ok (.athrow, 1) := by decide +kernel
theorem dX4_element_21 : decode cX4_element 21 = .ok (.aload_n 3, 1) := by decide +kernel
theorem dX4_element_22 : decode cX4_element 22 = .ok (.getfield 44, 3) := by decide +kernel
theorem dX4_element_25 : decode cX4_element 25 = .ok (.iconst 2, 1) := by decide +kernel
theorem dX4_element_26 : decode cX4_element 26 = .ok (.if_icmp .ne 11, 3) := by decide +kernel
theorem dX4_element_29 : decode cX4_element 29 = .ok (.aload_n 3, 1) := by decide +kernel
theorem dX4_element_30 : decode cX4_element 30 = .ok (.iload_n 2, 1) := by decide +kernel
theorem dX4_element_31 : decode cX4_element 31 = .ok (.invokevirtual 255, 3) := by decide +kernel
theorem dX4_element_34 : decode cX4_element 34 = .ok (.ifCond .ne 14, 3) := by decide +kernel
theorem dX4_element_37 : decode cX4_element 37 = .ok (.new 268, 3) := by decide +kernel
theorem dX4_element_40 : decode cX4_element 40 = .ok (.dup, 1) := by decide +kernel
theorem dX4_element_41 : decode cX4_element 41 = .ok (.ldc_w 270, 3) := by decide +kernel
theorem dX4_element_44 : decode cX4_element 44 = .ok (.invokespecial 272, 3) := by decide +kernel
theorem dX4_element_47 : decode cX4_element 47 = .ok (.athrow, 1) := by decide +kernel
theorem dX4_element_48 : decode cX4_element 48 = .ok (.aload_n 3, 1) := by decide +kernel
theorem dX4_element_49 : decode cX4_element 49 = .ok (.getfield 231, 3) := by decide +kernel
theorem dX4_element_52 : decode cX4_element 52 = .ok (.iload_n 2, 1) := by decide +kernel
theorem dX4_element_53 : decode cX4_element 53 = .ok (.iaload, 1) := by decide +kernel
theorem dX4_element_54 : decode cX4_element 54 = .ok (.i2l, 1) := by decide +kernel
theorem dX4_element_55 : decode cX4_element 55 = .ok (.lreturn, 1) := by decide +kernel
theorem dX4_copy_0 : decode cX4_copy 0 = .ok (.aload_n 0, 1) := by decide +kernel
theorem dX4_copy_1 : decode cX4_copy 1 = .ok (.iload_n 1, 1) := by decide +kernel
theorem dX4_copy_2 : decode cX4_copy 2 = .ok (.invokevirtual 40, 3) := by decide +kernel
theorem dX4_copy_5 : decode cX4_copy 5 = .ok (.astore 6, 2) := by decide +kernel
theorem dX4_copy_7 : decode cX4_copy 7 = .ok (.aload_n 0, 1) := by decide +kernel
theorem dX4_copy_8 : decode cX4_copy 8 = .ok (.iload_n 3, 1) := by decide +kernel
theorem dX4_copy_9 : decode cX4_copy 9 = .ok (.invokevirtual 40, 3) := by decide +kernel
theorem dX4_copy_12 : decode cX4_copy 12 = .ok (.astore 7, 2) := by decide +kernel
theorem dX4_copy_14 : decode cX4_copy 14 = .ok (.aload 6, 2) := by decide +kernel
theorem dX4_copy_16 : decode cX4_copy 16 = .ok (.ifnull 8, 3) := by decide +kernel
theorem dX4_copy_19 : decode cX4_copy 19 = .ok (.aload 7, 2) := by decide +kernel
theorem dX4_copy_21 : decode cX4_copy 21 = .ok (.ifnonnull 5, 3) := by decide +kernel
theorem dX4_copy_24 : decode cX4_copy 24 = .ok (.iconst (-1), 1) := by decide +kernel
theorem dX4_copy_25 : decode cX4_copy 25 = .ok (.ireturn, 1) := by decide +kernel
theorem dX4_copy_26 : decode cX4_copy 26 = .ok (.aload 6, 2) := by decide +kernel
theorem dX4_copy_28 : decode cX4_copy 28 = .ok (.getfield 44, 3) := by decide +kernel
theorem dX4_copy_31 : decode cX4_copy 31 = .ok (.ifCond .eq 11, 3) := by decide +kernel
theorem dX4_copy_34 : decode cX4_copy 34 = .ok (.aload 7, 2) := by decide +kernel
theorem dX4_copy_36 : decode cX4_copy 36 = .ok (.getfield 44, 3) := by decide +kernel
theorem dX4_copy_39 : decode cX4_copy 39 = .ok (.ifCond .ne 6, 3) := by decide +kernel
theorem dX4_copy_42 : decode cX4_copy 42 = .ok (.bipush (-11), 2) := by decide +kernel
theorem dX4_copy_44 : decode cX4_copy 44 = .ok (.ireturn, 1) := by decide +kernel
theorem dX4_copy_45 : decode cX4_copy 45 = .ok (.aload 6, 2) := by decide +kernel
theorem dX4_copy_47 : decode cX4_copy 47 = .ok (.getfield 44, 3) := by decide +kernel
theorem dX4_copy_50 : decode cX4_copy 50 = .ok (.iconst 2, 1) := by decide +kernel
theorem dX4_copy_51 : decode cX4_copy 51 = .ok (.if_icmp .ne 25, 3) := by decide +kernel
theorem dX4_copy_54 : decode cX4_copy 54 = .ok (.aload 7, 2) := by decide +kernel
theorem dX4_copy_56 : decode cX4_copy 56 = .ok (.getfield 44, 3) := by decide +kernel
theorem dX4_copy_59 : decode cX4_copy 59 = .ok (.iconst 2, 1) := by decide +kernel
theorem dX4_copy_60 : decode cX4_copy 60 = .ok (.if_icmp .ne 16, 3) := by decide +kernel
theorem dX4_copy_63 : decode cX4_copy 63 = .ok (.aload 6, 2) := by decide +kernel
theorem dX4_copy_65 : decode cX4_copy 65 = .ok (.getfield 48, 3) := by decide +kernel
theorem dX4_copy_68 : decode cX4_copy 68 = .ok (.aload 7, 2) := by decide +kernel
theorem dX4_copy_70 : decode cX4_copy 70 = .ok (.getfield 48, 3) := by decide +kernel
theorem dX4_copy_73 : decode cX4_copy 73 = .ok (.if_icmp .eq 6, 3) := by decide +kernel
theorem dX4_copy_76 : decode cX4_copy 76 = .ok (.bipush (-12), 2) := by decide +kernel
theorem dX4_copy_78 : decode cX4_copy 78 = .ok (.ireturn, 1) := by decide +kernel
theorem dX4_copy_79 : decode cX4_copy 79 = .ok (.iload 5, 2) := by decide +kernel
theorem dX4_copy_81 : decode cX4_copy 81 = .ok (.ifCond .lt 26, 3) := by decide +kernel
theorem dX4_copy_84 : decode cX4_copy 84 = .ok (.aload 6, 2) := by decide +kernel
theorem dX4_copy_86 : decode cX4_copy 86 = .ok (.iload_n 2, 1) := by decide +kernel
theorem dX4_copy_87 : decode cX4_copy 87 = .ok (.iload 5, 2) := by decide +kernel
theorem dX4_copy_89 : decode cX4_copy 89 = .ok (.invokevirtual 273, 3) := by decide +kernel
theorem dX4_copy_92 : decode cX4_copy 92 = .ok (.ifCond .eq 15, 3) := by decide +kernel
theorem dX4_copy_95 : decode cX4_copy 95 = .ok (.aload 7, 2) := by decide +kernel
theorem dX4_copy_97 : decode cX4_copy 97 = .ok (.iload 4, 2) := by decide +kernel
theorem dX4_copy_99 : decode cX4_copy 99 = .ok (.iload 5, 2) := by decide +kernel
theorem dX4_copy_101 : decode cX4_copy 101 = .ok (.invokevirtual 273, 3) := by decide +kernel
theorem dX4_copy_104 : decode cX4_copy 104 = .ok (.ifCond .ne 6, 3) := by decide +kernel
theorem dX4_copy_107 : decode cX4_copy 107 = .ok (.bipush (-13), 2) := by decide +kernel
theorem dX4_copy_109 : decode cX4_copy 109 = .ok (.ireturn, 1) := by decide +kernel
theorem dX4_copy_110 : decode cX4_copy 110 = .ok (.aload 6, 2) := by decide +kernel
theorem dX4_copy_112 : decode cX4_copy 112 = .ok (.getfield 231, 3) := by decide +kernel
theorem dX4_copy_115 : decode cX4_copy 115 = .ok (.iload_n 2, 1) := by decide +kernel
theorem dX4_copy_116 : decode cX4_copy 116 = .ok (.aload 7, 2) := by decide +kernel
theorem dX4_copy_118 : decode cX4_copy 118 = .ok (.getfield 231, 3) := by decide +kernel
theorem dX4_copy_121 : decode cX4_copy 121 = .ok (.iload 4, 2) := by decide +kernel
theorem dX4_copy_123 : decode cX4_copy 123 = .ok (.iload 5, 2) := by decide +kernel
theorem dX4_copy_125 : decode cX4_copy 125 = .ok (.invokestatic 276, 3) := by decide +kernel
theorem dX4_copy_128 : decode cX4_copy 128 = .ok (.iload 5, 2) := by decide +kernel
theorem dX4_copy_130 : decode cX4_copy 130 = .ok (.ireturn, 1) := by decide +kernel
theorem dX4_cost_0 : decode cX4_cost 0 = .ok (.aload_n 0, 1) := by decide +kernel
theorem dX4_cost_1 : decode cX4_cost 1 = .ok (.iload_n 1, 1) := by decide +kernel
theorem dX4_cost_2 : decode cX4_cost 2 = .ok (.invokevirtual 40, 3) := by decide +kernel
theorem dX4_cost_5 : decode cX4_cost 5 = .ok (.astore_n 2, 1) := by decide +kernel
theorem dX4_cost_6 : decode cX4_cost 6 = .ok (.aload_n 2, 1) := by decide +kernel
theorem dX4_cost_7 : decode cX4_cost 7 = .ok (.iconst 1, 1) := by decide +kernel
theorem dX4_cost_8 : decode cX4_cost 8 = .ok (.invokestatic 133, 3) := by decide +kernel
theorem dX4_cost_11 : decode cX4_cost 11 = .ok (.istore_n 3, 1) := by decide +kernel
theorem dX4_cost_12 : decode cX4_cost 12 = .ok (.aload_n 2, 1) := by decide +kernel
theorem dX4_cost_13 : decode cX4_cost 13 = .ok (.ifnull 7, 3) := by decide +kernel
theorem dX4_cost_16 : decode cX4_cost 16 = .ok (.iload_n 3, 1) := by decide +kernel
theorem dX4_cost_17 : decode cX4_cost 17 = .ok (.ifCond .eq 5, 3) := by decide +kernel
theorem dX4_cost_20 : decode cX4_cost 20 = .ok (.iload_n 3, 1) := by decide +kernel
theorem dX4_cost_21 : decode cX4_cost 21 = .ok (.ireturn, 1) := by decide +kernel
theorem dX4_cost_22 : decode cX4_cost 22 = .ok (.aload_n 2, 1) := by decide +kernel
theorem dX4_cost_23 : decode cX4_cost 23 = .ok (.getfield 140, 3) := by decide +kernel
theorem dX4_cost_26 : decode cX4_cost 26 = .ok (.aload_n 2, 1) := by decide +kernel
theorem dX4_cost_27 : decode cX4_cost 27 = .ok (.getfield 142, 3) := by decide +kernel
theorem dX4_cost_30 : decode cX4_cost 30 = .ok (.invokestatic 282, 3) := by decide +kernel
theorem dX4_cost_33 : decode cX4_cost 33 = .ok (.ireturn, 1) := by decide +kernel
theorem dX4_toss_0 : decode cX4_toss 0 = .ok (.aload_n 0, 1) := by decide +kernel
theorem dX4_toss_1 : decode cX4_toss 1 = .ok (.iload_n 1, 1) := by decide +kernel
theorem dX4_toss_2 : decode cX4_toss 2 = .ok (.invokevirtual 40, 3) := by decide +kernel
theorem dX4_toss_5 : decode cX4_toss 5 = .ok (.astore_n 2, 1) := by decide +kernel
theorem dX4_toss_6 : decode cX4_toss 6 = .ok (.aload_n 2, 1) := by decide +kernel
theorem dX4_toss_7 : decode cX4_toss 7 = .ok (.iconst 1, 1) := by decide +kernel
theorem dX4_toss_8 : decode cX4_toss 8 = .ok (.invokestatic 133, 3) := by decide +kernel
theorem dX4_toss_11 : decode cX4_toss 11 = .ok (.istore_n 3, 1) := by decide +kernel
theorem dX4_toss_12 : decode cX4_toss 12 = .ok (.aload_n 2, 1) := by decide +kernel
theorem dX4_toss_13 : decode cX4_toss 13 = .ok (.ifnull 7, 3) := by decide +kernel
theorem dX4_toss_16 : decode cX4_toss 16 = .ok (.iload_n 3, 1) := by decide +kernel
theorem dX4_toss_17 : decode cX4_toss 17 = .ok (.ifCond .eq 5, 3) := by decide +kernel
theorem dX4_toss_20 : decode cX4_toss 20 = .ok (.iload_n 3, 1) := by decide +kernel
theorem dX4_toss_21 : decode cX4_toss 21 = .ok (.ireturn, 1) := by decide +kernel
theorem dX4_toss_22 : decode cX4_toss 22 = .ok (.aload_n 2, 1) := by decide +kernel
theorem dX4_toss_23 : decode cX4_toss 23 = .ok (.getfield 140, 3) := by decide +kernel
theorem dX4_toss_26 : decode cX4_toss 26 = .ok (.aload_n 2, 1) := by decide +kernel
theorem dX4_toss_27 : decode cX4_toss 27 = .ok (.getfield 142, 3) := by decide +kernel
theorem dX4_toss_30 : decode cX4_toss 30 = .ok (.invokestatic 285, 3) := by decide +kernel
theorem dX4_toss_33 : decode cX4_toss 33 = .ok (.ifCond .ne 6, 3) := by decide +kernel
theorem dX4_toss_36 : decode cX4_toss 36 = .ok (.bipush (-15), 2) := by decide +kernel
theorem dX4_toss_38 : decode cX4_toss 38 = .ok (.ireturn, 1) := by decide +kernel
theorem dX4_toss_39 : decode cX4_toss 39 = .ok (.aload_n 2, 1) := by decide +kernel
theorem dX4_toss_40 : decode cX4_toss 40 = .ok (.getfield 140, 3) := by decide +kernel
theorem dX4_toss_43 : decode cX4_toss 43 = .ok (.aload_n 2, 1) := by decide +kernel
theorem dX4_toss_44 : decode cX4_toss 44 = .ok (.getfield 142, 3) := by decide +kernel
theorem dX4_toss_47 : decode cX4_toss 47 = .ok (.invokestatic 288, 3) := by decide +kernel
theorem dX4_toss_50 : decode cX4_toss 50 = .ok (.ireturn, 1) := by decide +kernel
theorem dX4_isWithin_0 : decode cX4_isWithin 0 = .ok (.iload_n 0, 1) := by decide +kernel
theorem dX4_isWithin_1 : decode cX4_isWithin 1 = .ok (.iload_n 1, 1) := by decide +kernel
theorem dX4_isWithin_2 : decode cX4_isWithin 2 = .ok (.if_icmp .lt 12, 3) := by decide +kernel
theorem dX4_isWithin_5 : decode cX4_isWithin 5 = .ok (.iload_n 0, 1) := by decide +kernel
theorem dX4_isWithin_6 : decode cX4_isWithin 6 = .ok (.iload_n 2, 1) := by decide +kernel
theorem dX4_isWithin_7 : decode cX4_isWithin 7 = .ok (.if_icmp .gt 7, 3) := by decide +kernel
theorem dX4_isWithin_10 : decode cX4_isWithin 10 = .ok (.iconst 1, 1) := by decide +kernel
theorem dX4_isWithin_11 : decode cX4_isWithin 11 = .ok (.goto 4, 3) := by decide +kernel
theorem dX4_isWithin_14 : decode cX4_isWithin 14 = .ok (.iconst 0, 1) := by decide +kernel
theorem dX4_isWithin_15 : decode cX4_isWithin 15 = .ok (.ireturn, 1) := by decide +kernel
theorem dX4_isDip_0 : decode cX4_isDip 0 = .ok (.iload_n 0, 1) := by decide +kernel
theorem dX4_isDip_1 : decode cX4_isDip 1 = .ok (.iconst 0, 1) := by decide +kernel
theorem dX4_isDip_2 : decode cX4_isDip 2 = .ok (.bipush 9, 2) := by decide +kernel
theorem dX4_isDip_4 : decode cX4_isDip 4 = .ok (.invokestatic 129, 3) := by decide +kernel
theorem dX4_isDip_7 : decode cX4_isDip 7 = .ok (.ireturn, 1) := by decide +kernel
theorem dX4_isDaysOn_0 : decode cX4_isDaysOn 0 = .ok (.iload_n 0, 1) := by decide +kernel
theorem dX4_isDaysOn_1 : decode cX4_isDaysOn 1 = .ok (.iconst 0, 1) := by decide +kernel
theorem dX4_isDaysOn_2 : decode cX4_isDaysOn 2 = .ok (.bipush 60, 2) := by decide +kernel
theorem dX4_isDaysOn_4 : decode cX4_isDaysOn 4 = .ok (.invokestatic 129, 3) := by decide +kernel
theorem dX4_isDaysOn_7 : decode cX4_isDaysOn 7 = .ok (.ireturn, 1) := by decide +kernel
theorem dX4_hasBit_0 : decode cX4_hasBit 0 = .ok (.iload_n 0, 1) := by decide +kernel
theorem dX4_hasBit_1 : decode cX4_hasBit 1 = .ok (.iload_n 1, 1) := by decide +kernel
theorem dX4_hasBit_2 : decode cX4_hasBit 2 = .ok (.ishr, 1) := by decide +kernel
theorem dX4_hasBit_3 : decode cX4_hasBit 3 = .ok (.iconst 1, 1) := by decide +kernel
theorem dX4_hasBit_4 : decode cX4_hasBit 4 = .ok (.iand, 1) := by decide +kernel
theorem dX4_hasBit_5 : decode cX4_hasBit 5 = .ok (.iconst 1, 1) := by decide +kernel
theorem dX4_hasBit_6 : decode cX4_hasBit 6 = .ok (.if_icmp .ne 7, 3) := by decide +kernel
theorem dX4_hasBit_9 : decode cX4_hasBit 9 = .ok (.iconst 1, 1) := by decide +kernel
theorem dX4_hasBit_10 : decode cX4_hasBit 10 = .ok (.goto 4, 3) := by decide +kernel
theorem dX4_hasBit_13 : decode cX4_hasBit 13 = .ok (.iconst 0, 1) := by decide +kernel
theorem dX4_hasBit_14 : decode cX4_hasBit 14 = .ok (.ireturn, 1) := by decide +kernel
theorem dX4_isCorporal_0 : decode cX4_isCorporal 0 = .ok (.iload_n 1, 1) := by decide +kernel
theorem dX4_isCorporal_1 : decode cX4_isCorporal 1 = .ok (.iconst 0, 1) := by decide +kernel
theorem dX4_isCorporal_2 : decode cX4_isCorporal 2 = .ok (.aload_n 0, 1) := by decide +kernel
theorem dX4_isCorporal_3 : decode cX4_isCorporal 3 = .ok (.getfield 12, 3) := by decide +kernel
theorem dX4_isCorporal_6 : decode cX4_isCorporal 6 = .ok (.getfield 148, 3) := by decide +kernel
theorem dX4_isCorporal_9 : decode cX4_isCorporal 9 = .ok (.iconst 1, 1) := by decide +kernel
theorem dX4_isCorporal_10 : decode cX4_isCorporal 10 = .ok (.isub, 1) := by decide +kernel
theorem dX4_isCorporal_11 : decode cX4_isCorporal 11 = .ok (.invokestatic 129, 3) := by decide +kernel
theorem dX4_isCorporal_14 : decode cX4_isCorporal 14 = .ok (.ireturn, 1) := by decide +kernel
theorem dX4_shelfOrNull_0 : decode cX4_shelfOrNull 0 = .ok (.iload_n 1, 1) := by decide +kernel
theorem dX4_shelfOrNull_1 : decode cX4_shelfOrNull 1 = .ok (.iconst 0, 1) := by decide +kernel
theorem dX4_shelfOrNull_2 : decode cX4_shelfOrNull 2 = .ok (.bipush 7, 2) := by decide +kernel
theorem dX4_shelfOrNull_4 : decode cX4_shelfOrNull 4 = .ok (.invokestatic 129, 3) := by decide +kernel
theorem dX4_shelfOrNull_7 : decode cX4_shelfOrNull 7 = .ok (.ifCond .eq 12, 3) := by decide +kernel
theorem dX4_shelfOrNull_10 : decode cX4_shelfOrNull 10 = .ok (.aload_n 0, 1) := by decide +kernel
theorem dX4_shelfOrNull_11 : decode cX4_shelfOrNull 11 = .ok (.getfield 28, 3) := by decide +kernel
theorem dX4_shelfOrNull_14 : decode cX4_shelfOrNull 14 = .ok (.iload_n 1, 1) := by decide +kernel
theorem dX4_shelfOrNull_15 : decode cX4_shelfOrNull 15 = .ok (.aaload, 1) := by decide +kernel
theorem dX4_shelfOrNull_16 : decode cX4_shelfOrNull 16 = .ok (.goto 4, 3) := by decide +kernel
theorem dX4_shelfOrNull_19 : decode cX4_shelfOrNull 19 = .ok (.aconst_null, 1) := by decide +kernel
theorem dX4_shelfOrNull_20 : decode cX4_shelfOrNull 20 = .ok (.areturn, 1) := by decide +kernel
theorem dX4_refusalUnless_0 : decode cX4_refusalUnless 0 = .ok (.aload_n 0, 1) := by decide +kernel
theorem dX4_refusalUnless_1 : decode cX4_refusalUnless 1 = .ok (.ifnonnull 5, 3) := by decide +kernel
theorem dX4_refusalUnless_4 : decode cX4_refusalUnless 4 = .ok (.iconst (-1), 1) := by decide +kernel
theorem dX4_refusalUnless_5 : decode cX4_refusalUnless 5 = .ok (.ireturn, 1) := by decide +kernel
theorem dX4_refusalUnless_6 : decode cX4_refusalUnless 6 = .ok (.aload_n 0, 1) := by decide +kernel
theorem dX4_refusalUnless_7 : decode cX4_refusalUnless 7 = .ok (.getfield 44, 3) := by decide +kernel
theorem dX4_refusalUnless_10 : decode cX4_refusalUnless 10 = .ok (.ifCond .ne 6, 3) := by decide +kernel
theorem dX4_refusalUnless_13 : decode cX4_refusalUnless 13 = .ok (.bipush (-11), 2) := by decide +kernel
theorem dX4_refusalUnless_15 : decode cX4_refusalUnless 15 = .ok (.ireturn, 1) := by decide +kernel
theorem dX4_refusalUnless_16 : decode cX4_refusalUnless 16 = .ok (.aload_n 0, 1) := by decide +kernel
theorem dX4_refusalUnless_17 : decode cX4_refusalUnless 17 = .ok (.getfield 44, 3) := by decide +kernel
theorem dX4_refusalUnless_20 : decode cX4_refusalUnless 20 = .ok (.iload_n 1, 1) := by decide +kernel
theorem dX4_refusalUnless_21 : decode cX4_refusalUnless 21 = .ok (.if_icmp .ne 7, 3) := by decide +kernel
theorem dX4_refusalUnless_24 : decode cX4_refusalUnless 24 = .ok (.iconst 0, 1) := by decide +kernel
theorem dX4_refusalUnless_25 : decode cX4_refusalUnless 25 = .ok (.goto 5, 3) := by decide +kernel
theorem dX4_refusalUnless_28 : decode cX4_refusalUnless 28 = .ok (.bipush (-12), 2) := by decide +kernel
theorem dX4_refusalUnless_30 : decode cX4_refusalUnless 30 = .ok (.ireturn, 1) := by decide +kernel
theorem dX4_lookOn_0 : decode cX4_lookOn 0 = .ok (.aload_n 0, 1) := by decide +kernel
theorem dX4_lookOn_1 : decode cX4_lookOn 1 = .ok (.getfield 16, 3) := by decide +kernel
theorem dX4_lookOn_4 : decode cX4_lookOn 4 = .ok (.aload_n 0, 1) := by decide +kernel
theorem dX4_lookOn_5 : decode cX4_lookOn 5 = .ok (.getfield 12, 3) := by decide +kernel
theorem dX4_lookOn_8 : decode cX4_lookOn 8 = .ok (.invokevirtual 57, 3) := by decide +kernel
theorem dX4_lookOn_11 : decode cX4_lookOn 11 = .ok (.aload_n 0, 1) := by decide +kernel
theorem dX4_lookOn_12 : decode cX4_lookOn 12 = .ok (.getfield 16, 3) := by decide +kernel
theorem dX4_lookOn_15 : decode cX4_lookOn 15 = .ok (.iload_n 1, 1) := by decide +kernel
theorem dX4_lookOn_16 : decode cX4_lookOn 16 = .ok (.invokevirtual 170, 3) := by decide +kernel
theorem dX4_lookOn_19 : decode cX4_lookOn 19 = .ok (.return_, 1) := by decide +kernel
theorem dX4_leastInReach_0 : decode cX4_leastInReach 0 = .ok (.bipush (-4), 2) := by decide +kernel
theorem dX4_leastInReach_2 : decode cX4_leastInReach 2 = .ok (.istore_n 3, 1) := by decide +kernel
theorem dX4_leastInReach_3 : decode cX4_leastInReach 3 = .ok (.bipush 10, 2) := by decide +kernel
theorem dX4_leastInReach_5 : decode cX4_leastInReach 5 = .ok (.istore 4, 2) := by decide +kernel
theorem dX4_leastInReach_7 : decode cX4_leastInReach 7 = .ok (.iconst 0, 1) := by decide +kernel
theorem dX4_leastInReach_8 : decode cX4_leastInReach 8 = .ok (.istore 5, 2) := by decide +kernel
theorem dX4_leastInReach_10 : decode cX4_leastInReach 10 = .ok (.iload 5, 2) := by decide +kernel
theorem dX4_leastInReach_12 : decode cX4_leastInReach 12 = .ok (.aload_n 0, 1) := by decide +kernel
theorem dX4_leastInReach_13 : decode cX4_leastInReach 13 = .ok (.getfield 12, 3) := by decide +kernel
theorem dX4_leastInReach_16 : decode cX4_leastInReach 16 = .ok (.getfield 148, 3) := by decide +kernel
theorem dX4_leastInReach_19 : decode cX4_leastInReach 19 = .ok (.if_icmp .ge 93, 3) := by decide +kernel
theorem dX4_leastInReach_22 : decode cX4_leastInReach 22 = .ok (.aload_n 0, 1) := by decide +kernel
theorem dX4_leastInReach_23 : decode cX4_leastInReach 23 = .ok (.getfield 12, 3) := by decide +kernel
theorem dX4_leastInReach_26 : decode cX4_leastInReach 26 = .ok (.getfield 91, 3) := by decide +kernel
theorem dX4_leastInReach_29 : decode cX4_leastInReach 29 = .ok (.iload 5, 2) := by decide +kernel
theorem dX4_leastInReach_31 : decode cX4_leastInReach 31 = .ok (.iaload, 1) := by decide +kernel
theorem dX4_leastInReach_32 : decode cX4_leastInReach 32 = .ok (.iconst 1, 1) := by decide +kernel
theorem dX4_leastInReach_33 : decode cX4_leastInReach 33 = .ok (.if_icmp .ne 16, 3) := by decide +kernel
theorem dX4_leastInReach_36 : decode cX4_leastInReach 36 = .ok (.iload_n 2, 1) := by decide +kernel
theorem dX4_leastInReach_37 : decode cX4_leastInReach 37 = .ok (.iload 5, 2) := by decide +kernel
theorem dX4_leastInReach_39 : decode cX4_leastInReach 39 = .ok (.invokestatic 100, 3) := by decide +kernel
theorem dX4_leastInReach_42 : decode cX4_leastInReach 42 = .ok (.ifCond .ne 7, 3) := by decide +kernel
theorem dX4_leastInReach_45 : decode cX4_leastInReach 45 = .ok (.iconst 1, 1) := by decide +kernel
theorem dX4_leastInReach_46 : decode cX4_leastInReach 46 = .ok (.goto 4, 3) := by decide +kernel
theorem dX4_leastInReach_49 : decode cX4_leastInReach 49 = .ok (.iconst 0, 1) := by decide +kernel
theorem dX4_leastInReach_50 : decode cX4_leastInReach 50 = .ok (.istore 6, 2) := by decide +kernel
theorem dX4_leastInReach_52 : decode cX4_leastInReach 52 = .ok (.iload 6, 2) := by decide +kernel
theorem dX4_leastInReach_54 : decode cX4_leastInReach 54 = .ok (.ifCond .eq 52, 3) := by decide +kernel
theorem dX4_leastInReach_57 : decode cX4_leastInReach 57 = .ok (.aload_n 0, 1) := by decide +kernel
theorem dX4_leastInReach_58 : decode cX4_leastInReach 58 = .ok (.getfield 12, 3) := by decide +kernel
theorem dX4_leastInReach_61 : decode cX4_leastInReach 61 = .ok (.getfield 88, 3) := by decide +kernel
theorem dX4_leastInReach_64 : decode cX4_leastInReach 64 = .ok (.iload 5, 2) := by decide +kernel
theorem dX4_leastInReach_66 : decode cX4_leastInReach 66 = .ok (.iaload, 1) := by decide +kernel
theorem dX4_leastInReach_67 : decode cX4_leastInReach 67 = .ok (.iload_n 1, 1) := by decide +kernel
theorem dX4_leastInReach_68 : decode cX4_leastInReach 68 = .ok (.isub, 1) := by decide +kernel
theorem dX4_leastInReach_69 : decode cX4_leastInReach 69 = .ok (.invokestatic 185, 3) := by decide +kernel
theorem dX4_leastInReach_72 : decode cX4_leastInReach 72 = .ok (.iconst 3, 1) := by decide +kernel
theorem dX4_leastInReach_73 : decode cX4_leastInReach 73 = .ok (.if_icmp .gt 33, 3) := by decide +kernel
theorem dX4_leastInReach_76 : decode cX4_leastInReach 76 = .ok (.aload_n 0, 1) := by decide +kernel
theorem dX4_leastInReach_77 : decode cX4_leastInReach 77 = .ok (.getfield 12, 3) := by decide +kernel
theorem dX4_leastInReach_80 : decode cX4_leastInReach 80 = .ok (.getfield 88, 3) := by decide +kernel
theorem dX4_leastInReach_83 : decode cX4_leastInReach 83 = .ok (.iload 5, 2) := by decide +kernel
theorem dX4_leastInReach_85 : decode cX4_leastInReach 85 = .ok (.iaload, 1) := by decide +kernel
theorem dX4_leastInReach_86 : decode cX4_leastInReach 86 = .ok (.iload 4, 2) := by decide +kernel
theorem dX4_leastInReach_88 : decode cX4_leastInReach 88 = .ok (.if_icmp .ge 18, 3) := by decide +kernel
theorem dX4_leastInReach_91 : decode cX4_leastInReach 91 = .ok (.aload_n 0, 1) := by decide +kernel
theorem dX4_leastInReach_92 : decode cX4_leastInReach 92 = .ok (.getfield 12, 3) := by decide +kernel
theorem dX4_leastInReach_95 : decode cX4_leastInReach 95 = .ok (.getfield 88, 3) := by decide +kernel
theorem dX4_leastInReach_98 : decode cX4_leastInReach 98 = .ok (.iload 5, 2) := by decide +kernel
theorem dX4_leastInReach_100 : decode cX4_leastInReach 100 = .ok (.iaload, 1) := by decide +kernel
theorem dX4_leastInReach_101 : decode cX4_leastInReach 101 = .ok (.istore 4, 2) := by decide +kernel
theorem dX4_leastInReach_103 : decode cX4_leastInReach 103 = .ok (.iload 5, 2) := by decide +kernel
theorem dX4_leastInReach_105 : decode cX4_leastInReach 105 = .ok (.istore_n 3, 1) := by decide +kernel
theorem dX4_leastInReach_106 : decode cX4_leastInReach 106 = .ok (.iinc 5 1, 3) := by decide +kernel
theorem dX4_leastInReach_109 : decode cX4_leastInReach 109 = .ok (.goto (-99), 3) := by decide +kernel
theorem dX4_leastInReach_112 : decode cX4_leastInReach 112 = .ok (.iload_n 3, 1) := by decide +kernel
theorem dX4_leastInReach_113 : decode cX4_leastInReach 113 = .ok (.ireturn, 1) := by decide +kernel
theorem dX4_isDoneAsTold_0 : decode cX4_isDoneAsTold 0 = .ok (.aload_n 0, 1) := by decide +kernel
theorem dX4_isDoneAsTold_1 : decode cX4_isDoneAsTold 1 = .ok (.getfield 16, 3) := by decide +kernel
theorem dX4_isDoneAsTold_4 : decode cX4_isDoneAsTold 4 = .ok (.aload_n 0, 1) := by decide +kernel
theorem dX4_isDoneAsTold_5 : decode cX4_isDoneAsTold 5 = .ok (.getfield 12, 3) := by decide +kernel
theorem dX4_isDoneAsTold_8 : decode cX4_isDoneAsTold 8 = .ok (.invokevirtual 57, 3) := by decide +kernel
theorem dX4_isDoneAsTold_11 : decode cX4_isDoneAsTold 11 = .ok (.aload_n 0, 1) := by decide +kernel
theorem dX4_isDoneAsTold_12 : decode cX4_isDoneAsTold 12 = .ok (.getfield 16, 3) := by decide +kernel
theorem dX4_isDoneAsTold_15 : decode cX4_isDoneAsTold 15 = .ok (.getfield 120, 3) := by decide +kernel
theorem dX4_isDoneAsTold_18 : decode cX4_isDoneAsTold 18 = .ok (.iload_n 3, 1) := by decide +kernel
theorem dX4_isDoneAsTold_19 : decode cX4_isDoneAsTold 19 = .ok (.iload 4, 2) := by decide +kernel
theorem dX4_isDoneAsTold_21 : decode cX4_isDoneAsTold 21 = .ok (.iastore, 1) := by decide +kernel
theorem dX4_isDoneAsTold_22 : decode cX4_isDoneAsTold 22 = .ok (.iconst 0, 1) := by decide +kernel
theorem dX4_isDoneAsTold_23 : decode cX4_isDoneAsTold 23 = .ok (.istore 5, 2) := by decide +kernel
theorem dX4_isDoneAsTold_25 : decode cX4_isDoneAsTold 25 = .ok (.iload 5, 2) := by decide +kernel
theorem dX4_isDoneAsTold_27 : decode cX4_isDoneAsTold 27 = .ok (.iload_n 2, 1) := by decide +kernel
theorem dX4_isDoneAsTold_28 : decode cX4_isDoneAsTold 28 = .ok (.if_icmp .ge 36, 3) := by decide +kernel
theorem dX4_isDoneAsTold_31 : decode cX4_isDoneAsTold 31 = .ok (.aload_n 1, 1) := by decide +kernel
theorem dX4_isDoneAsTold_32 : decode cX4_isDoneAsTold 32 = .ok (.iload 5, 2) := by decide +kernel
theorem dX4_isDoneAsTold_34 : decode cX4_isDoneAsTold 34 = .ok (.aload_n 0, 1) := by decide +kernel
theorem dX4_isDoneAsTold_35 : decode cX4_isDoneAsTold 35 = .ok (.getfield 16, 3) := by decide +kernel
theorem dX4_isDoneAsTold_38 : decode cX4_isDoneAsTold 38 = .ok (.getfield 123, 3) := by decide +kernel
theorem dX4_isDoneAsTold_41 : decode cX4_isDoneAsTold 41 = .ok (.iload_n 3, 1) := by decide +kernel
theorem dX4_isDoneAsTold_42 : decode cX4_isDoneAsTold 42 = .ok (.iaload, 1) := by decide +kernel
theorem dX4_isDoneAsTold_43 : decode cX4_isDoneAsTold 43 = .ok (.invokevirtual 234, 3) := by decide +kernel
theorem dX4_isDoneAsTold_46 : decode cX4_isDoneAsTold 46 = .ok (.ifCond .ne 5, 3) := by decide +kernel
theorem dX4_isDoneAsTold_49 : decode cX4_isDoneAsTold 49 = .ok (.iconst 0, 1) := by decide +kernel
theorem dX4_isDoneAsTold_50 : decode cX4_isDoneAsTold 50 = .ok (.ireturn, 1) := by decide +kernel
theorem dX4_isDoneAsTold_51 : decode cX4_isDoneAsTold 51 = .ok (.aload_n 0, 1) := by decide +kernel
theorem dX4_isDoneAsTold_52 : decode cX4_isDoneAsTold 52 = .ok (.getfield 16, 3) := by decide +kernel
theorem dX4_isDoneAsTold_55 : decode cX4_isDoneAsTold 55 = .ok (.invokevirtual 182, 3) := by decide +kernel
theorem dX4_isDoneAsTold_58 : decode cX4_isDoneAsTold 58 = .ok (.iinc 5 1, 3) := by decide +kernel
theorem dX4_isDoneAsTold_61 : decode cX4_isDoneAsTold 61 = .ok (.goto (-36), 3) := by decide +kernel
theorem dX4_isDoneAsTold_64 : decode cX4_isDoneAsTold 64 = .ok (.iconst 1, 1) := by decide +kernel
theorem dX4_isDoneAsTold_65 : decode cX4_isDoneAsTold 65 = .ok (.ireturn, 1) := by decide +kernel
theorem dX4_isBookInMindAsTold_0 : decode cX4_isBookInMindAsTold 0 = .ok (.iconst 0, 1) := by decide +kernel
theorem dX4_isBookInMindAsTold_1 : decode cX4_isBookInMindAsTold 1 = .ok (.istore 4, 2) := by decide +kernel
theorem dX4_isBookInMindAsTold_3 : decode cX4_isBookInMindAsTold 3 = .ok (.iload 4, 2) := by decide +kernel
theorem dX4_isBookInMindAsTold_5 : decode cX4_isBookInMindAsTold 5 = .ok (.iload_n 2, 1) := by decide +kernel
theorem dX4_isBookInMindAsTold_6 : decode cX4_isBookInMindAsTold 6 = .ok (.if_icmp .ge 36, 3) := by decide +kernel
theorem dX4_isBookInMindAsTold_9 : decode cX4_isBookInMindAsTold 9 = .ok (.aload_n 1, 1) := by decide +kernel
theorem dX4_isBookInMindAsTold_10 : decode cX4_isBookInMindAsTold 10 = .ok (.iload 4, 2) := by decide +kernel
theorem dX4_isBookInMindAsTold_12 : decode cX4_isBookInMindAsTold 12 = .ok (.aload_n 0, 1) := by decide +kernel
theorem dX4_isBookInMindAsTold_13 : decode cX4_isBookInMindAsTold 13 = .ok (.getfield 16, 3) := by decide +kernel
theorem dX4_isBookInMindAsTold_16 : decode cX4_isBookInMindAsTold 16 = .ok (.getfield 94, 3) := by decide +kernel
theorem dX4_isBookInMindAsTold_19 : decode cX4_isBookInMindAsTold 19 = .ok (.iload_n 3, 1) := by decide +kernel
theorem dX4_isBookInMindAsTold_20 : decode cX4_isBookInMindAsTold 20 = .ok (.iaload, 1) := by decide +kernel
theorem dX4_isBookInMindAsTold_21 : decode cX4_isBookInMindAsTold 21 = .ok (.invokevirtual 234, 3) := by decide +kernel
theorem dX4_isBookInMindAsTold_24 : decode cX4_isBookInMindAsTold 24 = .ok (.ifCond .ne 5, 3) := by decide +kernel
theorem dX4_isBookInMindAsTold_27 : decode cX4_isBookInMindAsTold 27 = .ok (.iconst 0, 1) := by decide +kernel
theorem dX4_isBookInMindAsTold_28 : decode cX4_isBookInMindAsTold 28 = .ok (.ireturn, 1) := by decide +kernel
theorem dX4_isBookInMindAsTold_29 : decode cX4_isBookInMindAsTold 29 = .ok (.aload_n 0, 1) := by decide +kernel
theorem dX4_isBookInMindAsTold_30 : decode cX4_isBookInMindAsTold 30 = .ok (.getfield 16, 3) := by decide +kernel
theorem dX4_isBookInMindAsTold_33 : decode cX4_isBookInMindAsTold 33 = .ok (.invokevirtual 182, 3) := by decide +kernel
theorem dX4_isBookInMindAsTold_36 : decode cX4_isBookInMindAsTold 36 = .ok (.iinc 4 1, 3) := by decide +kernel
theorem dX4_isBookInMindAsTold_39 : decode cX4_isBookInMindAsTold 39 = .ok (.goto (-36), 3) := by decide +kernel
theorem dX4_isBookInMindAsTold_42 : decode cX4_isBookInMindAsTold 42 = .ok (.iconst 1, 1) := by decide +kernel
theorem dX4_isBookInMindAsTold_43 : decode cX4_isBookInMindAsTold 43 = .ok (.ireturn, 1) := by decide +kernel
theorem dX4_playTwo_0 : decode cX4_playTwo 0 = .ok (.iload_n 3, 1) := by decide +kernel
theorem dX4_playTwo_1 : decode cX4_playTwo 1 = .ok (.iconst 2, 1) := by decide +kernel
theorem dX4_playTwo_2 : decode cX4_playTwo 2 = .ok (.iand, 1) := by decide +kernel
theorem dX4_playTwo_3 : decode cX4_playTwo 3 = .ok (.ifCond .eq 7, 3) := by decide +kernel
theorem dX4_playTwo_6 : decode cX4_playTwo 6 = .ok (.iconst 1, 1) := by decide +kernel
theorem dX4_playTwo_7 : decode cX4_playTwo 7 = .ok (.goto 4, 3) := by decide +kernel
theorem dX4_playTwo_10 : decode cX4_playTwo 10 = .ok (.iconst 0, 1) := by decide +kernel
theorem dX4_playTwo_11 : decode cX4_playTwo 11 = .ok (.istore 4, 2) := by decide +kernel
theorem dX4_playTwo_13 : decode cX4_playTwo 13 = .ok (.iload_n 3, 1) := by decide +kernel
theorem dX4_playTwo_14 : decode cX4_playTwo 14 = .ok (.iconst 1, 1) := by decide +kernel
theorem dX4_playTwo_15 : decode cX4_playTwo 15 = .ok (.iand, 1) := by decide +kernel
theorem dX4_playTwo_16 : decode cX4_playTwo 16 = .ok (.ifCond .eq 7, 3) := by decide +kernel
theorem dX4_playTwo_19 : decode cX4_playTwo 19 = .ok (.iconst 1, 1) := by decide +kernel
theorem dX4_playTwo_20 : decode cX4_playTwo 20 = .ok (.goto 4, 3) := by decide +kernel
theorem dX4_playTwo_23 : decode cX4_playTwo 23 = .ok (.iconst 0, 1) := by decide +kernel
theorem dX4_playTwo_24 : decode cX4_playTwo 24 = .ok (.istore 5, 2) := by decide +kernel
theorem dX4_playTwo_26 : decode cX4_playTwo 26 = .ok (.aload_n 0, 1) := by decide +kernel
theorem dX4_playTwo_27 : decode cX4_playTwo 27 = .ok (.getfield 16, 3) := by decide +kernel
theorem dX4_playTwo_30 : decode cX4_playTwo 30 = .ok (.aload_n 0, 1) := by decide +kernel
theorem dX4_playTwo_31 : decode cX4_playTwo 31 = .ok (.getfield 12, 3) := by decide +kernel
theorem dX4_playTwo_34 : decode cX4_playTwo 34 = .ok (.invokevirtual 57, 3) := by decide +kernel
theorem dX4_playTwo_37 : decode cX4_playTwo 37 = .ok (.aload_n 0, 1) := by decide +kernel
theorem dX4_playTwo_38 : decode cX4_playTwo 38 = .ok (.getfield 16, 3) := by decide +kernel
theorem dX4_playTwo_41 : decode cX4_playTwo 41 = .ok (.dup, 1) := by decide +kernel
theorem dX4_playTwo_42 : decode cX4_playTwo 42 = .ok (.getfield 97, 3) := by decide +kernel
theorem dX4_playTwo_45 : decode cX4_playTwo 45 = .ok (.iconst 1, 1) := by decide +kernel
theorem dX4_playTwo_46 : decode cX4_playTwo 46 = .ok (.iload_n 1, 1) := by decide +kernel
theorem dX4_playTwo_47 : decode cX4_playTwo 47 = .ok (.ishl, 1) := by decide +kernel
theorem dX4_playTwo_48 : decode cX4_playTwo 48 = .ok (.iconst 1, 1) := by decide +kernel
theorem dX4_playTwo_49 : decode cX4_playTwo 49 = .ok (.iload_n 2, 1) := by decide +kernel
theorem dX4_playTwo_50 : decode cX4_playTwo 50 = .ok (.ishl, 1) := by decide +kernel
theorem dX4_playTwo_51 : decode cX4_playTwo 51 = .ok (.ior, 1) := by decide +kernel
theorem dX4_playTwo_52 : decode cX4_playTwo 52 = .ok (.iconst (-1), 1) := by decide +kernel
theorem dX4_playTwo_53 : decode cX4_playTwo 53 = .ok (.ixor, 1) := by decide +kernel
theorem dX4_playTwo_54 : decode cX4_playTwo 54 = .ok (.iand, 1) := by decide +kernel
theorem dX4_playTwo_55 : decode cX4_playTwo 55 = .ok (.putfield 97, 3) := by decide +kernel
theorem dX4_playTwo_58 : decode cX4_playTwo 58 = .ok (.aload_n 0, 1) := by decide +kernel
theorem dX4_playTwo_59 : decode cX4_playTwo 59 = .ok (.getfield 16, 3) := by decide +kernel
theorem dX4_playTwo_62 : decode cX4_playTwo 62 = .ok (.iload 4, 2) := by decide +kernel
theorem dX4_playTwo_64 : decode cX4_playTwo 64 = .ok (.ifCond .eq 7, 3) := by decide +kernel
theorem dX4_playTwo_67 : decode cX4_playTwo 67 = .ok (.iconst 0, 1) := by decide +kernel
theorem dX4_playTwo_68 : decode cX4_playTwo 68 = .ok (.goto 6, 3) := by decide +kernel
theorem dX4_playTwo_71 : decode cX4_playTwo 71 = .ok (.iconst 1, 1) := by decide +kernel
theorem dX4_playTwo_72 : decode cX4_playTwo 72 = .ok (.iload_n 1, 1) := by decide +kernel
theorem dX4_playTwo_73 : decode cX4_playTwo 73 = .ok (.ishl, 1) := by decide +kernel
theorem dX4_playTwo_74 : decode cX4_playTwo 74 = .ok (.iload 5, 2) := by decide +kernel
theorem dX4_playTwo_76 : decode cX4_playTwo 76 = .ok (.ifCond .eq 7, 3) := by decide +kernel
theorem dX4_playTwo_79 : decode cX4_playTwo 79 = .ok (.iconst 0, 1) := by decide +kernel
theorem dX4_playTwo_80 : decode cX4_playTwo 80 = .ok (.goto 6, 3) := by decide +kernel
theorem dX4_playTwo_83 : decode cX4_playTwo 83 = .ok (.iconst 1, 1) := by decide +kernel
theorem dX4_playTwo_84 : decode cX4_playTwo 84 = .ok (.iload_n 2, 1) := by decide +kernel
theorem dX4_playTwo_85 : decode cX4_playTwo 85 = .ok (.ishl, 1) := by decide +kernel
theorem dX4_playTwo_86 : decode cX4_playTwo 86 = .ok (.ior, 1) := by decide +kernel
theorem dX4_playTwo_87 : decode cX4_playTwo 87 = .ok (.putfield 291, 3) := by decide +kernel
theorem dX4_playTwo_90 : decode cX4_playTwo 90 = .ok (.aload_n 0, 1) := by decide +kernel
theorem dX4_playTwo_91 : decode cX4_playTwo 91 = .ok (.getfield 16, 3) := by decide +kernel
theorem dX4_playTwo_94 : decode cX4_playTwo 94 = .ok (.iconst 5, 1) := by decide +kernel
theorem dX4_playTwo_95 : decode cX4_playTwo 95 = .ok (.invokevirtual 170, 3) := by decide +kernel
theorem dX4_playTwo_98 : decode cX4_playTwo 98 = .ok (.iload 4, 2) := by decide +kernel
theorem dX4_playTwo_100 : decode cX4_playTwo 100 = .ok (.ifCond .ne 13, 3) := by decide +kernel
theorem dX4_playTwo_103 : decode cX4_playTwo 103 = .ok (.iload 5, 2) := by decide +kernel
theorem dX4_playTwo_105 : decode cX4_playTwo 105 = .ok (.ifCond .eq 8, 3) := by decide +kernel
theorem dX4_playTwo_108 : decode cX4_playTwo 108 = .ok (.bipush 20, 2) := by decide +kernel
theorem dX4_playTwo_110 : decode cX4_playTwo 110 = .ok (.goto 4, 3) := by decide +kernel
theorem dX4_playTwo_113 : decode cX4_playTwo 113 = .ok (.iconst 0, 1) := by decide +kernel
theorem dX4_playTwo_114 : decode cX4_playTwo 114 = .ok (.istore 6, 2) := by decide +kernel
theorem dX4_playTwo_116 : decode cX4_playTwo 116 = .ok (.iload 5, 2) := by decide +kernel
theorem dX4_playTwo_118 : decode cX4_playTwo 118 = .ok (.ifCond .ne 13, 3) := by decide +kernel
theorem dX4_playTwo_121 : decode cX4_playTwo 121 = .ok (.iload 4, 2) := by decide +kernel
theorem dX4_playTwo_123 : decode cX4_playTwo 123 = .ok (.ifCond .eq 8, 3) := by decide +kernel
theorem dX4_playTwo_126 : decode cX4_playTwo 126 = .ok (.bipush 20, 2) := by decide +kernel
theorem dX4_playTwo_128 : decode cX4_playTwo 128 = .ok (.goto 4, 3) := by decide +kernel
theorem dX4_playTwo_131 : decode cX4_playTwo 131 = .ok (.iconst 0, 1) := by decide +kernel
theorem dX4_playTwo_132 : decode cX4_playTwo 132 = .ok (.istore 7, 2) := by decide +kernel
theorem dX4_playTwo_134 : decode cX4_playTwo 134 = .ok (.aload_n 0, 1) := by decide +kernel
theorem dX4_playTwo_135 : decode cX4_playTwo 135 = .ok (.getfield 32, 3) := by decide +kernel
theorem dX4_playTwo_138 : decode cX4_playTwo 138 = .ok (.iload_n 3, 1) := by decide +kernel
theorem dX4_playTwo_139 : decode cX4_playTwo 139 = .ok (.aload_n 0, 1) := by decide +kernel
theorem dX4_playTwo_140 : decode cX4_playTwo 140 = .ok (.getfield 16, 3) := by decide +kernel
theorem dX4_playTwo_143 : decode cX4_playTwo 143 = .ok (.getfield 94, 3) := by decide +kernel
theorem dX4_playTwo_146 : decode cX4_playTwo 146 = .ok (.iload_n 1, 1) := by decide +kernel
theorem dX4_playTwo_147 : decode cX4_playTwo 147 = .ok (.iaload, 1) := by decide +kernel
theorem dX4_playTwo_148 : decode cX4_playTwo 148 = .ok (.aload_n 0, 1) := by decide +kernel
theorem dX4_playTwo_149 : decode cX4_playTwo 149 = .ok (.getfield 12, 3) := by decide +kernel
theorem dX4_playTwo_152 : decode cX4_playTwo 152 = .ok (.getfield 94, 3) := by decide +kernel
theorem dX4_playTwo_155 : decode cX4_playTwo 155 = .ok (.iload_n 1, 1) := by decide +kernel
theorem dX4_playTwo_156 : decode cX4_playTwo 156 = .ok (.iaload, 1) := by decide +kernel
theorem dX4_playTwo_157 : decode cX4_playTwo 157 = .ok (.isub, 1) := by decide +kernel
theorem dX4_playTwo_158 : decode cX4_playTwo 158 = .ok (.iload 6, 2) := by decide +kernel
theorem dX4_playTwo_160 : decode cX4_playTwo 160 = .ok (.isub, 1) := by decide +kernel
theorem dX4_playTwo_161 : decode cX4_playTwo 161 = .ok (.iastore, 1) := by decide +kernel
theorem dX4_playTwo_162 : decode cX4_playTwo 162 = .ok (.aload_n 0, 1) := by decide +kernel
theorem dX4_playTwo_163 : decode cX4_playTwo 163 = .ok (.getfield 36, 3) := by decide +kernel
theorem dX4_playTwo_166 : decode cX4_playTwo 166 = .ok (.iload_n 3, 1) := by decide +kernel
theorem dX4_playTwo_167 : decode cX4_playTwo 167 = .ok (.aload_n 0, 1) := by decide +kernel
theorem dX4_playTwo_168 : decode cX4_playTwo 168 = .ok (.getfield 16, 3) := by decide +kernel
theorem dX4_playTwo_171 : decode cX4_playTwo 171 = .ok (.getfield 94, 3) := by decide +kernel
theorem dX4_playTwo_174 : decode cX4_playTwo 174 = .ok (.iload_n 2, 1) := by decide +kernel
theorem dX4_playTwo_175 : decode cX4_playTwo 175 = .ok (.iaload, 1) := by decide +kernel
theorem dX4_playTwo_176 : decode cX4_playTwo 176 = .ok (.aload_n 0, 1) := by decide +kernel
theorem dX4_playTwo_177 : decode cX4_playTwo 177 = .ok (.getfield 12, 3) := by decide +kernel
theorem dX4_playTwo_180 : decode cX4_playTwo 180 = .ok (.getfield 94, 3) := by decide +kernel
theorem dX4_playTwo_183 : decode cX4_playTwo 183 = .ok (.iload_n 2, 1) := by decide +kernel
theorem dX4_playTwo_184 : decode cX4_playTwo 184 = .ok (.iaload, 1) := by decide +kernel
theorem dX4_playTwo_185 : decode cX4_playTwo 185 = .ok (.isub, 1) := by decide +kernel
theorem dX4_playTwo_186 : decode cX4_playTwo 186 = .ok (.iload 7, 2) := by decide +kernel
theorem dX4_playTwo_188 : decode cX4_playTwo 188 = .ok (.isub, 1) := by decide +kernel
theorem dX4_playTwo_189 : decode cX4_playTwo 189 = .ok (.iastore, 1) := by decide +kernel
theorem dX4_playTwo_190 : decode cX4_playTwo 190 = .ok (.return_, 1) := by decide +kernel
theorem dX4_partInLeastTerms_0 : decode cX4_partInLeastTerms 0 = .ok (.lload_n 2, 1) := by decide +kernel
theorem dX4_partInLeastTerms_1 : decode cX4_partInLeastTerms 1 = .ok (.lstore 5, 2) := by decide +kernel
theorem dX4_partInLeastTerms_3 : decode cX4_partInLeastTerms 3 = .ok (.lload_n 0, 1) := by decide +kernel
theorem dX4_partInLeastTerms_4 : decode cX4_partInLeastTerms 4 = .ok (.lstore 7, 2) := by decide +kernel
theorem dX4_partInLeastTerms_6 : decode cX4_partInLeastTerms 6 = .ok (.iconst 0, 1) := by decide +kernel
theorem dX4_partInLeastTerms_7 : decode cX4_partInLeastTerms 7 = .ok (.istore 9, 2) := by decide +kernel
theorem dX4_partInLeastTerms_9 : decode cX4_partInLeastTerms 9 = .ok (.iload 9, 2) := by decide +kernel
theorem dX4_partInLeastTerms_11 : decode cX4_partInLeastTerms 11 = .ok (.bipush 100, 2) := by decide +kernel
theorem dX4_partInLeastTerms_13 : decode cX4_partInLeastTerms 13 = .ok (.if_icmp .ge 31, 3) := by decide +kernel
theorem dX4_partInLeastTerms_16 : decode cX4_partInLeastTerms 16 = .ok (.lload 7, 2) := by decide +kernel
theorem dX4_partInLeastTerms_18 : decode cX4_partInLeastTerms 18 = .ok (.lconst 0, 1) := by decide +kernel
theorem dX4_partInLeastTerms_19 : decode cX4_partInLeastTerms 19 = .ok (.lcmp, 1) := by decide +kernel
theorem dX4_partInLeastTerms_20 : decode cX4_partInLeastTerms 20 = .ok (.ifCond .eq 24, 3) := by decide +kernel
theorem dX4_partInLeastTerms_23 : decode cX4_partInLeastTerms 23 = .ok (.lload 5, 2) := by decide +kernel
theorem dX4_partInLeastTerms_25 : decode cX4_partInLeastTerms 25 = .ok (.lload 7, 2) := by decide +kernel
theorem dX4_partInLeastTerms_27 : decode cX4_partInLeastTerms 27 = .ok (.lrem, 1) := by decide +kernel
theorem dX4_partInLeastTerms_28 : decode cX4_partInLeastTerms 28 = .ok (.lstore 10, 2) := by decide +kernel
theorem dX4_partInLeastTerms_30 : decode cX4_partInLeastTerms 30 = .ok (.lload 7, 2) := by decide +kernel
theorem dX4_partInLeastTerms_32 : decode cX4_partInLeastTerms 32 = .ok (.lstore 5, 2) := by decide +kernel
theorem dX4_partInLeastTerms_34 : decode cX4_partInLeastTerms 34 = .ok (.lload 10, 2) := by decide +kernel
theorem dX4_partInLeastTerms_36 : decode cX4_partInLeastTerms 36 = .ok (.lstore 7, 2) := by decide +kernel
theorem dX4_partInLeastTerms_38 : decode cX4_partInLeastTerms 38 = .ok (.iinc 9 1, 3) := by decide +kernel
theorem dX4_partInLeastTerms_41 : decode cX4_partInLeastTerms 41 = .ok (.goto (-32), 3) := by decide +kernel
theorem dX4_partInLeastTerms_44 : decode cX4_partInLeastTerms 44 = .ok (.lload 5, 2) := by decide +kernel
theorem dX4_partInLeastTerms_46 : decode cX4_partInLeastTerms 46 = .ok (.lconst 0, 1) := by decide +kernel
theorem dX4_partInLeastTerms_47 : decode cX4_partInLeastTerms 47 = .ok (.lcmp, 1) := by decide +kernel
theorem dX4_partInLeastTerms_48 : decode cX4_partInLeastTerms 48 = .ok (.ifCond .ne 5, 3) := by decide +kernel
theorem dX4_partInLeastTerms_51 : decode cX4_partInLeastTerms 51 = .ok (.lconst 0, 1) := by decide +kernel
theorem dX4_partInLeastTerms_52 : decode cX4_partInLeastTerms 52 = .ok (.lreturn, 1) := by decide +kernel
theorem dX4_partInLeastTerms_53 : decode cX4_partInLeastTerms 53 = .ok (.iload 4, 2) := by decide +kernel
theorem dX4_partInLeastTerms_55 : decode cX4_partInLeastTerms 55 = .ok (.ifCond .ne 7, 3) := by decide +kernel
theorem dX4_partInLeastTerms_58 : decode cX4_partInLeastTerms 58 = .ok (.lload_n 0, 1) := by decide +kernel
theorem dX4_partInLeastTerms_59 : decode cX4_partInLeastTerms 59 = .ok (.goto 4, 3) := by decide +kernel
theorem dX4_partInLeastTerms_62 : decode cX4_partInLeastTerms 62 = .ok (.lload_n 2, 1) := by decide +kernel
theorem dX4_partInLeastTerms_63 : decode cX4_partInLeastTerms 63 = .ok (.lload 5, 2) := by decide +kernel
theorem dX4_partInLeastTerms_65 : decode cX4_partInLeastTerms 65 = .ok (.ldiv, 1) := by decide +kernel
theorem dX4_partInLeastTerms_66 : decode cX4_partInLeastTerms 66 = .ok (.lreturn, 1) := by decide +kernel
theorem dX4_nextSeed_0 : decode cX4_nextSeed 0 = .ok (.iload_n 0, 1) := by decide +kernel
theorem dX4_nextSeed_1 : decode cX4_nextSeed 1 = .ok (.ldc_w 294, 3) := by decide +kernel
theorem dX4_nextSeed_4 : decode cX4_nextSeed 4 = .ok (.imul, 1) := by decide +kernel
theorem dX4_nextSeed_5 : decode cX4_nextSeed 5 = .ok (.sipush 12345, 3) := by decide +kernel
theorem dX4_nextSeed_8 : decode cX4_nextSeed 8 = .ok (.iadd, 1) := by decide +kernel
theorem dX4_nextSeed_9 : decode cX4_nextSeed 9 = .ok (.ireturn, 1) := by decide +kernel
theorem dX4_drawBelow_0 : decode cX4_drawBelow 0 = .ok (.iload_n 1, 1) := by decide +kernel
theorem dX4_drawBelow_1 : decode cX4_drawBelow 1 = .ok (.ifCond .gt 7, 3) := by decide +kernel
theorem dX4_drawBelow_4 : decode cX4_drawBelow 4 = .ok (.iconst 0, 1) := by decide +kernel
theorem dX4_drawBelow_5 : decode cX4_drawBelow 5 = .ok (.goto 14, 3) := by decide +kernel
theorem dX4_drawBelow_8 : decode cX4_drawBelow 8 = .ok (.iload_n 0, 1) := by decide +kernel
theorem dX4_drawBelow_9 : decode cX4_drawBelow 9 = .ok (.ldc_w 295, 3) := by decide +kernel
theorem dX4_drawBelow_12 : decode cX4_drawBelow 12 = .ok (.iand, 1) := by decide +kernel
theorem dX4_drawBelow_13 : decode cX4_drawBelow 13 = .ok (.ldc_w 296, 3) := by decide +kernel
theorem dX4_drawBelow_16 : decode cX4_drawBelow 16 = .ok (.idiv, 1) := by decide +kernel
theorem dX4_drawBelow_17 : decode cX4_drawBelow 17 = .ok (.iload_n 1, 1) := by decide +kernel
theorem dX4_drawBelow_18 : decode cX4_drawBelow 18 = .ok (.irem, 1) := by decide +kernel
theorem dX4_drawBelow_19 : decode cX4_drawBelow 19 = .ok (.ireturn, 1) := by decide +kernel
theorem dX5_init_0 : decode cX5_init 0 = .ok (.aload_n 0, 1) := by decide +kernel
theorem dX5_init_1 : decode cX5_init 1 = .ok (.invokespecial 1, 3) := by decide +kernel
theorem dX5_init_4 : decode cX5_init 4 = .ok (.aload_n 0, 1) := by decide +kernel
theorem dX5_init_5 : decode cX5_init 5 = .ok (.bipush 61, 2) := by decide +kernel
theorem dX5_init_7 : decode cX5_init 7 = .ok (.newarray .int, 2) := by decide +kernel
theorem dX5_init_9 : decode cX5_init 9 = .ok (.putfield 9, 3) := by decide +kernel
theorem dX5_init_12 : decode cX5_init 12 = .ok (.aload_n 0, 1) := by decide +kernel
theorem dX5_init_13 : decode cX5_init 13 = .ok (.bipush 61, 2) := by decide +kernel
theorem dX5_init_15 : decode cX5_init 15 = .ok (.newarray .int, 2) := by decide +kernel
theorem dX5_init_17 : decode cX5_init 17 = .ok (.putfield 13, 3) := by decide +kernel
theorem dX5_init_20 : decode cX5_init 20 = .ok (.aload_n 0, 1) := by decide +kernel
theorem dX5_init_21 : decode cX5_init 21 = .ok (.bipush 61, 2) := by decide +kernel
theorem dX5_init_23 : decode cX5_init 23 = .ok (.newarray .int, 2) := by decide +kernel
theorem dX5_init_25 : decode cX5_init 25 = .ok (.putfield 16, 3) := by decide +kernel
theorem dX5_init_28 : decode cX5_init 28 = .ok (.aload_n 0, 1) := by decide +kernel
theorem dX5_init_29 : decode cX5_init 29 = .ok (.bipush 61, 2) := by decide +kernel
theorem dX5_init_31 : decode cX5_init 31 = .ok (.newarray .int, 2) := by decide +kernel
theorem dX5_init_33 : decode cX5_init 33 = .ok (.putfield 19, 3) := by decide +kernel
theorem dX5_init_36 : decode cX5_init 36 = .ok (.aload_n 0, 1) := by decide +kernel
theorem dX5_init_37 : decode cX5_init 37 = .ok (.iconst 4, 1) := by decide +kernel
theorem dX5_init_38 : decode cX5_init 38 = .ok (.newarray .int, 2) := by decide +kernel
theorem dX5_init_40 : decode cX5_init 40 = .ok (.putfield 22, 3) := by decide +kernel
theorem dX5_init_43 : decode cX5_init 43 = .ok (.aload_n 0, 1) := by decide +kernel
theorem dX5_init_44 : decode cX5_init 44 = .ok (.bipush 8, 2) := by decide +kernel
theorem dX5_init_46 : decode cX5_init 46 = .ok (.newarray .int, 2) := by decide +kernel
theorem dX5_init_48 : decode cX5_init 48 = .ok (.putfield 25, 3) := by decide +kernel
theorem dX5_init_51 : decode cX5_init 51 = .ok (.aload_n 0, 1) := by decide +kernel
theorem dX5_init_52 : decode cX5_init 52 = .ok (.bipush 8, 2) := by decide +kernel
theorem dX5_init_54 : decode cX5_init 54 = .ok (.newarray .int, 2) := by decide +kernel
theorem dX5_init_56 : decode cX5_init 56 = .ok (.putfield 28, 3) := by decide +kernel
theorem dX5_init_59 : decode cX5_init 59 = .ok (.aload_n 0, 1) := by decide +kernel
theorem dX5_init_60 : decode cX5_init 60 = .ok (.bipush 8, 2) := by decide +kernel
theorem dX5_init_62 : decode cX5_init 62 = .ok (.newarray .int, 2) := by decide +kernel
theorem dX5_init_64 : decode cX5_init 64 = .ok (.putfield 31, 3) := by decide +kernel
theorem dX5_init_67 : decode cX5_init 67 = .ok (.aload_n 0, 1) := by decide +kernel
theorem dX5_init_68 : decode cX5_init 68 = .ok (.bipush 8, 2) := by decide +kernel
theorem dX5_init_70 : decode cX5_init 70 = .ok (.newarray .int, 2) := by decide +kernel
theorem dX5_init_72 : decode cX5_init 72 = .ok (.putfield 34, 3) := by decide +kernel
theorem dX5_init_75 : decode cX5_init 75 = .ok (.aload_n 0, 1) := by decide +kernel
theorem dX5_init_76 : decode cX5_init 76 = .ok (.bipush 8, 2) := by decide +kernel
theorem dX5_init_78 : decode cX5_init 78 = .ok (.newarray .int, 2) := by decide +kernel
theorem dX5_init_80 : decode cX5_init 80 = .ok (.putfield 37, 3) := by decide +kernel
theorem dX5_init_83 : decode cX5_init 83 = .ok (.aload_n 0, 1) := by decide +kernel
theorem dX5_init_84 : decode cX5_init 84 = .ok (.sipush 800, 3) := by decide +kernel
theorem dX5_init_87 : decode cX5_init 87 = .ok (.newarray .int, 2) := by decide +kernel
theorem dX5_init_89 : decode cX5_init 89 = .ok (.putfield 40, 3) := by decide +kernel
theorem dX5_init_92 : decode cX5_init 92 = .ok (.iconst 0, 1) := by decide +kernel
theorem dX5_init_93 : decode cX5_init 93 = .ok (.istore_n 1, 1) := by decide +kernel
theorem dX5_init_94 : decode cX5_init 94 = .ok (.iload_n 1, 1) := by decide +kernel
theorem dX5_init_95 : decode cX5_init 95 = .ok (.bipush 10, 2) := by decide +kernel
theorem dX5_init_97 : decode cX5_init 97 = .ok (.if_icmp .ge 19, 3) := by decide +kernel
theorem dX5_init_100 : decode cX5_init 100 = .ok (.aload_n 0, 1) := by decide +kernel
theorem dX5_init_101 : decode cX5_init 101 = .ok (.getfield 9, 3) := by decide +kernel
theorem dX5_init_104 : decode cX5_init 104 = .ok (.iconst 5, 1) := by decide +kernel
theorem dX5_init_105 : decode cX5_init 105 = .ok (.iload_n 1, 1) := by decide +kernel
theorem dX5_init_106 : decode cX5_init 106 = .ok (.iadd, 1) := by decide +kernel
theorem dX5_init_107 : decode cX5_init 107 = .ok (.bipush 100, 2) := by decide +kernel
theorem dX5_init_109 : decode cX5_init 109 = .ok (.iastore, 1) := by decide +kernel
theorem dX5_init_110 : decode cX5_init 110 = .ok (.iinc 1 1, 3) := by decide +kernel
theorem dX5_init_113 : decode cX5_init 113 = .ok (.goto (-19), 3) := by decide +kernel
theorem dX5_init_116 : decode cX5_init 116 = .ok (.return_, 1) := by decide +kernel
theorem dX5_isIn_0 : decode cX5_isIn 0 = .ok (.iload_n 0, 1) := by decide +kernel
theorem dX5_isIn_1 : decode cX5_isIn 1 = .ok (.iload_n 1, 1) := by decide +kernel
theorem dX5_isIn_2 : decode cX5_isIn 2 = .ok (.if_icmp .lt 12, 3) := by decide +kernel
theorem dX5_isIn_5 : decode cX5_isIn 5 = .ok (.iload_n 0, 1) := by decide +kernel
theorem dX5_isIn_6 : decode cX5_isIn 6 = .ok (.iload_n 2, 1) := by decide +kernel
theorem dX5_isIn_7 : decode cX5_isIn 7 = .ok (.if_icmp .gt 7, 3) := by decide +kernel
theorem dX5_isIn_10 : decode cX5_isIn 10 = .ok (.iconst 1, 1) := by decide +kernel
theorem dX5_isIn_11 : decode cX5_isIn 11 = .ok (.goto 4, 3) := by decide +kernel
theorem dX5_isIn_14 : decode cX5_isIn 14 = .ok (.iconst 0, 1) := by decide +kernel
theorem dX5_isIn_15 : decode cX5_isIn 15 = .ok (.ireturn, 1) := by decide +kernel
theorem dX5_least_0 : decode cX5_least 0 = .ok (.iload_n 0, 1) := by decide +kernel
theorem dX5_least_1 : decode cX5_least 1 = .ok (.iload_n 1, 1) := by decide +kernel
theorem dX5_least_2 : decode cX5_least 2 = .ok (.if_icmp .ge 7, 3) := by decide +kernel
theorem dX5_least_5 : decode cX5_least 5 = .ok (.iload_n 0, 1) := by decide +kernel
theorem dX5_least_6 : decode cX5_least 6 = .ok (.goto 4, 3) := by decide +kernel
theorem dX5_least_9 : decode cX5_least 9 = .ok (.iload_n 1, 1) := by decide +kernel
theorem dX5_least_10 : decode cX5_least 10 = .ok (.ireturn, 1) := by decide +kernel
theorem dX5_most_0 : decode cX5_most 0 = .ok (.iload_n 0, 1) := by decide +kernel
theorem dX5_most_1 : decode cX5_most 1 = .ok (.iload_n 1, 1) := by decide +kernel
theorem dX5_most_2 : decode cX5_most 2 = .ok (.if_icmp .le 7, 3) := by decide +kernel
theorem dX5_most_5 : decode cX5_most 5 = .ok (.iload_n 0, 1) := by decide +kernel
theorem dX5_most_6 : decode cX5_most 6 = .ok (.goto 4, 3) := by decide +kernel
theorem dX5_most_9 : decode cX5_most 9 = .ok (.iload_n 1, 1) := by decide +kernel
theorem dX5_most_10 : decode cX5_most 10 = .ok (.ireturn, 1) := by decide +kernel
theorem dX5_copies_0 : decode cX5_copies 0 = .ok (.iconst 0, 1) := by decide +kernel
theorem dX5_copies_1 : decode cX5_copies 1 = .ok (.istore_n 2, 1) := by decide +kernel
theorem dX5_copies_2 : decode cX5_copies 2 = .ok (.iload_n 2, 1) := by decide +kernel
theorem dX5_copies_3 : decode cX5_copies 3 = .ok (.bipush 61, 2) := by decide +kernel
theorem dX5_copies_5 : decode cX5_copies 5 = .ok (.if_icmp .ge 15, 3) := by decide +kernel
theorem dX5_copies_8 : decode cX5_copies 8 = .ok (.aload_n 1, 1) := by decide +kernel
theorem dX5_copies_9 : decode cX5_copies 9 = .ok (.iload_n 2, 1) := by decide +kernel
theorem dX5_copies_10 : decode cX5_copies 10 = .ok (.aload_n 0, 1) := by decide +kernel
theorem dX5_copies_11 : decode cX5_copies 11 = .ok (.iload_n 2, 1) := by decide +kernel
theorem dX5_copies_12 : decode cX5_copies 12 = .ok (.iaload, 1) := by decide +kernel
theorem dX5_copies_13 : decode cX5_copies 13 = .ok (.iastore, 1) := by decide +kernel
theorem dX5_copies_14 : decode cX5_copies 14 = .ok (.iinc 2 1, 3) := by decide +kernel
theorem dX5_copies_17 : decode cX5_copies 17 = .ok (.goto (-15), 3) := by decide +kernel
theorem dX5_copies_20 : decode cX5_copies 20 = .ok (.return_, 1) := by decide +kernel
theorem dX5_of_0 : decode cX5_of 0 = .ok (.bipush 25, 2) := by decide +kernel
theorem dX5_of_2 : decode cX5_of 2 = .ok (.bipush 6, 2) := by decide +kernel
theorem dX5_of_4 : decode cX5_of 4 = .ok (.iload_n 0, 1) := by decide +kernel
theorem dX5_of_5 : decode cX5_of 5 = .ok (.imul, 1) := by decide +kernel
theorem dX5_of_6 : decode cX5_of 6 = .ok (.iadd, 1) := by decide +kernel
theorem dX5_of_7 : decode cX5_of 7 = .ok (.iload_n 1, 1) := by decide +kernel
theorem dX5_of_8 : decode cX5_of 8 = .ok (.iadd, 1) := by decide +kernel
theorem dX5_of_9 : decode cX5_of 9 = .ok (.ireturn, 1) := by decide +kernel
theorem dX5_isOne_0 : decode cX5_isOne 0 = .ok (.iload_n 1, 1) := by decide +kernel
theorem dX5_isOne_1 : decode cX5_isOne 1 = .ok (.iconst 0, 1) := by decide +kernel
theorem dX5_isOne_2 : decode cX5_isOne 2 = .ok (.aload_n 0, 1) := by decide +kernel
theorem dX5_isOne_3 : decode cX5_isOne 3 = .ok (.getfield 9, 3) := by decide +kernel
theorem dX5_isOne_6 : decode cX5_isOne 6 = .ok (.iconst 0, 1) := by decide +kernel
theorem dX5_isOne_7 : decode cX5_isOne 7 = .ok (.iaload, 1) := by decide +kernel
theorem dX5_isOne_8 : decode cX5_isOne 8 = .ok (.iconst 1, 1) := by decide +kernel
theorem dX5_isOne_9 : decode cX5_isOne 9 = .ok (.isub, 1) := by decide +kernel
theorem dX5_isOne_10 : decode cX5_isOne 10 = .ok (.invokestatic 43, 3) := by decide +kernel
theorem dX5_isOne_13 : decode cX5_isOne 13 = .ok (.ireturn, 1) := by decide +kernel
theorem dX5_isDip_0 : decode cX5_isDip 0 = .ok (.iload_n 0, 1) := by decide +kernel
theorem dX5_isDip_1 : decode cX5_isDip 1 = .ok (.iconst 0, 1) := by decide +kernel
theorem dX5_isDip_2 : decode cX5_isDip 2 = .ok (.bipush 9, 2) := by decide +kernel
theorem dX5_isDip_4 : decode cX5_isDip 4 = .ok (.invokestatic 43, 3) := by decide +kernel
theorem dX5_isDip_7 : decode cX5_isDip 7 = .ok (.ireturn, 1) := by decide +kernel
theorem dX5_has_0 : decode cX5_has 0 = .ok (.iload_n 0, 1) := by decide +kernel
theorem dX5_has_1 : decode cX5_has 1 = .ok (.iload_n 1, 1) := by decide +kernel
theorem dX5_has_2 : decode cX5_has 2 = .ok (.ishr, 1) := by decide +kernel
theorem dX5_has_3 : decode cX5_has 3 = .ok (.iconst 1, 1) := by decide +kernel
theorem dX5_has_4 : decode cX5_has 4 = .ok (.iand, 1) := by decide +kernel
theorem dX5_has_5 : decode cX5_has 5 = .ok (.iconst 1, 1) := by decide +kernel
theorem dX5_has_6 : decode cX5_has 6 = .ok (.if_icmp .ne 7, 3) := by decide +kernel
theorem dX5_has_9 : decode cX5_has 9 = .ok (.iconst 1, 1) := by decide +kernel
theorem dX5_has_10 : decode cX5_has 10 = .ok (.goto 4, 3) := by decide +kernel
theorem dX5_has_13 : decode cX5_has 13 = .ok (.iconst 0, 1) := by decide +kernel
theorem dX5_has_14 : decode cX5_has 14 = .ok (.ireturn, 1) := by decide +kernel
theorem dX5_bits_0 : decode cX5_bits 0 = .ok (.iconst 0, 1) := by decide +kernel
theorem dX5_bits_1 : decode cX5_bits 1 = .ok (.istore_n 1, 1) := by decide +kernel
theorem dX5_bits_2 : decode cX5_bits 2 = .ok (.iconst 0, 1) := by decide +kernel
theorem dX5_bits_3 : decode cX5_bits 3 = .ok (.istore_n 2, 1) := by decide +kernel
theorem dX5_bits_4 : decode cX5_bits 4 = .ok (.iload_n 2, 1) := by decide +kernel
theorem dX5_bits_5 : decode cX5_bits 5 = .ok (.bipush 10, 2) := by decide +kernel
theorem dX5_bits_7 : decode cX5_bits 7 = .ok (.if_icmp .ge 17, 3) := by decide +kernel
theorem dX5_bits_10 : decode cX5_bits 10 = .ok (.iload_n 1, 1) := by decide +kernel
theorem dX5_bits_11 : decode cX5_bits 11 = .ok (.iload_n 0, 1) := by decide +kernel
theorem dX5_bits_12 : decode cX5_bits 12 = .ok (.iload_n 2, 1) := by decide +kernel
theorem dX5_bits_13 : decode cX5_bits 13 = .ok (.ishr, 1) := by decide +kernel
theorem dX5_bits_14 : decode cX5_bits 14 = .ok (.iconst 1, 1) := by decide +kernel
theorem dX5_bits_15 : decode cX5_bits 15 = .ok (.iand, 1) := by decide +kernel
theorem dX5_bits_16 : decode cX5_bits 16 = .ok (.iadd, 1) := by decide +kernel
theorem dX5_bits_17 : decode cX5_bits 17 = .ok (.istore_n 1, 1) := by decide +kernel
theorem dX5_bits_18 : decode cX5_bits 18 = .ok (.iinc 2 1, 3) := by decide +kernel
theorem dX5_bits_21 : decode cX5_bits 21 = .ok (.goto (-17), 3) := by decide +kernel
theorem dX5_bits_24 : decode cX5_bits 24 = .ok (.iload_n 1, 1) := by decide +kernel
theorem dX5_bits_25 : decode cX5_bits 25 = .ok (.ireturn, 1) := by decide +kernel
theorem dX5_left_0 : decode cX5_left 0 = .ok (.aload_n 0, 1) := by decide +kernel
theorem dX5_left_1 : decode cX5_left 1 = .ok (.iconst 5, 1) := by decide +kernel
theorem dX5_left_2 : decode cX5_left 2 = .ok (.iload_n 1, 1) := by decide +kernel
theorem dX5_left_3 : decode cX5_left 3 = .ok (.iadd, 1) := by decide +kernel
theorem dX5_left_4 : decode cX5_left 4 = .ok (.iaload, 1) := by decide +kernel
theorem dX5_left_5 : decode cX5_left 5 = .ok (.aload_n 0, 1) := by decide +kernel
theorem dX5_left_6 : decode cX5_left 6 = .ok (.bipush 15, 2) := by decide +kernel
theorem dX5_left_8 : decode cX5_left 8 = .ok (.iload_n 1, 1) := by decide +kernel
theorem dX5_left_9 : decode cX5_left 9 = .ok (.iadd, 1) := by decide +kernel
theorem dX5_left_10 : decode cX5_left 10 = .ok (.iaload, 1) := by decide +kernel
theorem dX5_left_11 : decode cX5_left 11 = .ok (.isub, 1) := by decide +kernel
theorem dX5_left_12 : decode cX5_left 12 = .ok (.ireturn, 1) := by decide +kernel
theorem dX5_counts_0 : decode cX5_counts 0 = .ok (.aload_n 0, 1) := by decide +kernel
theorem dX5_counts_1 : decode cX5_counts 1 = .ok (.iload_n 1, 1) := by decide +kernel
theorem dX5_counts_2 : decode cX5_counts 2 = .ok (.iconst 1, 1) := by decide +kernel
theorem dX5_counts_3 : decode cX5_counts 3 = .ok (.invokestatic 47, 3) := by decide +kernel
theorem dX5_counts_6 : decode cX5_counts 6 = .ok (.iaload, 1) := by decide +kernel
theorem dX5_counts_7 : decode cX5_counts 7 = .ok (.istore_n 3, 1) := by decide +kernel
theorem dX5_counts_8 : decode cX5_counts 8 = .ok (.aload_n 0, 1) := by decide +kernel
theorem dX5_counts_9 : decode cX5_counts 9 = .ok (.aload_n 0, 1) := by decide +kernel
theorem dX5_counts_10 : decode cX5_counts 10 = .ok (.iload_n 1, 1) := by decide +kernel
theorem dX5_counts_11 : decode cX5_counts 11 = .ok (.iconst 2, 1) := by decide +kernel
theorem dX5_counts_12 : decode cX5_counts 12 = .ok (.invokestatic 47, 3) := by decide +kernel
theorem dX5_counts_15 : decode cX5_counts 15 = .ok (.iaload, 1) := by decide +kernel
theorem dX5_counts_16 : decode cX5_counts 16 = .ok (.invokestatic 51, 3) := by decide +kernel
theorem dX5_counts_19 : decode cX5_counts 19 = .ok (.istore 4, 2) := by decide +kernel
theorem dX5_counts_21 : decode cX5_counts 21 = .ok (.aload_n 0, 1) := by decide +kernel
theorem dX5_counts_22 : decode cX5_counts 22 = .ok (.iload_n 1, 1) := by decide +kernel
theorem dX5_counts_23 : decode cX5_counts 23 = .ok (.iconst 0, 1) := by decide +kernel
theorem dX5_counts_24 : decode cX5_counts 24 = .ok (.invokestatic 47, 3) := by decide +kernel
theorem dX5_counts_27 : decode cX5_counts 27 = .ok (.iaload, 1) := by decide +kernel
theorem dX5_counts_28 : decode cX5_counts 28 = .ok (.tableswitch 135 1 7 #[44, 54, 61, 73, 87, 104, 126], 44) := by decide +kernel
theorem dX5_counts_72 : decode cX5_counts 72 = .ok (.iload 4, 2) := by decide +kernel
theorem dX5_counts_74 : decode cX5_counts 74 = .ok (.bipush 9, 2) := by decide +kernel
theorem dX5_counts_76 : decode cX5_counts 76 = .ok (.iload_n 3, 1) := by decide +kernel
theorem dX5_counts_77 : decode cX5_counts 77 = .ok (.iadd, 1) := by decide +kernel
theorem dX5_counts_78 : decode cX5_counts 78 = .ok (.invokestatic 55, 3) := by decide +kernel
theorem dX5_counts_81 : decode cX5_counts 81 = .ok (.ireturn, 1) := by decide +kernel
theorem dX5_counts_82 : decode cX5_counts 82 = .ok (.iload 4, 2) := by decide +kernel
theorem dX5_counts_84 : decode cX5_counts 84 = .ok (.iconst 1, 1) := by decide +kernel
theorem dX5_counts_85 : decode cX5_counts 85 = .ok (.iadd, 1) := by decide +kernel
theorem dX5_counts_86 : decode cX5_counts 86 = .ok (.iconst 2, 1) := by decide +kernel
theorem dX5_counts_87 : decode cX5_counts 87 = .ok (.idiv, 1) := by decide +kernel
theorem dX5_counts_88 : decode cX5_counts 88 = .ok (.ireturn, 1) := by decide +kernel
theorem dX5_counts_89 : decode cX5_counts 89 = .ok (.iload 4, 2) := by decide +kernel
theorem dX5_counts_91 : decode cX5_counts 91 = .ok (.bipush 10, 2) := by decide +kernel
theorem dX5_counts_93 : decode cX5_counts 93 = .ok (.iload_n 3, 1) := by decide +kernel
theorem dX5_counts_94 : decode cX5_counts 94 = .ok (.iadd, 1) := by decide +kernel
theorem dX5_counts_95 : decode cX5_counts 95 = .ok (.iconst 2, 1) := by decide +kernel
theorem dX5_counts_96 : decode cX5_counts 96 = .ok (.idiv, 1) := by decide +kernel
theorem dX5_counts_97 : decode cX5_counts 97 = .ok (.invokestatic 55, 3) := by decide +kernel
theorem dX5_counts_100 : decode cX5_counts 100 = .ok (.ireturn, 1) := by decide +kernel
theorem dX5_counts_101 : decode cX5_counts 101 = .ok (.iload 4, 2) := by decide +kernel
theorem dX5_counts_103 : decode cX5_counts 103 = .ok (.bipush 9, 2) := by decide +kernel
theorem dX5_counts_105 : decode cX5_counts 105 = .ok (.iload_n 3, 1) := by decide +kernel
theorem dX5_counts_106 : decode cX5_counts 106 = .ok (.iadd, 1) := by decide +kernel
theorem dX5_counts_107 : decode cX5_counts 107 = .ok (.iconst 2, 1) := by decide +kernel
theorem dX5_counts_108 : decode cX5_counts 108 = .ok (.idiv, 1) := by decide +kernel
theorem dX5_counts_109 : decode cX5_counts 109 = .ok (.iconst 1, 1) := by decide +kernel
theorem dX5_counts_110 : decode cX5_counts 110 = .ok (.iadd, 1) := by decide +kernel
theorem dX5_counts_111 : decode cX5_counts 111 = .ok (.invokestatic 55, 3) := by decide +kernel
theorem dX5_counts_114 : decode cX5_counts 114 = .ok (.ireturn, 1) := by decide +kernel
theorem dX5_counts_115 : decode cX5_counts 115 = .ok (.iload 4, 2) := by decide +kernel
theorem dX5_counts_117 : decode cX5_counts 117 = .ok (.bipush 20, 2) := by decide +kernel
theorem dX5_counts_119 : decode cX5_counts 119 = .ok (.iload 4, 2) := by decide +kernel
theorem dX5_counts_121 : decode cX5_counts 121 = .ok (.iconst 1, 1) := by decide +kernel
theorem dX5_counts_122 : decode cX5_counts 122 = .ok (.iadd, 1) := by decide +kernel
theorem dX5_counts_123 : decode cX5_counts 123 = .ok (.iconst 2, 1) := by decide +kernel
theorem dX5_counts_124 : decode cX5_counts 124 = .ok (.idiv, 1) := by decide +kernel
theorem dX5_counts_125 : decode cX5_counts 125 = .ok (.invokestatic 58, 3) := by decide +kernel
theorem dX5_counts_128 : decode cX5_counts 128 = .ok (.invokestatic 55, 3) := by decide +kernel
theorem dX5_counts_131 : decode cX5_counts 131 = .ok (.ireturn, 1) := by decide +kernel
theorem dX5_counts_132 : decode cX5_counts 132 = .ok (.iload_n 2, 1) := by decide +kernel
theorem dX5_counts_133 : decode cX5_counts 133 = .ok (.iconst 2, 1) := by decide +kernel
theorem dX5_counts_134 : decode cX5_counts 134 = .ok (.irem, 1) := by decide +kernel
theorem dX5_counts_135 : decode cX5_counts 135 = .ok (.ifCond .ne 17, 3) := by decide +kernel
theorem dX5_counts_138 : decode cX5_counts 138 = .ok (.iload 4, 2) := by decide +kernel
theorem dX5_counts_140 : decode cX5_counts 140 = .ok (.bipush 10, 2) := by decide +kernel
theorem dX5_counts_142 : decode cX5_counts 142 = .ok (.iload_n 3, 1) := by decide +kernel
theorem dX5_counts_143 : decode cX5_counts 143 = .ok (.iadd, 1) := by decide +kernel
theorem dX5_counts_144 : decode cX5_counts 144 = .ok (.iconst 2, 1) := by decide +kernel
theorem dX5_counts_145 : decode cX5_counts 145 = .ok (.idiv, 1) := by decide +kernel
theorem dX5_counts_146 : decode cX5_counts 146 = .ok (.invokestatic 55, 3) := by decide +kernel
theorem dX5_counts_149 : decode cX5_counts 149 = .ok (.goto 4, 3) := by decide +kernel
theorem dX5_counts_152 : decode cX5_counts 152 = .ok (.iconst 0, 1) := by decide +kernel
theorem dX5_counts_153 : decode cX5_counts 153 = .ok (.ireturn, 1) := by decide +kernel
theorem dX5_counts_154 : decode cX5_counts 154 = .ok (.iload 4, 2) := by decide +kernel
theorem dX5_counts_156 : decode cX5_counts 156 = .ok (.iload_n 3, 1) := by decide +kernel
theorem dX5_counts_157 : decode cX5_counts 157 = .ok (.iconst 1, 1) := by decide +kernel
theorem dX5_counts_158 : decode cX5_counts 158 = .ok (.iadd, 1) := by decide +kernel
theorem dX5_counts_159 : decode cX5_counts 159 = .ok (.invokestatic 55, 3) := by decide +kernel
theorem dX5_counts_162 : decode cX5_counts 162 = .ok (.ireturn, 1) := by decide +kernel
theorem dX5_counts_163 : decode cX5_counts 163 = .ok (.iload 4, 2) := by decide +kernel
theorem dX5_counts_165 : decode cX5_counts 165 = .ok (.bipush 10, 2) := by decide +kernel
theorem dX5_counts_167 : decode cX5_counts 167 = .ok (.iload_n 3, 1) := by decide +kernel
theorem dX5_counts_168 : decode cX5_counts 168 = .ok (.iadd, 1) := by decide +kernel
theorem dX5_counts_169 : decode cX5_counts 169 = .ok (.invokestatic 55, 3) := by decide +kernel
theorem dX5_counts_172 : decode cX5_counts 172 = .ok (.ireturn, 1) := by decide +kernel
theorem dX5_books_0 : decode cX5_books 0 = .ok (.iload_n 0, 1) := by decide +kernel
theorem dX5_books_1 : decode cX5_books 1 = .ok (.tableswitch 63 2 6 #[35, 63, 63, 47, 51], 35) := by decide +kernel
theorem dX5_books_36 : decode cX5_books 36 = .ok (.iload_n 2, 1) := by decide +kernel
theorem dX5_books_37 : decode cX5_books 37 = .ok (.ifCond .le 9, 3) := by decide +kernel
theorem dX5_books_40 : decode cX5_books 40 = .ok (.iload_n 2, 1) := by decide +kernel
theorem dX5_books_41 : decode cX5_books 41 = .ok (.iload_n 1, 1) := by decide +kernel
theorem dX5_books_42 : decode cX5_books 42 = .ok (.iadd, 1) := by decide +kernel
theorem dX5_books_43 : decode cX5_books 43 = .ok (.goto 4, 3) := by decide +kernel
theorem dX5_books_46 : decode cX5_books 46 = .ok (.iconst 0, 1) := by decide +kernel
theorem dX5_books_47 : decode cX5_books 47 = .ok (.ireturn, 1) := by decide +kernel
theorem dX5_books_48 : decode cX5_books 48 = .ok (.iconst 2, 1) := by decide +kernel
theorem dX5_books_49 : decode cX5_books 49 = .ok (.iload_n 2, 1) := by decide +kernel
theorem dX5_books_50 : decode cX5_books 50 = .ok (.imul, 1) := by decide +kernel
theorem dX5_books_51 : decode cX5_books 51 = .ok (.ireturn, 1) := by decide +kernel
theorem dX5_books_52 : decode cX5_books 52 = .ok (.iload_n 2, 1) := by decide +kernel
theorem dX5_books_53 : decode cX5_books 53 = .ok (.ifCond .le 9, 3) := by decide +kernel
theorem dX5_books_56 : decode cX5_books 56 = .ok (.iload_n 2, 1) := by decide +kernel
theorem dX5_books_57 : decode cX5_books 57 = .ok (.iconst 1, 1) := by decide +kernel
theorem dX5_books_58 : decode cX5_books 58 = .ok (.isub, 1) := by decide +kernel
theorem dX5_books_59 : decode cX5_books 59 = .ok (.goto 4, 3) := by decide +kernel
theorem dX5_books_62 : decode cX5_books 62 = .ok (.iconst 0, 1) := by decide +kernel
theorem dX5_books_63 : decode cX5_books 63 = .ok (.ireturn, 1) := by decide +kernel
theorem dX5_books_64 : decode cX5_books 64 = .ok (.iload_n 2, 1) := by decide +kernel
theorem dX5_books_65 : decode cX5_books 65 = .ok (.ireturn, 1) := by decide +kernel
theorem dX5_writes_0 : decode cX5_writes 0 = .ok (.aload_n 0, 1) := by decide +kernel
theorem dX5_writes_1 : decode cX5_writes 1 = .ok (.iload_n 1, 1) := by decide +kernel
theorem dX5_writes_2 : decode cX5_writes 2 = .ok (.iconst 4, 1) := by decide +kernel
theorem dX5_writes_3 : decode cX5_writes 3 = .ok (.invokestatic 47, 3) := by decide +kernel
theorem dX5_writes_6 : decode cX5_writes 6 = .ok (.sipush 9999, 3) := by decide +kernel
theorem dX5_writes_9 : decode cX5_writes 9 = .ok (.aload_n 0, 1) := by decide +kernel
theorem dX5_writes_10 : decode cX5_writes 10 = .ok (.iload_n 1, 1) := by decide +kernel
theorem dX5_writes_11 : decode cX5_writes 11 = .ok (.iconst 4, 1) := by decide +kernel
theorem dX5_writes_12 : decode cX5_writes 12 = .ok (.invokestatic 47, 3) := by decide +kernel
theorem dX5_writes_15 : decode cX5_writes 15 = .ok (.iaload, 1) := by decide +kernel
theorem dX5_writes_16 : decode cX5_writes 16 = .ok (.iload_n 2, 1) := by decide +kernel
theorem dX5_writes_17 : decode cX5_writes 17 = .ok (.iadd, 1) := by decide +kernel
theorem dX5_writes_18 : decode cX5_writes 18 = .ok (.invokestatic 55, 3) := by decide +kernel
theorem dX5_writes_21 : decode cX5_writes 21 = .ok (.iastore, 1) := by decide +kernel
theorem dX5_writes_22 : decode cX5_writes 22 = .ok (.return_, 1) := by decide +kernel
theorem dX5_isStood_0 : decode cX5_isStood 0 = .ok (.iconst 0, 1) := by decide +kernel
theorem dX5_isStood_1 : decode cX5_isStood 1 = .ok (.istore_n 3, 1) := by decide +kernel
theorem dX5_isStood_2 : decode cX5_isStood 2 = .ok (.iload_n 3, 1) := by decide +kernel
theorem dX5_isStood_3 : decode cX5_isStood 3 = .ok (.aload_n 0, 1) := by decide +kernel
theorem dX5_isStood_4 : decode cX5_isStood 4 = .ok (.iconst 0, 1) := by decide +kernel
theorem dX5_isStood_5 : decode cX5_isStood 5 = .ok (.iaload, 1) := by decide +kernel
theorem dX5_isStood_6 : decode cX5_isStood 6 = .ok (.if_icmp .ge 33, 3) := by decide +kernel
theorem dX5_isStood_9 : decode cX5_isStood 9 = .ok (.aload_n 0, 1) := by decide +kernel
theorem dX5_isStood_10 : decode cX5_isStood 10 = .ok (.iload_n 3, 1) := by decide +kernel
theorem dX5_isStood_11 : decode cX5_isStood 11 = .ok (.iconst 2, 1) := by decide +kernel
theorem dX5_isStood_12 : decode cX5_isStood 12 = .ok (.invokestatic 47, 3) := by decide +kernel
theorem dX5_isStood_15 : decode cX5_isStood 15 = .ok (.iaload, 1) := by decide +kernel
theorem dX5_isStood_16 : decode cX5_isStood 16 = .ok (.iload_n 1, 1) := by decide +kernel
theorem dX5_isStood_17 : decode cX5_isStood 17 = .ok (.if_icmp .ne 16, 3) := by decide +kernel
theorem dX5_isStood_20 : decode cX5_isStood 20 = .ok (.aload_n 0, 1) := by decide +kernel
theorem dX5_isStood_21 : decode cX5_isStood 21 = .ok (.iload_n 3, 1) := by decide +kernel
theorem dX5_isStood_22 : decode cX5_isStood 22 = .ok (.iconst 3, 1) := by decide +kernel
theorem dX5_isStood_23 : decode cX5_isStood 23 = .ok (.invokestatic 47, 3) := by decide +kernel
theorem dX5_isStood_26 : decode cX5_isStood 26 = .ok (.iaload, 1) := by decide +kernel
theorem dX5_isStood_27 : decode cX5_isStood 27 = .ok (.iload_n 2, 1) := by decide +kernel
theorem dX5_isStood_28 : decode cX5_isStood 28 = .ok (.if_icmp .ne 5, 3) := by decide +kernel
theorem dX5_isStood_31 : decode cX5_isStood 31 = .ok (.iconst 1, 1) := by decide +kernel
theorem dX5_isStood_32 : decode cX5_isStood 32 = .ok (.ireturn, 1) := by decide +kernel
theorem dX5_isStood_33 : decode cX5_isStood 33 = .ok (.iinc 3 1, 3) := by decide +kernel
theorem dX5_isStood_36 : decode cX5_isStood 36 = .ok (.goto (-34), 3) := by decide +kernel
theorem dX5_isStood_39 : decode cX5_isStood 39 = .ok (.iconst 0, 1) := by decide +kernel
theorem dX5_isStood_40 : decode cX5_isStood 40 = .ok (.ireturn, 1) := by decide +kernel
theorem dX5_goes_0 : decode cX5_goes 0 = .ok (.aload_n 0, 1) := by decide +kernel
theorem dX5_goes_1 : decode cX5_goes 1 = .ok (.iload_n 1, 1) := by decide +kernel
theorem dX5_goes_2 : decode cX5_goes 2 = .ok (.iconst 2, 1) := by decide +kernel
theorem dX5_goes_3 : decode cX5_goes 3 = .ok (.invokestatic 47, 3) := by decide +kernel
theorem dX5_goes_6 : decode cX5_goes 6 = .ok (.iaload, 1) := by decide +kernel
theorem dX5_goes_7 : decode cX5_goes 7 = .ok (.iconst 1, 1) := by decide +kernel
theorem dX5_goes_8 : decode cX5_goes 8 = .ok (.iadd, 1) := by decide +kernel
theorem dX5_goes_9 : decode cX5_goes 9 = .ok (.iconst 2, 1) := by decide +kernel
theorem dX5_goes_10 : decode cX5_goes 10 = .ok (.aload_n 0, 1) := by decide +kernel
theorem dX5_goes_11 : decode cX5_goes 11 = .ok (.iload_n 1, 1) := by decide +kernel
theorem dX5_goes_12 : decode cX5_goes 12 = .ok (.iconst 3, 1) := by decide +kernel
theorem dX5_goes_13 : decode cX5_goes 13 = .ok (.invokestatic 47, 3) := by decide +kernel
theorem dX5_goes_16 : decode cX5_goes 16 = .ok (.iaload, 1) := by decide +kernel
theorem dX5_goes_17 : decode cX5_goes 17 = .ok (.imul, 1) := by decide +kernel
theorem dX5_goes_18 : decode cX5_goes 18 = .ok (.isub, 1) := by decide +kernel
theorem dX5_goes_19 : decode cX5_goes 19 = .ok (.istore_n 2, 1) := by decide +kernel
theorem dX5_goes_20 : decode cX5_goes 20 = .ok (.iload_n 2, 1) := by decide +kernel
theorem dX5_goes_21 : decode cX5_goes 21 = .ok (.invokestatic 61, 3) := by decide +kernel
theorem dX5_goes_24 : decode cX5_goes 24 = .ok (.ifCond .eq 28, 3) := by decide +kernel
theorem dX5_goes_27 : decode cX5_goes 27 = .ok (.aload_n 0, 1) := by decide +kernel
theorem dX5_goes_28 : decode cX5_goes 28 = .ok (.iload_n 2, 1) := by decide +kernel
theorem dX5_goes_29 : decode cX5_goes 29 = .ok (.iconst 1, 1) := by decide +kernel
theorem dX5_goes_30 : decode cX5_goes 30 = .ok (.aload_n 0, 1) := by decide +kernel
theorem dX5_goes_31 : decode cX5_goes 31 = .ok (.iload_n 1, 1) := by decide +kernel
theorem dX5_goes_32 : decode cX5_goes 32 = .ok (.iconst 3, 1) := by decide +kernel
theorem dX5_goes_33 : decode cX5_goes 33 = .ok (.invokestatic 47, 3) := by decide +kernel
theorem dX5_goes_36 : decode cX5_goes 36 = .ok (.iaload, 1) := by decide +kernel
theorem dX5_goes_37 : decode cX5_goes 37 = .ok (.isub, 1) := by decide +kernel
theorem dX5_goes_38 : decode cX5_goes 38 = .ok (.invokestatic 65, 3) := by decide +kernel
theorem dX5_goes_41 : decode cX5_goes 41 = .ok (.ifCond .ne 11, 3) := by decide +kernel
theorem dX5_goes_44 : decode cX5_goes 44 = .ok (.aload_n 0, 1) := by decide +kernel
theorem dX5_goes_45 : decode cX5_goes 45 = .ok (.iload_n 1, 1) := by decide +kernel
theorem dX5_goes_46 : decode cX5_goes 46 = .ok (.iconst 2, 1) := by decide +kernel
theorem dX5_goes_47 : decode cX5_goes 47 = .ok (.invokestatic 47, 3) := by decide +kernel
theorem dX5_goes_50 : decode cX5_goes 50 = .ok (.iload_n 2, 1) := by decide +kernel
theorem dX5_goes_51 : decode cX5_goes 51 = .ok (.iastore, 1) := by decide +kernel
theorem dX5_goes_52 : decode cX5_goes 52 = .ok (.return_, 1) := by decide +kernel
theorem dX5_worksOn_0 : decode cX5_worksOn 0 = .ok (.aload_n 0, 1) := by decide +kernel
theorem dX5_worksOn_1 : decode cX5_worksOn 1 = .ok (.iload_n 1, 1) := by decide +kernel
theorem dX5_worksOn_2 : decode cX5_worksOn 2 = .ok (.iconst 5, 1) := by decide +kernel
theorem dX5_worksOn_3 : decode cX5_worksOn 3 = .ok (.invokestatic 47, 3) := by decide +kernel
theorem dX5_worksOn_6 : decode cX5_worksOn 6 = .ok (.iaload, 1) := by decide +kernel
theorem dX5_worksOn_7 : decode cX5_worksOn 7 = .ok (.iconst 1, 1) := by decide +kernel
theorem dX5_worksOn_8 : decode cX5_worksOn 8 = .ok (.if_icmp .ne 4, 3) := by decide +kernel
theorem dX5_worksOn_11 : decode cX5_worksOn 11 = .ok (.return_, 1) := by decide +kernel
theorem dX5_worksOn_12 : decode cX5_worksOn 12 = .ok (.aload_n 0, 1) := by decide +kernel
theorem dX5_worksOn_13 : decode cX5_worksOn 13 = .ok (.iconst 4, 1) := by decide +kernel
theorem dX5_worksOn_14 : decode cX5_worksOn 14 = .ok (.iaload, 1) := by decide +kernel
theorem dX5_worksOn_15 : decode cX5_worksOn 15 = .ok (.iload_n 1, 1) := by decide +kernel
theorem dX5_worksOn_16 : decode cX5_worksOn 16 = .ok (.invokestatic 69, 3) := by decide +kernel
theorem dX5_worksOn_19 : decode cX5_worksOn 19 = .ok (.ifCond .eq 11, 3) := by decide +kernel
theorem dX5_worksOn_22 : decode cX5_worksOn 22 = .ok (.aload_n 0, 1) := by decide +kernel
theorem dX5_worksOn_23 : decode cX5_worksOn 23 = .ok (.iload_n 1, 1) := by decide +kernel
theorem dX5_worksOn_24 : decode cX5_worksOn 24 = .ok (.bipush 15, 2) := by decide +kernel
theorem dX5_worksOn_26 : decode cX5_worksOn 26 = .ok (.invokestatic 73, 3) := by decide +kernel
theorem dX5_worksOn_29 : decode cX5_worksOn 29 = .ok (.return_, 1) := by decide +kernel
theorem dX5_worksOn_30 : decode cX5_worksOn 30 = .ok (.aload_n 0, 1) := by decide +kernel
theorem dX5_worksOn_31 : decode cX5_worksOn 31 = .ok (.iload_n 1, 1) := by decide +kernel
theorem dX5_worksOn_32 : decode cX5_worksOn 32 = .ok (.iconst 2, 1) := by decide +kernel
theorem dX5_worksOn_33 : decode cX5_worksOn 33 = .ok (.invokestatic 47, 3) := by decide +kernel
theorem dX5_worksOn_36 : decode cX5_worksOn 36 = .ok (.iaload, 1) := by decide +kernel
theorem dX5_worksOn_37 : decode cX5_worksOn 37 = .ok (.istore_n 2, 1) := by decide +kernel
theorem dX5_worksOn_38 : decode cX5_worksOn 38 = .ok (.aload_n 0, 1) := by decide +kernel
theorem dX5_worksOn_39 : decode cX5_worksOn 39 = .ok (.iload_n 1, 1) := by decide +kernel
theorem dX5_worksOn_40 : decode cX5_worksOn 40 = .ok (.aload_n 0, 1) := by decide +kernel
theorem dX5_worksOn_41 : decode cX5_worksOn 41 = .ok (.iconst 1, 1) := by decide +kernel
theorem dX5_worksOn_42 : decode cX5_worksOn 42 = .ok (.iaload, 1) := by decide +kernel
theorem dX5_worksOn_43 : decode cX5_worksOn 43 = .ok (.invokestatic 77, 3) := by decide +kernel
theorem dX5_worksOn_46 : decode cX5_worksOn 46 = .ok (.istore_n 3, 1) := by decide +kernel
theorem dX5_worksOn_47 : decode cX5_worksOn 47 = .ok (.aload_n 0, 1) := by decide +kernel
theorem dX5_worksOn_48 : decode cX5_worksOn 48 = .ok (.bipush 15, 2) := by decide +kernel
theorem dX5_worksOn_50 : decode cX5_worksOn 50 = .ok (.iload_n 2, 1) := by decide +kernel
theorem dX5_worksOn_51 : decode cX5_worksOn 51 = .ok (.iadd, 1) := by decide +kernel
theorem dX5_worksOn_52 : decode cX5_worksOn 52 = .ok (.dup2, 1) := by decide +kernel
theorem dX5_worksOn_53 : decode cX5_worksOn 53 = .ok (.iaload, 1) := by decide +kernel
theorem dX5_worksOn_54 : decode cX5_worksOn 54 = .ok (.iload_n 3, 1) := by decide +kernel
theorem dX5_worksOn_55 : decode cX5_worksOn 55 = .ok (.iadd, 1) := by decide +kernel
theorem dX5_worksOn_56 : decode cX5_worksOn 56 = .ok (.iastore, 1) := by decide +kernel
theorem dX5_worksOn_57 : decode cX5_worksOn 57 = .ok (.aload_n 0, 1) := by decide +kernel
theorem dX5_worksOn_58 : decode cX5_worksOn 58 = .ok (.iload_n 1, 1) := by decide +kernel
theorem dX5_worksOn_59 : decode cX5_worksOn 59 = .ok (.aload_n 0, 1) := by decide +kernel
theorem dX5_worksOn_60 : decode cX5_worksOn 60 = .ok (.iload_n 1, 1) := by decide +kernel
theorem dX5_worksOn_61 : decode cX5_worksOn 61 = .ok (.iconst 0, 1) := by decide +kernel
theorem dX5_worksOn_62 : decode cX5_worksOn 62 = .ok (.invokestatic 47, 3) := by decide +kernel
theorem dX5_worksOn_65 : decode cX5_worksOn 65 = .ok (.iaload, 1) := by decide +kernel
theorem dX5_worksOn_66 : decode cX5_worksOn 66 = .ok (.aload_n 0, 1) := by decide +kernel
theorem dX5_worksOn_67 : decode cX5_worksOn 67 = .ok (.iload_n 1, 1) := by decide +kernel
theorem dX5_worksOn_68 : decode cX5_worksOn 68 = .ok (.iconst 1, 1) := by decide +kernel
theorem dX5_worksOn_69 : decode cX5_worksOn 69 = .ok (.invokestatic 47, 3) := by decide +kernel
theorem dX5_worksOn_72 : decode cX5_worksOn 72 = .ok (.iaload, 1) := by decide +kernel
theorem dX5_worksOn_73 : decode cX5_worksOn 73 = .ok (.iload_n 3, 1) := by decide +kernel
theorem dX5_worksOn_74 : decode cX5_worksOn 74 = .ok (.invokestatic 81, 3) := by decide +kernel
theorem dX5_worksOn_77 : decode cX5_worksOn 77 = .ok (.invokestatic 73, 3) := by decide +kernel
theorem dX5_worksOn_80 : decode cX5_worksOn 80 = .ok (.aload_n 0, 1) := by decide +kernel
theorem dX5_worksOn_81 : decode cX5_worksOn 81 = .ok (.iload_n 2, 1) := by decide +kernel
theorem dX5_worksOn_82 : decode cX5_worksOn 82 = .ok (.invokestatic 51, 3) := by decide +kernel
theorem dX5_worksOn_85 : decode cX5_worksOn 85 = .ok (.ifCond .ne 8, 3) := by decide +kernel
theorem dX5_worksOn_88 : decode cX5_worksOn 88 = .ok (.aload_n 0, 1) := by decide +kernel
theorem dX5_worksOn_89 : decode cX5_worksOn 89 = .ok (.iload_n 1, 1) := by decide +kernel
theorem dX5_worksOn_90 : decode cX5_worksOn 90 = .ok (.invokestatic 85, 3) := by decide +kernel
theorem dX5_worksOn_93 : decode cX5_worksOn 93 = .ok (.return_, 1) := by decide +kernel
theorem dX5_gives_0 : decode cX5_gives 0 = .ok (.iload_n 3, 1) := by decide +kernel
theorem dX5_gives_1 : decode cX5_gives 1 = .ok (.aload_n 0, 1) := by decide +kernel
theorem dX5_gives_2 : decode cX5_gives 2 = .ok (.iconst 5, 1) := by decide +kernel
theorem dX5_gives_3 : decode cX5_gives 3 = .ok (.iload_n 1, 1) := by decide +kernel
theorem dX5_gives_4 : decode cX5_gives 4 = .ok (.iadd, 1) := by decide +kernel
theorem dX5_gives_5 : decode cX5_gives 5 = .ok (.iaload, 1) := by decide +kernel
theorem dX5_gives_6 : decode cX5_gives 6 = .ok (.sipush 999, 3) := by decide +kernel
theorem dX5_gives_9 : decode cX5_gives 9 = .ok (.aload_n 0, 1) := by decide +kernel
theorem dX5_gives_10 : decode cX5_gives 10 = .ok (.iconst 5, 1) := by decide +kernel
theorem dX5_gives_11 : decode cX5_gives 11 = .ok (.iload_n 2, 1) := by decide +kernel
theorem dX5_gives_12 : decode cX5_gives 12 = .ok (.iadd, 1) := by decide +kernel
theorem dX5_gives_13 : decode cX5_gives 13 = .ok (.iaload, 1) := by decide +kernel
theorem dX5_gives_14 : decode cX5_gives 14 = .ok (.isub, 1) := by decide +kernel
theorem dX5_gives_15 : decode cX5_gives 15 = .ok (.invokestatic 55, 3) := by decide +kernel
theorem dX5_gives_18 : decode cX5_gives 18 = .ok (.invokestatic 55, 3) := by decide +kernel
theorem dX5_gives_21 : decode cX5_gives 21 = .ok (.istore 4, 2) := by decide +kernel
theorem dX5_gives_23 : decode cX5_gives 23 = .ok (.iconst 0, 1) := by decide +kernel
theorem dX5_gives_24 : decode cX5_gives 24 = .ok (.iload 4, 2) := by decide +kernel
theorem dX5_gives_26 : decode cX5_gives 26 = .ok (.aload_n 0, 1) := by decide +kernel
theorem dX5_gives_27 : decode cX5_gives 27 = .ok (.iload_n 1, 1) := by decide +kernel
theorem dX5_gives_28 : decode cX5_gives 28 = .ok (.invokestatic 51, 3) := by decide +kernel
theorem dX5_gives_31 : decode cX5_gives 31 = .ok (.isub, 1) := by decide +kernel
theorem dX5_gives_32 : decode cX5_gives 32 = .ok (.invokestatic 58, 3) := by decide +kernel
theorem dX5_gives_35 : decode cX5_gives 35 = .ok (.istore 5, 2) := by decide +kernel
theorem dX5_gives_37 : decode cX5_gives 37 = .ok (.aload_n 0, 1) := by decide +kernel
theorem dX5_gives_38 : decode cX5_gives 38 = .ok (.iconst 5, 1) := by decide +kernel
theorem dX5_gives_39 : decode cX5_gives 39 = .ok (.iload_n 1, 1) := by decide +kernel
theorem dX5_gives_40 : decode cX5_gives 40 = .ok (.iadd, 1) := by decide +kernel
theorem dX5_gives_41 : decode cX5_gives 41 = .ok (.dup2, 1) := by decide +kernel
theorem dX5_gives_42 : decode cX5_gives 42 = .ok (.iaload, 1) := by decide +kernel
theorem dX5_gives_43 : decode cX5_gives 43 = .ok (.iload 4, 2) := by decide +kernel
theorem dX5_gives_45 : decode cX5_gives 45 = .ok (.isub, 1) := by decide +kernel
theorem dX5_gives_46 : decode cX5_gives 46 = .ok (.iastore, 1) := by decide +kernel
theorem dX5_gives_47 : decode cX5_gives 47 = .ok (.aload_n 0, 1) := by decide +kernel
theorem dX5_gives_48 : decode cX5_gives 48 = .ok (.bipush 15, 2) := by decide +kernel
theorem dX5_gives_50 : decode cX5_gives 50 = .ok (.iload_n 1, 1) := by decide +kernel
theorem dX5_gives_51 : decode cX5_gives 51 = .ok (.iadd, 1) := by decide +kernel
theorem dX5_gives_52 : decode cX5_gives 52 = .ok (.dup2, 1) := by decide +kernel
theorem dX5_gives_53 : decode cX5_gives 53 = .ok (.iaload, 1) := by decide +kernel
theorem dX5_gives_54 : decode cX5_gives 54 = .ok (.iload 5, 2) := by decide +kernel
theorem dX5_gives_56 : decode cX5_gives 56 = .ok (.isub, 1) := by decide +kernel
theorem dX5_gives_57 : decode cX5_gives 57 = .ok (.iastore, 1) := by decide +kernel
theorem dX5_gives_58 : decode cX5_gives 58 = .ok (.aload_n 0, 1) := by decide +kernel
theorem dX5_gives_59 : decode cX5_gives 59 = .ok (.iconst 3, 1) := by decide +kernel
theorem dX5_gives_60 : decode cX5_gives 60 = .ok (.dup2, 1) := by decide +kernel
theorem dX5_gives_61 : decode cX5_gives 61 = .ok (.iaload, 1) := by decide +kernel
theorem dX5_gives_62 : decode cX5_gives 62 = .ok (.iload 5, 2) := by decide +kernel
theorem dX5_gives_64 : decode cX5_gives 64 = .ok (.iadd, 1) := by decide +kernel
theorem dX5_gives_65 : decode cX5_gives 65 = .ok (.iastore, 1) := by decide +kernel
theorem dX5_gives_66 : decode cX5_gives 66 = .ok (.aload_n 0, 1) := by decide +kernel
theorem dX5_gives_67 : decode cX5_gives 67 = .ok (.iconst 5, 1) := by decide +kernel
theorem dX5_gives_68 : decode cX5_gives 68 = .ok (.iload_n 2, 1) := by decide +kernel
theorem dX5_gives_69 : decode cX5_gives 69 = .ok (.iadd, 1) := by decide +kernel
theorem dX5_gives_70 : decode cX5_gives 70 = .ok (.dup2, 1) := by decide +kernel
theorem dX5_gives_71 : decode cX5_gives 71 = .ok (.iaload, 1) := by decide +kernel
theorem dX5_gives_72 : decode cX5_gives 72 = .ok (.iload 4, 2) := by decide +kernel
theorem dX5_gives_74 : decode cX5_gives 74 = .ok (.iadd, 1) := by decide +kernel
theorem dX5_gives_75 : decode cX5_gives 75 = .ok (.iastore, 1) := by decide +kernel
theorem dX5_gives_76 : decode cX5_gives 76 = .ok (.return_, 1) := by decide +kernel
theorem dX5_day_0 : decode cX5_day 0 = .ok (.aload_n 0, 1) := by decide +kernel
theorem dX5_day_1 : decode cX5_day 1 = .ok (.iconst 1, 1) := by decide +kernel
theorem dX5_day_2 : decode cX5_day 2 = .ok (.dup2, 1) := by decide +kernel
theorem dX5_day_3 : decode cX5_day 3 = .ok (.iaload, 1) := by decide +kernel
theorem dX5_day_4 : decode cX5_day 4 = .ok (.iconst 1, 1) := by decide +kernel
theorem dX5_day_5 : decode cX5_day 5 = .ok (.iadd, 1) := by decide +kernel
theorem dX5_day_6 : decode cX5_day 6 = .ok (.iastore, 1) := by decide +kernel
theorem dX5_day_7 : decode cX5_day 7 = .ok (.iconst 0, 1) := by decide +kernel
theorem dX5_day_8 : decode cX5_day 8 = .ok (.istore_n 2, 1) := by decide +kernel
theorem dX5_day_9 : decode cX5_day 9 = .ok (.iload_n 2, 1) := by decide +kernel
theorem dX5_day_10 : decode cX5_day 10 = .ok (.aload_n 0, 1) := by decide +kernel
theorem dX5_day_11 : decode cX5_day 11 = .ok (.iconst 0, 1) := by decide +kernel
theorem dX5_day_12 : decode cX5_day 12 = .ok (.iaload, 1) := by decide +kernel
theorem dX5_day_13 : decode cX5_day 13 = .ok (.if_icmp .ge 14, 3) := by decide +kernel
theorem dX5_day_16 : decode cX5_day 16 = .ok (.aload_n 0, 1) := by decide +kernel
theorem dX5_day_17 : decode cX5_day 17 = .ok (.iload_n 2, 1) := by decide +kernel
theorem dX5_day_18 : decode cX5_day 18 = .ok (.invokestatic 89, 3) := by decide +kernel
theorem dX5_day_21 : decode cX5_day 21 = .ok (.iinc 2 1, 3) := by decide +kernel
theorem dX5_day_24 : decode cX5_day 24 = .ok (.goto (-15), 3) := by decide +kernel
theorem dX5_day_27 : decode cX5_day 27 = .ok (.bipush 8, 2) := by decide +kernel
theorem dX5_day_29 : decode cX5_day 29 = .ok (.istore_n 2, 1) := by decide +kernel
theorem dX5_day_30 : decode cX5_day 30 = .ok (.iload_n 2, 1) := by decide +kernel
theorem dX5_day_31 : decode cX5_day 31 = .ok (.ifCond .lt 22, 3) := by decide +kernel
theorem dX5_day_34 : decode cX5_day 34 = .ok (.iload_n 1, 1) := by decide +kernel
theorem dX5_day_35 : decode cX5_day 35 = .ok (.ifCond .le 18, 3) := by decide +kernel
theorem dX5_day_38 : decode cX5_day 38 = .ok (.aload_n 0, 1) := by decide +kernel
theorem dX5_day_39 : decode cX5_day 39 = .ok (.iload_n 2, 1) := by decide +kernel
theorem dX5_day_40 : decode cX5_day 40 = .ok (.iload_n 2, 1) := by decide +kernel
theorem dX5_day_41 : decode cX5_day 41 = .ok (.iconst 1, 1) := by decide +kernel
theorem dX5_day_42 : decode cX5_day 42 = .ok (.iadd, 1) := by decide +kernel
theorem dX5_day_43 : decode cX5_day 43 = .ok (.iload_n 1, 1) := by decide +kernel
theorem dX5_day_44 : decode cX5_day 44 = .ok (.invokestatic 92, 3) := by decide +kernel
theorem dX5_day_47 : decode cX5_day 47 = .ok (.iinc 2 (-1), 3) := by decide +kernel
theorem dX5_day_50 : decode cX5_day 50 = .ok (.goto (-20), 3) := by decide +kernel
theorem dX5_day_53 : decode cX5_day 53 = .ok (.iconst 1, 1) := by decide +kernel
theorem dX5_day_54 : decode cX5_day 54 = .ok (.istore_n 2, 1) := by decide +kernel
theorem dX5_day_55 : decode cX5_day 55 = .ok (.iload_n 2, 1) := by decide +kernel
theorem dX5_day_56 : decode cX5_day 56 = .ok (.bipush 10, 2) := by decide +kernel
theorem dX5_day_58 : decode cX5_day 58 = .ok (.if_icmp .ge 23, 3) := by decide +kernel
theorem dX5_day_61 : decode cX5_day 61 = .ok (.iload_n 1, 1) := by decide +kernel
theorem dX5_day_62 : decode cX5_day 62 = .ok (.ifCond .ge 19, 3) := by decide +kernel
theorem dX5_day_65 : decode cX5_day 65 = .ok (.aload_n 0, 1) := by decide +kernel
theorem dX5_day_66 : decode cX5_day 66 = .ok (.iload_n 2, 1) := by decide +kernel
theorem dX5_day_67 : decode cX5_day 67 = .ok (.iload_n 2, 1) := by decide +kernel
theorem dX5_day_68 : decode cX5_day 68 = .ok (.iconst 1, 1) := by decide +kernel
theorem dX5_day_69 : decode cX5_day 69 = .ok (.isub, 1) := by decide +kernel
theorem dX5_day_70 : decode cX5_day 70 = .ok (.iload_n 1, 1) := by decide +kernel
theorem dX5_day_71 : decode cX5_day 71 = .ok (.ineg, 1) := by decide +kernel
theorem dX5_day_72 : decode cX5_day 72 = .ok (.invokestatic 92, 3) := by decide +kernel
theorem dX5_day_75 : decode cX5_day 75 = .ok (.iinc 2 1, 3) := by decide +kernel
theorem dX5_day_78 : decode cX5_day 78 = .ok (.goto (-23), 3) := by decide +kernel
theorem dX5_day_81 : decode cX5_day 81 = .ok (.return_, 1) := by decide +kernel
theorem dX5_daysOn_0 : decode cX5_daysOn 0 = .ok (.iconst 0, 1) := by decide +kernel
theorem dX5_daysOn_1 : decode cX5_daysOn 1 = .ok (.istore_n 2, 1) := by decide +kernel
theorem dX5_daysOn_2 : decode cX5_daysOn 2 = .ok (.iload_n 2, 1) := by decide +kernel
theorem dX5_daysOn_3 : decode cX5_daysOn 3 = .ok (.iload_n 1, 1) := by decide +kernel
theorem dX5_daysOn_4 : decode cX5_daysOn 4 = .ok (.if_icmp .ge 16, 3) := by decide +kernel
theorem dX5_daysOn_7 : decode cX5_daysOn 7 = .ok (.aload_n 0, 1) := by decide +kernel
theorem dX5_daysOn_8 : decode cX5_daysOn 8 = .ok (.aload_n 0, 1) := by decide +kernel
theorem dX5_daysOn_9 : decode cX5_daysOn 9 = .ok (.iconst 2, 1) := by decide +kernel
theorem dX5_daysOn_10 : decode cX5_daysOn 10 = .ok (.iaload, 1) := by decide +kernel
theorem dX5_daysOn_11 : decode cX5_daysOn 11 = .ok (.invokestatic 96, 3) := by decide +kernel
theorem dX5_daysOn_14 : decode cX5_daysOn 14 = .ok (.iinc 2 1, 3) := by decide +kernel
theorem dX5_daysOn_17 : decode cX5_daysOn 17 = .ok (.goto (-15), 3) := by decide +kernel
theorem dX5_daysOn_20 : decode cX5_daysOn 20 = .ok (.return_, 1) := by decide +kernel
theorem dX5_booksOf_0 : decode cX5_booksOf 0 = .ok (.iconst 0, 1) := by decide +kernel
theorem dX5_booksOf_1 : decode cX5_booksOf 1 = .ok (.istore_n 2, 1) := by decide +kernel
theorem dX5_booksOf_2 : decode cX5_booksOf 2 = .ok (.iconst 0, 1) := by decide +kernel
theorem dX5_booksOf_3 : decode cX5_booksOf 3 = .ok (.istore_n 3, 1) := by decide +kernel
theorem dX5_booksOf_4 : decode cX5_booksOf 4 = .ok (.iload_n 3, 1) := by decide +kernel
theorem dX5_booksOf_5 : decode cX5_booksOf 5 = .ok (.aload_n 0, 1) := by decide +kernel
theorem dX5_booksOf_6 : decode cX5_booksOf 6 = .ok (.iconst 0, 1) := by decide +kernel
theorem dX5_booksOf_7 : decode cX5_booksOf 7 = .ok (.iaload, 1) := by decide +kernel
theorem dX5_booksOf_8 : decode cX5_booksOf 8 = .ok (.if_icmp .ge 38, 3) := by decide +kernel
theorem dX5_booksOf_11 : decode cX5_booksOf 11 = .ok (.iload_n 2, 1) := by decide +kernel
theorem dX5_booksOf_12 : decode cX5_booksOf 12 = .ok (.iload_n 1, 1) := by decide +kernel
theorem dX5_booksOf_13 : decode cX5_booksOf 13 = .ok (.ifCond .lt 14, 3) := by decide +kernel
theorem dX5_booksOf_16 : decode cX5_booksOf 16 = .ok (.aload_n 0, 1) := by decide +kernel
theorem dX5_booksOf_17 : decode cX5_booksOf 17 = .ok (.iload_n 3, 1) := by decide +kernel
theorem dX5_booksOf_18 : decode cX5_booksOf 18 = .ok (.iconst 3, 1) := by decide +kernel
theorem dX5_booksOf_19 : decode cX5_booksOf 19 = .ok (.invokestatic 47, 3) := by decide +kernel
theorem dX5_booksOf_22 : decode cX5_booksOf 22 = .ok (.iaload, 1) := by decide +kernel
theorem dX5_booksOf_23 : decode cX5_booksOf 23 = .ok (.iload_n 1, 1) := by decide +kernel
theorem dX5_booksOf_24 : decode cX5_booksOf 24 = .ok (.if_icmp .ne 13, 3) := by decide +kernel
theorem dX5_booksOf_27 : decode cX5_booksOf 27 = .ok (.aload_n 0, 1) := by decide +kernel
theorem dX5_booksOf_28 : decode cX5_booksOf 28 = .ok (.iload_n 3, 1) := by decide +kernel
theorem dX5_booksOf_29 : decode cX5_booksOf 29 = .ok (.iconst 4, 1) := by decide +kernel
theorem dX5_booksOf_30 : decode cX5_booksOf 30 = .ok (.invokestatic 47, 3) := by decide +kernel
theorem dX5_booksOf_33 : decode cX5_booksOf 33 = .ok (.iaload, 1) := by decide +kernel
theorem dX5_booksOf_34 : decode cX5_booksOf 34 = .ok (.goto 4, 3) := by decide +kernel
theorem dX5_booksOf_37 : decode cX5_booksOf 37 = .ok (.iconst 0, 1) := by decide +kernel
theorem dX5_booksOf_38 : decode cX5_booksOf 38 = .ok (.iadd, 1) := by decide +kernel
theorem dX5_booksOf_39 : decode cX5_booksOf 39 = .ok (.istore_n 2, 1) := by decide +kernel
theorem dX5_booksOf_40 : decode cX5_booksOf 40 = .ok (.iinc 3 1, 3) := by decide +kernel
theorem dX5_booksOf_43 : decode cX5_booksOf 43 = .ok (.goto (-39), 3) := by decide +kernel
theorem dX5_booksOf_46 : decode cX5_booksOf 46 = .ok (.iload_n 2, 1) := by decide +kernel
theorem dX5_booksOf_47 : decode cX5_booksOf 47 = .ok (.ireturn, 1) := by decide +kernel
theorem dX5_doneSet_0 : decode cX5_doneSet 0 = .ok (.iconst 0, 1) := by decide +kernel
theorem dX5_doneSet_1 : decode cX5_doneSet 1 = .ok (.istore_n 1, 1) := by decide +kernel
theorem dX5_doneSet_2 : decode cX5_doneSet 2 = .ok (.iconst 0, 1) := by decide +kernel
theorem dX5_doneSet_3 : decode cX5_doneSet 3 = .ok (.istore_n 2, 1) := by decide +kernel
theorem dX5_doneSet_4 : decode cX5_doneSet 4 = .ok (.iload_n 2, 1) := by decide +kernel
theorem dX5_doneSet_5 : decode cX5_doneSet 5 = .ok (.bipush 10, 2) := by decide +kernel
theorem dX5_doneSet_7 : decode cX5_doneSet 7 = .ok (.if_icmp .ge 27, 3) := by decide +kernel
theorem dX5_doneSet_10 : decode cX5_doneSet 10 = .ok (.iload_n 1, 1) := by decide +kernel
theorem dX5_doneSet_11 : decode cX5_doneSet 11 = .ok (.aload_n 0, 1) := by decide +kernel
theorem dX5_doneSet_12 : decode cX5_doneSet 12 = .ok (.iload_n 2, 1) := by decide +kernel
theorem dX5_doneSet_13 : decode cX5_doneSet 13 = .ok (.invokestatic 51, 3) := by decide +kernel
theorem dX5_doneSet_16 : decode cX5_doneSet 16 = .ok (.ifCond .ne 9, 3) := by decide +kernel
theorem dX5_doneSet_19 : decode cX5_doneSet 19 = .ok (.iconst 1, 1) := by decide +kernel
theorem dX5_doneSet_20 : decode cX5_doneSet 20 = .ok (.iload_n 2, 1) := by decide +kernel
theorem dX5_doneSet_21 : decode cX5_doneSet 21 = .ok (.ishl, 1) := by decide +kernel
theorem dX5_doneSet_22 : decode cX5_doneSet 22 = .ok (.goto 4, 3) := by decide +kernel
theorem dX5_doneSet_25 : decode cX5_doneSet 25 = .ok (.iconst 0, 1) := by decide +kernel
theorem dX5_doneSet_26 : decode cX5_doneSet 26 = .ok (.ior, 1) := by decide +kernel
theorem dX5_doneSet_27 : decode cX5_doneSet 27 = .ok (.istore_n 1, 1) := by decide +kernel
theorem dX5_doneSet_28 : decode cX5_doneSet 28 = .ok (.iinc 2 1, 3) := by decide +kernel
theorem dX5_doneSet_31 : decode cX5_doneSet 31 = .ok (.goto (-27), 3) := by decide +kernel
theorem dX5_doneSet_34 : decode cX5_doneSet 34 = .ok (.iload_n 1, 1) := by decide +kernel
theorem dX5_doneSet_35 : decode cX5_doneSet 35 = .ok (.ireturn, 1) := by decide +kernel
theorem dX5_fillsIn_0 : decode cX5_fillsIn 0 = .ok (.aload_n 0, 1) := by decide +kernel
theorem dX5_fillsIn_1 : decode cX5_fillsIn 1 = .ok (.iconst 5, 1) := by decide +kernel
theorem dX5_fillsIn_2 : decode cX5_fillsIn 2 = .ok (.iload_n 1, 1) := by decide +kernel
theorem dX5_fillsIn_3 : decode cX5_fillsIn 3 = .ok (.iadd, 1) := by decide +kernel
theorem dX5_fillsIn_4 : decode cX5_fillsIn 4 = .ok (.iload_n 2, 1) := by decide +kernel
theorem dX5_fillsIn_5 : decode cX5_fillsIn 5 = .ok (.iastore, 1) := by decide +kernel
theorem dX5_fillsIn_6 : decode cX5_fillsIn 6 = .ok (.aload_n 0, 1) := by decide +kernel
theorem dX5_fillsIn_7 : decode cX5_fillsIn 7 = .ok (.bipush 15, 2) := by decide +kernel
theorem dX5_fillsIn_9 : decode cX5_fillsIn 9 = .ok (.iload_n 1, 1) := by decide +kernel
theorem dX5_fillsIn_10 : decode cX5_fillsIn 10 = .ok (.iadd, 1) := by decide +kernel
theorem dX5_fillsIn_11 : decode cX5_fillsIn 11 = .ok (.iconst 0, 1) := by decide +kernel
theorem dX5_fillsIn_12 : decode cX5_fillsIn 12 = .ok (.iastore, 1) := by decide +kernel
theorem dX5_fillsIn_13 : decode cX5_fillsIn 13 = .ok (.return_, 1) := by decide +kernel
theorem dX5_floods_0 : decode cX5_floods 0 = .ok (.iconst 0, 1) := by decide +kernel
theorem dX5_floods_1 : decode cX5_floods 1 = .ok (.istore_n 1, 1) := by decide +kernel
theorem dX5_floods_2 : decode cX5_floods 2 = .ok (.iload_n 1, 1) := by decide +kernel
theorem dX5_floods_3 : decode cX5_floods 3 = .ok (.bipush 10, 2) := by decide +kernel
theorem dX5_floods_5 : decode cX5_floods 5 = .ok (.if_icmp .ge 16, 3) := by decide +kernel
theorem dX5_floods_8 : decode cX5_floods 8 = .ok (.aload_n 0, 1) := by decide +kernel
theorem dX5_floods_9 : decode cX5_floods 9 = .ok (.bipush 15, 2) := by decide +kernel
theorem dX5_floods_11 : decode cX5_floods 11 = .ok (.iload_n 1, 1) := by decide +kernel
theorem dX5_floods_12 : decode cX5_floods 12 = .ok (.iadd, 1) := by decide +kernel
theorem dX5_floods_13 : decode cX5_floods 13 = .ok (.iconst 0, 1) := by decide +kernel
theorem dX5_floods_14 : decode cX5_floods 14 = .ok (.iastore, 1) := by decide +kernel
theorem dX5_floods_15 : decode cX5_floods 15 = .ok (.iinc 1 1, 3) := by decide +kernel
theorem dX5_floods_18 : decode cX5_floods 18 = .ok (.goto (-16), 3) := by decide +kernel
theorem dX5_floods_21 : decode cX5_floods 21 = .ok (.iconst 0, 1) := by decide +kernel
theorem dX5_floods_22 : decode cX5_floods 22 = .ok (.istore_n 1, 1) := by decide +kernel
theorem dX5_floods_23 : decode cX5_floods 23 = .ok (.iload_n 1, 1) := by decide +kernel
theorem dX5_floods_24 : decode cX5_floods 24 = .ok (.aload_n 0, 1) := by decide +kernel
theorem dX5_floods_25 : decode cX5_floods 25 = .ok (.iconst 0, 1) := by decide +kernel
theorem dX5_floods_26 : decode cX5_floods 26 = .ok (.iaload, 1) := by decide +kernel
theorem dX5_floods_27 : decode cX5_floods 27 = .ok (.if_icmp .ge 17, 3) := by decide +kernel
theorem dX5_floods_30 : decode cX5_floods 30 = .ok (.aload_n 0, 1) := by decide +kernel
theorem dX5_floods_31 : decode cX5_floods 31 = .ok (.iload_n 1, 1) := by decide +kernel
theorem dX5_floods_32 : decode cX5_floods 32 = .ok (.iconst 4, 1) := by decide +kernel
theorem dX5_floods_33 : decode cX5_floods 33 = .ok (.invokestatic 47, 3) := by decide +kernel
theorem dX5_floods_36 : decode cX5_floods 36 = .ok (.iconst 0, 1) := by decide +kernel
theorem dX5_floods_37 : decode cX5_floods 37 = .ok (.iastore, 1) := by decide +kernel
theorem dX5_floods_38 : decode cX5_floods 38 = .ok (.iinc 1 1, 3) := by decide +kernel
theorem dX5_floods_41 : decode cX5_floods 41 = .ok (.goto (-18), 3) := by decide +kernel
theorem dX5_floods_44 : decode cX5_floods 44 = .ok (.return_, 1) := by decide +kernel
theorem dX5_here_0 : decode cX5_here 0 = .ok (.aload_n 0, 1) := by decide +kernel
theorem dX5_here_1 : decode cX5_here 1 = .ok (.getfield 99, 3) := by decide +kernel
theorem dX5_here_4 : decode cX5_here 4 = .ok (.aload_n 0, 1) := by decide +kernel
theorem dX5_here_5 : decode cX5_here 5 = .ok (.getfield 103, 3) := by decide +kernel
theorem dX5_here_8 : decode cX5_here 8 = .ok (.if_icmp .ge 24, 3) := by decide +kernel
theorem dX5_here_11 : decode cX5_here 11 = .ok (.aload_n 0, 1) := by decide +kernel
theorem dX5_here_12 : decode cX5_here 12 = .ok (.getfield 40, 3) := by decide +kernel
theorem dX5_here_15 : decode cX5_here 15 = .ok (.aload_n 0, 1) := by decide +kernel
theorem dX5_here_16 : decode cX5_here 16 = .ok (.getfield 106, 3) := by decide +kernel
theorem dX5_here_19 : decode cX5_here 19 = .ok (.aload_n 0, 1) := by decide +kernel
theorem dX5_here_20 : decode cX5_here 20 = .ok (.getfield 99, 3) := by decide +kernel
theorem dX5_here_23 : decode cX5_here 23 = .ok (.iadd, 1) := by decide +kernel
theorem dX5_here_24 : decode cX5_here 24 = .ok (.iaload, 1) := by decide +kernel
theorem dX5_here_25 : decode cX5_here 25 = .ok (.sipush 255, 3) := by decide +kernel
theorem dX5_here_28 : decode cX5_here 28 = .ok (.iand, 1) := by decide +kernel
theorem dX5_here_29 : decode cX5_here 29 = .ok (.goto 4, 3) := by decide +kernel
theorem dX5_here_32 : decode cX5_here 32 = .ok (.iconst (-1), 1) := by decide +kernel
theorem dX5_here_33 : decode cX5_here 33 = .ok (.ireturn, 1) := by decide +kernel
theorem dX5_readsNumber_0 : decode cX5_readsNumber 0 = .ok (.aload_n 0, 1) := by decide +kernel
theorem dX5_readsNumber_1 : decode cX5_readsNumber 1 = .ok (.getfield 22, 3) := by decide +kernel
theorem dX5_readsNumber_4 : decode cX5_readsNumber 4 = .ok (.iload_n 1, 1) := by decide +kernel
theorem dX5_readsNumber_5 : decode cX5_readsNumber 5 = .ok (.iconst 0, 1) := by decide +kernel
theorem dX5_readsNumber_6 : decode cX5_readsNumber 6 = .ok (.iastore, 1) := by decide +kernel
theorem dX5_readsNumber_7 : decode cX5_readsNumber 7 = .ok (.iconst 0, 1) := by decide +kernel
theorem dX5_readsNumber_8 : decode cX5_readsNumber 8 = .ok (.istore_n 3, 1) := by decide +kernel
theorem dX5_readsNumber_9 : decode cX5_readsNumber 9 = .ok (.iload_n 3, 1) := by decide +kernel
theorem dX5_readsNumber_10 : decode cX5_readsNumber 10 = .ok (.iload_n 2, 1) := by decide +kernel
theorem dX5_readsNumber_11 : decode cX5_readsNumber 11 = .ok (.if_icmp .ge 58, 3) := by decide +kernel
theorem dX5_readsNumber_14 : decode cX5_readsNumber 14 = .ok (.aload_n 0, 1) := by decide +kernel
theorem dX5_readsNumber_15 : decode cX5_readsNumber 15 = .ok (.invokevirtual 109, 3) := by decide +kernel
theorem dX5_readsNumber_18 : decode cX5_readsNumber 18 = .ok (.bipush 48, 2) := by decide +kernel
theorem dX5_readsNumber_20 : decode cX5_readsNumber 20 = .ok (.bipush 57, 2) := by decide +kernel
theorem dX5_readsNumber_22 : decode cX5_readsNumber 22 = .ok (.invokestatic 43, 3) := by decide +kernel
theorem dX5_readsNumber_25 : decode cX5_readsNumber 25 = .ok (.ifCond .ne 5, 3) := by decide +kernel
theorem dX5_readsNumber_28 : decode cX5_readsNumber 28 = .ok (.iconst 0, 1) := by decide +kernel
theorem dX5_readsNumber_29 : decode cX5_readsNumber 29 = .ok (.ireturn, 1) := by decide +kernel
theorem dX5_readsNumber_30 : decode cX5_readsNumber 30 = .ok (.aload_n 0, 1) := by decide +kernel
theorem dX5_readsNumber_31 : decode cX5_readsNumber 31 = .ok (.getfield 22, 3) := by decide +kernel
theorem dX5_readsNumber_34 : decode cX5_readsNumber 34 = .ok (.iload_n 1, 1) := by decide +kernel
theorem dX5_readsNumber_35 : decode cX5_readsNumber 35 = .ok (.bipush 10, 2) := by decide +kernel
theorem dX5_readsNumber_37 : decode cX5_readsNumber 37 = .ok (.aload_n 0, 1) := by decide +kernel
theorem dX5_readsNumber_38 : decode cX5_readsNumber 38 = .ok (.getfield 22, 3) := by decide +kernel
theorem dX5_readsNumber_41 : decode cX5_readsNumber 41 = .ok (.iload_n 1, 1) := by decide +kernel
theorem dX5_readsNumber_42 : decode cX5_readsNumber 42 = .ok (.iaload, 1) := by decide +kernel
theorem dX5_readsNumber_43 : decode cX5_readsNumber 43 = .ok (.imul, 1) := by decide +kernel
theorem dX5_readsNumber_44 : decode cX5_readsNumber 44 = .ok (.aload_n 0, 1) := by decide +kernel
theorem dX5_readsNumber_45 : decode cX5_readsNumber 45 = .ok (.invokevirtual 109, 3) := by decide +kernel
theorem dX5_readsNumber_48 : decode cX5_readsNumber 48 = .ok (.iadd, 1) := by decide +kernel
theorem dX5_readsNumber_49 : decode cX5_readsNumber 49 = .ok (.bipush 48, 2) := by decide +kernel
theorem dX5_readsNumber_51 : decode cX5_readsNumber 51 = .ok (.isub, 1) := by decide +kernel
theorem dX5_readsNumber_52 : decode cX5_readsNumber 52 = .ok (.iastore, 1) := by decide +kernel
theorem dX5_readsNumber_53 : decode cX5_readsNumber 53 = .ok (.aload_n 0, 1) := by decide +kernel
theorem dX5_readsNumber_54 : decode cX5_readsNumber 54 = .ok (.dup, 1) := by decide +kernel
theorem dX5_readsNumber_55 : decode cX5_readsNumber 55 = .ok (.getfield 99, 3) := by decide +kernel
theorem dX5_readsNumber_58 : decode cX5_readsNumber 58 = .ok (.iconst 1, 1) := by decide +kernel
theorem dX5_readsNumber_59 : decode cX5_readsNumber 59 = .ok (.iadd, 1) := by decide +kernel
theorem dX5_readsNumber_60 : decode cX5_readsNumber 60 = .ok (.putfield 99, 3) := by decide +kernel
theorem dX5_readsNumber_63 : decode cX5_readsNumber 63 = .ok (.iinc 3 1, 3) := by decide +kernel
theorem dX5_readsNumber_66 : decode cX5_readsNumber 66 = .ok (.goto (-57), 3) := by decide +kernel
theorem dX5_readsNumber_69 : decode cX5_readsNumber 69 = .ok (.iconst 1, 1) := by decide +kernel
theorem dX5_readsNumber_70 : decode cX5_readsNumber 70 = .ok (.ireturn, 1) := by decide +kernel
theorem dX5_readsStatement_0 : decode cX5_readsStatement 0 = .ok (.aload_n 0, 1) := by decide +kernel
theorem dX5_readsStatement_1 : decode cX5_readsStatement 1 = .ok (.invokevirtual 109, 3) := by decide +kernel
theorem dX5_readsStatement_4 : decode cX5_readsStatement 4 = .ok (.istore_n 1, 1) := by decide +kernel
theorem dX5_readsStatement_5 : decode cX5_readsStatement 5 = .ok (.aload_n 0, 1) := by decide +kernel
theorem dX5_readsStatement_6 : decode cX5_readsStatement 6 = .ok (.dup, 1) := by decide +kernel
theorem dX5_readsStatement_7 : decode cX5_readsStatement 7 = .ok (.getfield 99, 3) := by decide +kernel
theorem dX5_readsStatement_10 : decode cX5_readsStatement 10 = .ok (.iconst 1, 1) := by decide +kernel
theorem dX5_readsStatement_11 : decode cX5_readsStatement 11 = .ok (.iadd, 1) := by decide +kernel
theorem dX5_readsStatement_12 : decode cX5_readsStatement 12 = .ok (.putfield 99, 3) := by decide +kernel
theorem dX5_readsStatement_15 : decode cX5_readsStatement 15 = .ok (.iload_n 1, 1) := by decide +kernel
theorem dX5_readsStatement_16 : decode cX5_readsStatement 16 = .ok (.tableswitch 197 99 119 #[100, 182, 172, 192, 145, 197, 197, 197, 197, 197, 197, 197, 197, 197, 197, 172, 197, 197, 197, 197, 172], 100) := by decide +kernel
theorem dX5_readsStatement_116 : decode cX5_readsStatement 116 = .ok (.aload_n 0, 1) := by decide +kernel
theorem dX5_readsStatement_117 : decode cX5_readsStatement 117 = .ok (.iconst 0, 1) := by decide +kernel
theorem dX5_readsStatement_118 : decode cX5_readsStatement 118 = .ok (.iconst 1, 1) := by decide +kernel
theorem dX5_readsStatement_119 : decode cX5_readsStatement 119 = .ok (.invokevirtual 113, 3) := by decide +kernel
theorem dX5_readsStatement_122 : decode cX5_readsStatement 122 = .ok (.ifCond .eq 34, 3) := by decide +kernel
theorem dX5_readsStatement_125 : decode cX5_readsStatement 125 = .ok (.aload_n 0, 1) := by decide +kernel
theorem dX5_readsStatement_126 : decode cX5_readsStatement 126 = .ok (.iconst 1, 1) := by decide +kernel
theorem dX5_readsStatement_127 : decode cX5_readsStatement 127 = .ok (.iconst 1, 1) := by decide +kernel
theorem dX5_readsStatement_128 : decode cX5_readsStatement 128 = .ok (.invokevirtual 113, 3) := by decide +kernel
theorem dX5_readsStatement_131 : decode cX5_readsStatement 131 = .ok (.ifCond .eq 25, 3) := by decide +kernel
theorem dX5_readsStatement_134 : decode cX5_readsStatement 134 = .ok (.aload_n 0, 1) := by decide +kernel
theorem dX5_readsStatement_135 : decode cX5_readsStatement 135 = .ok (.iconst 2, 1) := by decide +kernel
theorem dX5_readsStatement_136 : decode cX5_readsStatement 136 = .ok (.iconst 1, 1) := by decide +kernel
theorem dX5_readsStatement_137 : decode cX5_readsStatement 137 = .ok (.invokevirtual 113, 3) := by decide +kernel
theorem dX5_readsStatement_140 : decode cX5_readsStatement 140 = .ok (.ifCond .eq 16, 3) := by decide +kernel
theorem dX5_readsStatement_143 : decode cX5_readsStatement 143 = .ok (.aload_n 0, 1) := by decide +kernel
theorem dX5_readsStatement_144 : decode cX5_readsStatement 144 = .ok (.iconst 3, 1) := by decide +kernel
theorem dX5_readsStatement_145 : decode cX5_readsStatement 145 = .ok (.iconst 1, 1) := by decide +kernel
theorem dX5_readsStatement_146 : decode cX5_readsStatement 146 = .ok (.invokevirtual 113, 3) := by decide +kernel
theorem dX5_readsStatement_149 : decode cX5_readsStatement 149 = .ok (.ifCond .eq 7, 3) := by decide +kernel
theorem dX5_readsStatement_152 : decode cX5_readsStatement 152 = .ok (.iconst 1, 1) := by decide +kernel
theorem dX5_readsStatement_153 : decode cX5_readsStatement 153 = .ok (.goto 4, 3) := by decide +kernel
theorem dX5_readsStatement_156 : decode cX5_readsStatement 156 = .ok (.iconst 0, 1) := by decide +kernel
theorem dX5_readsStatement_157 : decode cX5_readsStatement 157 = .ok (.istore_n 2, 1) := by decide +kernel
theorem dX5_readsStatement_158 : decode cX5_readsStatement 158 = .ok (.goto 67, 3) := by decide +kernel
theorem dX5_readsStatement_161 : decode cX5_readsStatement 161 = .ok (.aload_n 0, 1) := by decide +kernel
theorem dX5_readsStatement_162 : decode cX5_readsStatement 162 = .ok (.iconst 0, 1) := by decide +kernel
theorem dX5_readsStatement_163 : decode cX5_readsStatement 163 = .ok (.iconst 1, 1) := by decide +kernel
theorem dX5_readsStatement_164 : decode cX5_readsStatement 164 = .ok (.invokevirtual 113, 3) := by decide +kernel
theorem dX5_readsStatement_167 : decode cX5_readsStatement 167 = .ok (.ifCond .eq 16, 3) := by decide +kernel
theorem dX5_readsStatement_170 : decode cX5_readsStatement 170 = .ok (.aload_n 0, 1) := by decide +kernel
theorem dX5_readsStatement_171 : decode cX5_readsStatement 171 = .ok (.iconst 1, 1) := by decide +kernel
theorem dX5_readsStatement_172 : decode cX5_readsStatement 172 = .ok (.iconst 3, 1) := by decide +kernel
theorem dX5_readsStatement_173 : decode cX5_readsStatement 173 = .ok (.invokevirtual 113, 3) := by decide +kernel
theorem dX5_readsStatement_176 : decode cX5_readsStatement 176 = .ok (.ifCond .eq 7, 3) := by decide +kernel
theorem dX5_readsStatement_179 : decode cX5_readsStatement 179 = .ok (.iconst 1, 1) := by decide +kernel
theorem dX5_readsStatement_180 : decode cX5_readsStatement 180 = .ok (.goto 4, 3) := by decide +kernel
theorem dX5_readsStatement_183 : decode cX5_readsStatement 183 = .ok (.iconst 0, 1) := by decide +kernel
theorem dX5_readsStatement_184 : decode cX5_readsStatement 184 = .ok (.istore_n 2, 1) := by decide +kernel
theorem dX5_readsStatement_185 : decode cX5_readsStatement 185 = .ok (.goto 40, 3) := by decide +kernel
theorem dX5_readsStatement_188 : decode cX5_readsStatement 188 = .ok (.aload_n 0, 1) := by decide +kernel
theorem dX5_readsStatement_189 : decode cX5_readsStatement 189 = .ok (.iconst 0, 1) := by decide +kernel
theorem dX5_readsStatement_190 : decode cX5_readsStatement 190 = .ok (.iconst 1, 1) := by decide +kernel
theorem dX5_readsStatement_191 : decode cX5_readsStatement 191 = .ok (.invokevirtual 113, 3) := by decide +kernel
theorem dX5_readsStatement_194 : decode cX5_readsStatement 194 = .ok (.istore_n 2, 1) := by decide +kernel
theorem dX5_readsStatement_195 : decode cX5_readsStatement 195 = .ok (.goto 30, 3) := by decide +kernel
theorem dX5_readsStatement_198 : decode cX5_readsStatement 198 = .ok (.aload_n 0, 1) := by decide +kernel
theorem dX5_readsStatement_199 : decode cX5_readsStatement 199 = .ok (.iconst 0, 1) := by decide +kernel
theorem dX5_readsStatement_200 : decode cX5_readsStatement 200 = .ok (.iconst 2, 1) := by decide +kernel
theorem dX5_readsStatement_201 : decode cX5_readsStatement 201 = .ok (.invokevirtual 113, 3) := by decide +kernel
theorem dX5_readsStatement_204 : decode cX5_readsStatement 204 = .ok (.istore_n 2, 1) := by decide +kernel
theorem dX5_readsStatement_205 : decode cX5_readsStatement 205 = .ok (.goto 20, 3) := by decide +kernel
theorem dX5_readsStatement_208 : decode cX5_readsStatement 208 = .ok (.iconst 1, 1) := by decide +kernel
theorem dX5_readsStatement_209 : decode cX5_readsStatement 209 = .ok (.istore_n 2, 1) := by decide +kernel
theorem dX5_readsStatement_210 : decode cX5_readsStatement 210 = .ok (.goto 15, 3) := by decide +kernel
theorem dX5_readsStatement_213 : decode cX5_readsStatement 213 = .ok (.aload_n 0, 1) := by decide +kernel
theorem dX5_readsStatement_214 : decode cX5_readsStatement 214 = .ok (.dup, 1) := by decide +kernel
theorem dX5_readsStatement_215 : decode cX5_readsStatement 215 = .ok (.getfield 99, 3) := by decide +kernel
theorem dX5_readsStatement_218 : decode cX5_readsStatement 218 = .ok (.iconst 1, 1) := by decide +kernel
theorem dX5_readsStatement_219 : decode cX5_readsStatement 219 = .ok (.isub, 1) := by decide +kernel
theorem dX5_readsStatement_220 : decode cX5_readsStatement 220 = .ok (.putfield 99, 3) := by decide +kernel
theorem dX5_readsStatement_223 : decode cX5_readsStatement 223 = .ok (.iconst 0, 1) := by decide +kernel
theorem dX5_readsStatement_224 : decode cX5_readsStatement 224 = .ok (.ireturn, 1) := by decide +kernel
theorem dX5_readsStatement_225 : decode cX5_readsStatement 225 = .ok (.iload_n 2, 1) := by decide +kernel
theorem dX5_readsStatement_226 : decode cX5_readsStatement 226 = .ok (.ifCond .eq 12, 3) := by decide +kernel
theorem dX5_readsStatement_229 : decode cX5_readsStatement 229 = .ok (.aload_n 0, 1) := by decide +kernel
theorem dX5_readsStatement_230 : decode cX5_readsStatement 230 = .ok (.invokevirtual 109, 3) := by decide +kernel
theorem dX5_readsStatement_233 : decode cX5_readsStatement 233 = .ok (.bipush 59, 2) := by decide +kernel
theorem dX5_readsStatement_235 : decode cX5_readsStatement 235 = .ok (.if_icmp .eq 5, 3) := by decide +kernel
theorem dX5_readsStatement_238 : decode cX5_readsStatement 238 = .ok (.iconst 0, 1) := by decide +kernel
theorem dX5_readsStatement_239 : decode cX5_readsStatement 239 = .ok (.ireturn, 1) := by decide +kernel
theorem dX5_readsStatement_240 : decode cX5_readsStatement 240 = .ok (.aload_n 0, 1) := by decide +kernel
theorem dX5_readsStatement_241 : decode cX5_readsStatement 241 = .ok (.dup, 1) := by decide +kernel
theorem dX5_readsStatement_242 : decode cX5_readsStatement 242 = .ok (.getfield 99, 3) := by decide +kernel
theorem dX5_readsStatement_245 : decode cX5_readsStatement 245 = .ok (.iconst 1, 1) := by decide +kernel
theorem dX5_readsStatement_246 : decode cX5_readsStatement 246 = .ok (.iadd, 1) := by decide +kernel
theorem dX5_readsStatement_247 : decode cX5_readsStatement 247 = .ok (.putfield 99, 3) := by decide +kernel
theorem dX5_readsStatement_250 : decode cX5_readsStatement 250 = .ok (.iconst 1, 1) := by decide +kernel
theorem dX5_readsStatement_251 : decode cX5_readsStatement 251 = .ok (.ireturn, 1) := by decide +kernel
theorem dX5_adds_0 : decode cX5_adds 0 = .ok (.aload_n 0, 1) := by decide +kernel
theorem dX5_adds_1 : decode cX5_adds 1 = .ok (.getfield 9, 3) := by decide +kernel
theorem dX5_adds_4 : decode cX5_adds 4 = .ok (.iconst 0, 1) := by decide +kernel
theorem dX5_adds_5 : decode cX5_adds 5 = .ok (.iaload, 1) := by decide +kernel
theorem dX5_adds_6 : decode cX5_adds 6 = .ok (.istore 5, 2) := by decide +kernel
theorem dX5_adds_8 : decode cX5_adds 8 = .ok (.aload_n 0, 1) := by decide +kernel
theorem dX5_adds_9 : decode cX5_adds 9 = .ok (.getfield 9, 3) := by decide +kernel
theorem dX5_adds_12 : decode cX5_adds 12 = .ok (.iload 5, 2) := by decide +kernel
theorem dX5_adds_14 : decode cX5_adds 14 = .ok (.iconst 0, 1) := by decide +kernel
theorem dX5_adds_15 : decode cX5_adds 15 = .ok (.invokestatic 47, 3) := by decide +kernel
theorem dX5_adds_18 : decode cX5_adds 18 = .ok (.iload_n 1, 1) := by decide +kernel
theorem dX5_adds_19 : decode cX5_adds 19 = .ok (.iastore, 1) := by decide +kernel
theorem dX5_adds_20 : decode cX5_adds 20 = .ok (.aload_n 0, 1) := by decide +kernel
theorem dX5_adds_21 : decode cX5_adds 21 = .ok (.getfield 9, 3) := by decide +kernel
theorem dX5_adds_24 : decode cX5_adds 24 = .ok (.iload 5, 2) := by decide +kernel
theorem dX5_adds_26 : decode cX5_adds 26 = .ok (.iconst 1, 1) := by decide +kernel
theorem dX5_adds_27 : decode cX5_adds 27 = .ok (.invokestatic 47, 3) := by decide +kernel
theorem dX5_adds_30 : decode cX5_adds 30 = .ok (.iload_n 2, 1) := by decide +kernel
theorem dX5_adds_31 : decode cX5_adds 31 = .ok (.iastore, 1) := by decide +kernel
theorem dX5_adds_32 : decode cX5_adds 32 = .ok (.aload_n 0, 1) := by decide +kernel
theorem dX5_adds_33 : decode cX5_adds 33 = .ok (.getfield 9, 3) := by decide +kernel
theorem dX5_adds_36 : decode cX5_adds 36 = .ok (.iload 5, 2) := by decide +kernel
theorem dX5_adds_38 : decode cX5_adds 38 = .ok (.iconst 2, 1) := by decide +kernel
theorem dX5_adds_39 : decode cX5_adds 39 = .ok (.invokestatic 47, 3) := by decide +kernel
theorem dX5_adds_42 : decode cX5_adds 42 = .ok (.iload_n 3, 1) := by decide +kernel
theorem dX5_adds_43 : decode cX5_adds 43 = .ok (.iastore, 1) := by decide +kernel
theorem dX5_adds_44 : decode cX5_adds 44 = .ok (.aload_n 0, 1) := by decide +kernel
theorem dX5_adds_45 : decode cX5_adds 45 = .ok (.getfield 9, 3) := by decide +kernel
theorem dX5_adds_48 : decode cX5_adds 48 = .ok (.iload 5, 2) := by decide +kernel
theorem dX5_adds_50 : decode cX5_adds 50 = .ok (.iconst 3, 1) := by decide +kernel
theorem dX5_adds_51 : decode cX5_adds 51 = .ok (.invokestatic 47, 3) := by decide +kernel
theorem dX5_adds_54 : decode cX5_adds 54 = .ok (.iload 4, 2) := by decide +kernel
theorem dX5_adds_56 : decode cX5_adds 56 = .ok (.iastore, 1) := by decide +kernel
theorem dX5_adds_57 : decode cX5_adds 57 = .ok (.aload_n 0, 1) := by decide +kernel
theorem dX5_adds_58 : decode cX5_adds 58 = .ok (.getfield 9, 3) := by decide +kernel
theorem dX5_adds_61 : decode cX5_adds 61 = .ok (.iload 5, 2) := by decide +kernel
theorem dX5_adds_63 : decode cX5_adds 63 = .ok (.iconst 4, 1) := by decide +kernel
theorem dX5_adds_64 : decode cX5_adds 64 = .ok (.invokestatic 47, 3) := by decide +kernel
theorem dX5_adds_67 : decode cX5_adds 67 = .ok (.iconst 0, 1) := by decide +kernel
theorem dX5_adds_68 : decode cX5_adds 68 = .ok (.iastore, 1) := by decide +kernel
theorem dX5_adds_69 : decode cX5_adds 69 = .ok (.aload_n 0, 1) := by decide +kernel
theorem dX5_adds_70 : decode cX5_adds 70 = .ok (.getfield 9, 3) := by decide +kernel
theorem dX5_adds_73 : decode cX5_adds 73 = .ok (.iload 5, 2) := by decide +kernel
theorem dX5_adds_75 : decode cX5_adds 75 = .ok (.iconst 5, 1) := by decide +kernel
theorem dX5_adds_76 : decode cX5_adds 76 = .ok (.invokestatic 47, 3) := by decide +kernel
theorem dX5_adds_79 : decode cX5_adds 79 = .ok (.iconst 0, 1) := by decide +kernel
theorem dX5_adds_80 : decode cX5_adds 80 = .ok (.iastore, 1) := by decide +kernel
theorem dX5_adds_81 : decode cX5_adds 81 = .ok (.aload_n 0, 1) := by decide +kernel
theorem dX5_adds_82 : decode cX5_adds 82 = .ok (.getfield 9, 3) := by decide +kernel
theorem dX5_adds_85 : decode cX5_adds 85 = .ok (.iconst 0, 1) := by decide +kernel
theorem dX5_adds_86 : decode cX5_adds 86 = .ok (.dup2, 1) := by decide +kernel
theorem dX5_adds_87 : decode cX5_adds 87 = .ok (.iaload, 1) := by decide +kernel
theorem dX5_adds_88 : decode cX5_adds 88 = .ok (.iconst 1, 1) := by decide +kernel
theorem dX5_adds_89 : decode cX5_adds 89 = .ok (.iadd, 1) := by decide +kernel
theorem dX5_adds_90 : decode cX5_adds 90 = .ok (.iastore, 1) := by decide +kernel
theorem dX5_adds_91 : decode cX5_adds 91 = .ok (.return_, 1) := by decide +kernel
theorem dX5_isDone_0 : decode cX5_isDone 0 = .ok (.aload_n 0, 1) := by decide +kernel
theorem dX5_isDone_1 : decode cX5_isDone 1 = .ok (.getfield 22, 3) := by decide +kernel
theorem dX5_isDone_4 : decode cX5_isDone 4 = .ok (.iconst 0, 1) := by decide +kernel
theorem dX5_isDone_5 : decode cX5_isDone 5 = .ok (.iaload, 1) := by decide +kernel
theorem dX5_isDone_6 : decode cX5_isDone 6 = .ok (.istore_n 2, 1) := by decide +kernel
theorem dX5_isDone_7 : decode cX5_isDone 7 = .ok (.aload_n 0, 1) := by decide +kernel
theorem dX5_isDone_8 : decode cX5_isDone 8 = .ok (.getfield 22, 3) := by decide +kernel
theorem dX5_isDone_11 : decode cX5_isDone 11 = .ok (.iconst 1, 1) := by decide +kernel
theorem dX5_isDone_12 : decode cX5_isDone 12 = .ok (.iaload, 1) := by decide +kernel
theorem dX5_isDone_13 : decode cX5_isDone 13 = .ok (.istore_n 3, 1) := by decide +kernel
theorem dX5_isDone_14 : decode cX5_isDone 14 = .ok (.iload_n 1, 1) := by decide +kernel
theorem dX5_isDone_15 : decode cX5_isDone 15 = .ok (.lookupswitch 171 #[(99, 57), (101, 126), (102, 162), (103, 106), (114, 136), (119, 117)], 57) := by decide +kernel
theorem dX5_isDone_72 : decode cX5_isDone 72 = .ok (.iload_n 2, 1) := by decide +kernel
theorem dX5_isDone_73 : decode cX5_isDone 73 = .ok (.bipush 8, 2) := by decide +kernel
theorem dX5_isDone_75 : decode cX5_isDone 75 = .ok (.if_icmp .ge 24, 3) := by decide +kernel
theorem dX5_isDone_78 : decode cX5_isDone 78 = .ok (.aload_n 0, 1) := by decide +kernel
theorem dX5_isDone_79 : decode cX5_isDone 79 = .ok (.getfield 22, 3) := by decide +kernel
theorem dX5_isDone_82 : decode cX5_isDone 82 = .ok (.iconst 3, 1) := by decide +kernel
theorem dX5_isDone_83 : decode cX5_isDone 83 = .ok (.iaload, 1) := by decide +kernel
theorem dX5_isDone_84 : decode cX5_isDone 84 = .ok (.iconst 1, 1) := by decide +kernel
theorem dX5_isDone_85 : decode cX5_isDone 85 = .ok (.if_icmp .gt 14, 3) := by decide +kernel
theorem dX5_isDone_88 : decode cX5_isDone 88 = .ok (.aload_n 0, 1) := by decide +kernel
theorem dX5_isDone_89 : decode cX5_isDone 89 = .ok (.getfield 9, 3) := by decide +kernel
theorem dX5_isDone_92 : decode cX5_isDone 92 = .ok (.iconst 0, 1) := by decide +kernel
theorem dX5_isDone_93 : decode cX5_isDone 93 = .ok (.iaload, 1) := by decide +kernel
theorem dX5_isDone_94 : decode cX5_isDone 94 = .ok (.bipush 6, 2) := by decide +kernel
theorem dX5_isDone_96 : decode cX5_isDone 96 = .ok (.if_icmp .ne 5, 3) := by decide +kernel
theorem dX5_isDone_99 : decode cX5_isDone 99 = .ok (.iconst 0, 1) := by decide +kernel
theorem dX5_isDone_100 : decode cX5_isDone 100 = .ok (.ireturn, 1) := by decide +kernel
theorem dX5_isDone_101 : decode cX5_isDone 101 = .ok (.aload_n 0, 1) := by decide +kernel
theorem dX5_isDone_102 : decode cX5_isDone 102 = .ok (.iload_n 2, 1) := by decide +kernel
theorem dX5_isDone_103 : decode cX5_isDone 103 = .ok (.iload_n 3, 1) := by decide +kernel
theorem dX5_isDone_104 : decode cX5_isDone 104 = .ok (.aload_n 0, 1) := by decide +kernel
theorem dX5_isDone_105 : decode cX5_isDone 105 = .ok (.getfield 22, 3) := by decide +kernel
theorem dX5_isDone_108 : decode cX5_isDone 108 = .ok (.iconst 2, 1) := by decide +kernel
theorem dX5_isDone_109 : decode cX5_isDone 109 = .ok (.iaload, 1) := by decide +kernel
theorem dX5_isDone_110 : decode cX5_isDone 110 = .ok (.aload_n 0, 1) := by decide +kernel
theorem dX5_isDone_111 : decode cX5_isDone 111 = .ok (.getfield 22, 3) := by decide +kernel
theorem dX5_isDone_114 : decode cX5_isDone 114 = .ok (.iconst 3, 1) := by decide +kernel
theorem dX5_isDone_115 : decode cX5_isDone 115 = .ok (.iaload, 1) := by decide +kernel
theorem dX5_isDone_116 : decode cX5_isDone 116 = .ok (.invokevirtual 116, 3) := by decide +kernel
theorem dX5_isDone_119 : decode cX5_isDone 119 = .ok (.iconst 1, 1) := by decide +kernel
theorem dX5_isDone_120 : decode cX5_isDone 120 = .ok (.ireturn, 1) := by decide +kernel
theorem dX5_isDone_121 : decode cX5_isDone 121 = .ok (.aload_n 0, 1) := by decide +kernel
theorem dX5_isDone_122 : decode cX5_isDone 122 = .ok (.getfield 9, 3) := by decide +kernel
theorem dX5_isDone_125 : decode cX5_isDone 125 = .ok (.iload_n 2, 1) := by decide +kernel
theorem dX5_isDone_126 : decode cX5_isDone 126 = .ok (.iload_n 3, 1) := by decide +kernel
theorem dX5_isDone_127 : decode cX5_isDone 127 = .ok (.invokestatic 120, 3) := by decide +kernel
theorem dX5_isDone_130 : decode cX5_isDone 130 = .ok (.iconst 1, 1) := by decide +kernel
theorem dX5_isDone_131 : decode cX5_isDone 131 = .ok (.ireturn, 1) := by decide +kernel
theorem dX5_isDone_132 : decode cX5_isDone 132 = .ok (.aload_n 0, 1) := by decide +kernel
theorem dX5_isDone_133 : decode cX5_isDone 133 = .ok (.getfield 9, 3) := by decide +kernel
theorem dX5_isDone_136 : decode cX5_isDone 136 = .ok (.iconst 2, 1) := by decide +kernel
theorem dX5_isDone_137 : decode cX5_isDone 137 = .ok (.iload_n 2, 1) := by decide +kernel
theorem dX5_isDone_138 : decode cX5_isDone 138 = .ok (.iastore, 1) := by decide +kernel
theorem dX5_isDone_139 : decode cX5_isDone 139 = .ok (.iconst 1, 1) := by decide +kernel
theorem dX5_isDone_140 : decode cX5_isDone 140 = .ok (.ireturn, 1) := by decide +kernel
theorem dX5_isDone_141 : decode cX5_isDone 141 = .ok (.aload_n 0, 1) := by decide +kernel
theorem dX5_isDone_142 : decode cX5_isDone 142 = .ok (.getfield 9, 3) := by decide +kernel
theorem dX5_isDone_145 : decode cX5_isDone 145 = .ok (.iconst 2, 1) := by decide +kernel
theorem dX5_isDone_146 : decode cX5_isDone 146 = .ok (.iload_n 2, 1) := by decide +kernel
theorem dX5_isDone_147 : decode cX5_isDone 147 = .ok (.ineg, 1) := by decide +kernel
theorem dX5_isDone_148 : decode cX5_isDone 148 = .ok (.iastore, 1) := by decide +kernel
theorem dX5_isDone_149 : decode cX5_isDone 149 = .ok (.iconst 1, 1) := by decide +kernel
theorem dX5_isDone_150 : decode cX5_isDone 150 = .ok (.ireturn, 1) := by decide +kernel
theorem dX5_isDone_151 : decode cX5_isDone 151 = .ok (.aload_n 0, 1) := by decide +kernel
theorem dX5_isDone_152 : decode cX5_isDone 152 = .ok (.iload_n 2, 1) := by decide +kernel
theorem dX5_isDone_153 : decode cX5_isDone 153 = .ok (.invokevirtual 123, 3) := by decide +kernel
theorem dX5_isDone_156 : decode cX5_isDone 156 = .ok (.ifCond .ne 5, 3) := by decide +kernel
theorem dX5_isDone_159 : decode cX5_isDone 159 = .ok (.iconst 0, 1) := by decide +kernel
theorem dX5_isDone_160 : decode cX5_isDone 160 = .ok (.ireturn, 1) := by decide +kernel
theorem dX5_isDone_161 : decode cX5_isDone 161 = .ok (.aload_n 0, 1) := by decide +kernel
theorem dX5_isDone_162 : decode cX5_isDone 162 = .ok (.getfield 9, 3) := by decide +kernel
theorem dX5_isDone_165 : decode cX5_isDone 165 = .ok (.iload_n 2, 1) := by decide +kernel
theorem dX5_isDone_166 : decode cX5_isDone 166 = .ok (.iconst 5, 1) := by decide +kernel
theorem dX5_isDone_167 : decode cX5_isDone 167 = .ok (.invokestatic 47, 3) := by decide +kernel
theorem dX5_isDone_170 : decode cX5_isDone 170 = .ok (.dup2, 1) := by decide +kernel
theorem dX5_isDone_171 : decode cX5_isDone 171 = .ok (.iaload, 1) := by decide +kernel
theorem dX5_isDone_172 : decode cX5_isDone 172 = .ok (.iconst 1, 1) := by decide +kernel
theorem dX5_isDone_173 : decode cX5_isDone 173 = .ok (.ixor, 1) := by decide +kernel
theorem dX5_isDone_174 : decode cX5_isDone 174 = .ok (.iastore, 1) := by decide +kernel
theorem dX5_isDone_175 : decode cX5_isDone 175 = .ok (.iconst 1, 1) := by decide +kernel
theorem dX5_isDone_176 : decode cX5_isDone 176 = .ok (.ireturn, 1) := by decide +kernel
theorem dX5_isDone_177 : decode cX5_isDone 177 = .ok (.aload_n 0, 1) := by decide +kernel
theorem dX5_isDone_178 : decode cX5_isDone 178 = .ok (.getfield 9, 3) := by decide +kernel
theorem dX5_isDone_181 : decode cX5_isDone 181 = .ok (.invokestatic 126, 3) := by decide +kernel
theorem dX5_isDone_184 : decode cX5_isDone 184 = .ok (.iconst 1, 1) := by decide +kernel
theorem dX5_isDone_185 : decode cX5_isDone 185 = .ok (.ireturn, 1) := by decide +kernel
theorem dX5_isDone_186 : decode cX5_isDone 186 = .ok (.iload_n 2, 1) := by decide +kernel
theorem dX5_isDone_187 : decode cX5_isDone 187 = .ok (.iconst 1, 1) := by decide +kernel
theorem dX5_isDone_188 : decode cX5_isDone 188 = .ok (.bipush 60, 2) := by decide +kernel
theorem dX5_isDone_190 : decode cX5_isDone 190 = .ok (.invokestatic 43, 3) := by decide +kernel
theorem dX5_isDone_193 : decode cX5_isDone 193 = .ok (.ifCond .eq 17, 3) := by decide +kernel
theorem dX5_isDone_196 : decode cX5_isDone 196 = .ok (.aload_n 0, 1) := by decide +kernel
theorem dX5_isDone_197 : decode cX5_isDone 197 = .ok (.getfield 9, 3) := by decide +kernel
theorem dX5_isDone_200 : decode cX5_isDone 200 = .ok (.iconst 1, 1) := by decide +kernel
theorem dX5_isDone_201 : decode cX5_isDone 201 = .ok (.iaload, 1) := by decide +kernel
theorem dX5_isDone_202 : decode cX5_isDone 202 = .ok (.iload_n 2, 1) := by decide +kernel
theorem dX5_isDone_203 : decode cX5_isDone 203 = .ok (.iadd, 1) := by decide +kernel
theorem dX5_isDone_204 : decode cX5_isDone 204 = .ok (.sipush 999, 3) := by decide +kernel
theorem dX5_isDone_207 : decode cX5_isDone 207 = .ok (.if_icmp .le 5, 3) := by decide +kernel
theorem dX5_isDone_210 : decode cX5_isDone 210 = .ok (.iconst 0, 1) := by decide +kernel
theorem dX5_isDone_211 : decode cX5_isDone 211 = .ok (.ireturn, 1) := by decide +kernel
theorem dX5_isDone_212 : decode cX5_isDone 212 = .ok (.aload_n 0, 1) := by decide +kernel
theorem dX5_isDone_213 : decode cX5_isDone 213 = .ok (.getfield 9, 3) := by decide +kernel
theorem dX5_isDone_216 : decode cX5_isDone 216 = .ok (.iload_n 2, 1) := by decide +kernel
theorem dX5_isDone_217 : decode cX5_isDone 217 = .ok (.invokestatic 130, 3) := by decide +kernel
theorem dX5_isDone_220 : decode cX5_isDone 220 = .ok (.iconst 1, 1) := by decide +kernel
theorem dX5_isDone_221 : decode cX5_isDone 221 = .ok (.ireturn, 1) := by decide +kernel
theorem dX5_desert_0 : decode cX5_desert 0 = .ok (.aload_n 0, 1) := by decide +kernel
theorem dX5_desert_1 : decode cX5_desert 1 = .ok (.iload_n 1, 1) := by decide +kernel
theorem dX5_desert_2 : decode cX5_desert 2 = .ok (.iconst 0, 1) := by decide +kernel
theorem dX5_desert_3 : decode cX5_desert 3 = .ok (.invokevirtual 133, 3) := by decide +kernel
theorem dX5_desert_6 : decode cX5_desert 6 = .ok (.istore_n 2, 1) := by decide +kernel
theorem dX5_desert_7 : decode cX5_desert 7 = .ok (.iload_n 2, 1) := by decide +kernel
theorem dX5_desert_8 : decode cX5_desert 8 = .ok (.ifCond .eq 5, 3) := by decide +kernel
theorem dX5_desert_11 : decode cX5_desert 11 = .ok (.iload_n 2, 1) := by decide +kernel
theorem dX5_desert_12 : decode cX5_desert 12 = .ok (.ireturn, 1) := by decide +kernel
theorem dX5_desert_13 : decode cX5_desert 13 = .ok (.aload_n 0, 1) := by decide +kernel
theorem dX5_desert_14 : decode cX5_desert 14 = .ok (.bipush 100, 2) := by decide +kernel
theorem dX5_desert_16 : decode cX5_desert 16 = .ok (.iload_n 1, 1) := by decide +kernel
theorem dX5_desert_17 : decode cX5_desert 17 = .ok (.imul, 1) := by decide +kernel
theorem dX5_desert_18 : decode cX5_desert 18 = .ok (.putfield 106, 3) := by decide +kernel
theorem dX5_desert_21 : decode cX5_desert 21 = .ok (.aload_n 0, 1) := by decide +kernel
theorem dX5_desert_22 : decode cX5_desert 22 = .ok (.aload_n 0, 1) := by decide +kernel
theorem dX5_desert_23 : decode cX5_desert 23 = .ok (.getfield 37, 3) := by decide +kernel
theorem dX5_desert_26 : decode cX5_desert 26 = .ok (.iload_n 1, 1) := by decide +kernel
theorem dX5_desert_27 : decode cX5_desert 27 = .ok (.iaload, 1) := by decide +kernel
theorem dX5_desert_28 : decode cX5_desert 28 = .ok (.putfield 103, 3) := by decide +kernel
theorem dX5_desert_31 : decode cX5_desert 31 = .ok (.aload_n 0, 1) := by decide +kernel
theorem dX5_desert_32 : decode cX5_desert 32 = .ok (.iconst 0, 1) := by decide +kernel
theorem dX5_desert_33 : decode cX5_desert 33 = .ok (.putfield 99, 3) := by decide +kernel
theorem dX5_desert_36 : decode cX5_desert 36 = .ok (.iconst 0, 1) := by decide +kernel
theorem dX5_desert_37 : decode cX5_desert 37 = .ok (.istore_n 3, 1) := by decide +kernel
theorem dX5_desert_38 : decode cX5_desert 38 = .ok (.iconst 0, 1) := by decide +kernel
theorem dX5_desert_39 : decode cX5_desert 39 = .ok (.istore 4, 2) := by decide +kernel
theorem dX5_desert_41 : decode cX5_desert 41 = .ok (.aload_n 0, 1) := by decide +kernel
theorem dX5_desert_42 : decode cX5_desert 42 = .ok (.invokevirtual 136, 3) := by decide +kernel
theorem dX5_desert_45 : decode cX5_desert 45 = .ok (.ifCond .ne 13, 3) := by decide +kernel
theorem dX5_desert_48 : decode cX5_desert 48 = .ok (.sipush (-1000), 3) := by decide +kernel
theorem dX5_desert_51 : decode cX5_desert 51 = .ok (.aload_n 0, 1) := by decide +kernel
theorem dX5_desert_52 : decode cX5_desert 52 = .ok (.getfield 99, 3) := by decide +kernel
theorem dX5_desert_55 : decode cX5_desert 55 = .ok (.isub, 1) := by decide +kernel
theorem dX5_desert_56 : decode cX5_desert 56 = .ok (.istore 4, 2) := by decide +kernel
theorem dX5_desert_58 : decode cX5_desert 58 = .ok (.iinc 3 1, 3) := by decide +kernel
theorem dX5_desert_61 : decode cX5_desert 61 = .ok (.iload 4, 2) := by decide +kernel
theorem dX5_desert_63 : decode cX5_desert 63 = .ok (.ifCond .ne 14, 3) := by decide +kernel
theorem dX5_desert_66 : decode cX5_desert 66 = .ok (.aload_n 0, 1) := by decide +kernel
theorem dX5_desert_67 : decode cX5_desert 67 = .ok (.getfield 99, 3) := by decide +kernel
theorem dX5_desert_70 : decode cX5_desert 70 = .ok (.aload_n 0, 1) := by decide +kernel
theorem dX5_desert_71 : decode cX5_desert 71 = .ok (.getfield 103, 3) := by decide +kernel
theorem dX5_desert_74 : decode cX5_desert 74 = .ok (.if_icmp .lt (-33), 3) := by decide +kernel
theorem dX5_desert_77 : decode cX5_desert 77 = .ok (.aload_n 0, 1) := by decide +kernel
theorem dX5_desert_78 : decode cX5_desert 78 = .ok (.getfield 9, 3) := by decide +kernel
theorem dX5_desert_81 : decode cX5_desert 81 = .ok (.aload_n 0, 1) := by decide +kernel
theorem dX5_desert_82 : decode cX5_desert 82 = .ok (.getfield 19, 3) := by decide +kernel
theorem dX5_desert_85 : decode cX5_desert 85 = .ok (.invokestatic 140, 3) := by decide +kernel
theorem dX5_desert_88 : decode cX5_desert 88 = .ok (.aload_n 0, 1) := by decide +kernel
theorem dX5_desert_89 : decode cX5_desert 89 = .ok (.iconst 0, 1) := by decide +kernel
theorem dX5_desert_90 : decode cX5_desert 90 = .ok (.putfield 99, 3) := by decide +kernel
theorem dX5_desert_93 : decode cX5_desert 93 = .ok (.iload 4, 2) := by decide +kernel
theorem dX5_desert_95 : decode cX5_desert 95 = .ok (.ifCond .ne 66, 3) := by decide +kernel
theorem dX5_desert_98 : decode cX5_desert 98 = .ok (.aload_n 0, 1) := by decide +kernel
theorem dX5_desert_99 : decode cX5_desert 99 = .ok (.getfield 99, 3) := by decide +kernel
theorem dX5_desert_102 : decode cX5_desert 102 = .ok (.aload_n 0, 1) := by decide +kernel
theorem dX5_desert_103 : decode cX5_desert 103 = .ok (.getfield 103, 3) := by decide +kernel
theorem dX5_desert_106 : decode cX5_desert 106 = .ok (.if_icmp .ge 55, 3) := by decide +kernel
theorem dX5_desert_109 : decode cX5_desert 109 = .ok (.aload_n 0, 1) := by decide +kernel
theorem dX5_desert_110 : decode cX5_desert 110 = .ok (.getfield 99, 3) := by decide +kernel
theorem dX5_desert_113 : decode cX5_desert 113 = .ok (.istore 5, 2) := by decide +kernel
theorem dX5_desert_115 : decode cX5_desert 115 = .ok (.aload_n 0, 1) := by decide +kernel
theorem dX5_desert_116 : decode cX5_desert 116 = .ok (.invokevirtual 109, 3) := by decide +kernel
theorem dX5_desert_119 : decode cX5_desert 119 = .ok (.istore 6, 2) := by decide +kernel
theorem dX5_desert_121 : decode cX5_desert 121 = .ok (.aload_n 0, 1) := by decide +kernel
theorem dX5_desert_122 : decode cX5_desert 122 = .ok (.invokevirtual 136, 3) := by decide +kernel
theorem dX5_desert_125 : decode cX5_desert 125 = .ok (.istore 7, 2) := by decide +kernel
theorem dX5_desert_127 : decode cX5_desert 127 = .ok (.aload_n 0, 1) := by decide +kernel
theorem dX5_desert_128 : decode cX5_desert 128 = .ok (.iload 6, 2) := by decide +kernel
theorem dX5_desert_130 : decode cX5_desert 130 = .ok (.invokevirtual 144, 3) := by decide +kernel
theorem dX5_desert_133 : decode cX5_desert 133 = .ok (.ifCond .eq 6, 3) := by decide +kernel
theorem dX5_desert_136 : decode cX5_desert 136 = .ok (.goto (-43), 3) := by decide +kernel
theorem dX5_desert_139 : decode cX5_desert 139 = .ok (.sipush (-2000), 3) := by decide +kernel
theorem dX5_desert_142 : decode cX5_desert 142 = .ok (.iload 5, 2) := by decide +kernel
theorem dX5_desert_144 : decode cX5_desert 144 = .ok (.isub, 1) := by decide +kernel
theorem dX5_desert_145 : decode cX5_desert 145 = .ok (.istore 4, 2) := by decide +kernel
theorem dX5_desert_147 : decode cX5_desert 147 = .ok (.aload_n 0, 1) := by decide +kernel
theorem dX5_desert_148 : decode cX5_desert 148 = .ok (.getfield 19, 3) := by decide +kernel
theorem dX5_desert_151 : decode cX5_desert 151 = .ok (.aload_n 0, 1) := by decide +kernel
theorem dX5_desert_152 : decode cX5_desert 152 = .ok (.getfield 9, 3) := by decide +kernel
theorem dX5_desert_155 : decode cX5_desert 155 = .ok (.invokestatic 140, 3) := by decide +kernel
theorem dX5_desert_158 : decode cX5_desert 158 = .ok (.goto (-65), 3) := by decide +kernel
theorem dX5_desert_161 : decode cX5_desert 161 = .ok (.iload 4, 2) := by decide +kernel
theorem dX5_desert_163 : decode cX5_desert 163 = .ok (.ifCond .ne 7, 3) := by decide +kernel
theorem dX5_desert_166 : decode cX5_desert 166 = .ok (.iload_n 3, 1) := by decide +kernel
theorem dX5_desert_167 : decode cX5_desert 167 = .ok (.goto 5, 3) := by decide +kernel
theorem dX5_desert_170 : decode cX5_desert 170 = .ok (.iload 4, 2) := by decide +kernel
theorem dX5_desert_172 : decode cX5_desert 172 = .ok (.ireturn, 1) := by decide +kernel
theorem dX5_corporal_0 : decode cX5_corporal 0 = .ok (.aload_n 0, 1) := by decide +kernel
theorem dX5_corporal_1 : decode cX5_corporal 1 = .ok (.iload_n 1, 1) := by decide +kernel
theorem dX5_corporal_2 : decode cX5_corporal 2 = .ok (.invokevirtual 123, 3) := by decide +kernel
theorem dX5_corporal_5 : decode cX5_corporal 5 = .ok (.ifCond .eq 13, 3) := by decide +kernel
theorem dX5_corporal_8 : decode cX5_corporal 8 = .ok (.iload_n 2, 1) := by decide +kernel
theorem dX5_corporal_9 : decode cX5_corporal 9 = .ok (.iconst 0, 1) := by decide +kernel
theorem dX5_corporal_10 : decode cX5_corporal 10 = .ok (.bipush 6, 2) := by decide +kernel
theorem dX5_corporal_12 : decode cX5_corporal 12 = .ok (.invokestatic 43, 3) := by decide +kernel
theorem dX5_corporal_15 : decode cX5_corporal 15 = .ok (.ifCond .ne 5, 3) := by decide +kernel
theorem dX5_corporal_18 : decode cX5_corporal 18 = .ok (.iconst (-1), 1) := by decide +kernel
theorem dX5_corporal_19 : decode cX5_corporal 19 = .ok (.ireturn, 1) := by decide +kernel
theorem dX5_corporal_20 : decode cX5_corporal 20 = .ok (.iload_n 2, 1) := by decide +kernel
theorem dX5_corporal_21 : decode cX5_corporal 21 = .ok (.bipush 6, 2) := by decide +kernel
theorem dX5_corporal_23 : decode cX5_corporal 23 = .ok (.if_icmp .ne 22, 3) := by decide +kernel
theorem dX5_corporal_26 : decode cX5_corporal 26 = .ok (.aload_n 0, 1) := by decide +kernel
theorem dX5_corporal_27 : decode cX5_corporal 27 = .ok (.getfield 9, 3) := by decide +kernel
theorem dX5_corporal_30 : decode cX5_corporal 30 = .ok (.iload_n 1, 1) := by decide +kernel
theorem dX5_corporal_31 : decode cX5_corporal 31 = .ok (.aload_n 0, 1) := by decide +kernel
theorem dX5_corporal_32 : decode cX5_corporal 32 = .ok (.getfield 9, 3) := by decide +kernel
theorem dX5_corporal_35 : decode cX5_corporal 35 = .ok (.iconst 1, 1) := by decide +kernel
theorem dX5_corporal_36 : decode cX5_corporal 36 = .ok (.iaload, 1) := by decide +kernel
theorem dX5_corporal_37 : decode cX5_corporal 37 = .ok (.iconst 1, 1) := by decide +kernel
theorem dX5_corporal_38 : decode cX5_corporal 38 = .ok (.iadd, 1) := by decide +kernel
theorem dX5_corporal_39 : decode cX5_corporal 39 = .ok (.invokestatic 77, 3) := by decide +kernel
theorem dX5_corporal_42 : decode cX5_corporal 42 = .ok (.goto 13, 3) := by decide +kernel
theorem dX5_corporal_45 : decode cX5_corporal 45 = .ok (.aload_n 0, 1) := by decide +kernel
theorem dX5_corporal_46 : decode cX5_corporal 46 = .ok (.getfield 9, 3) := by decide +kernel
theorem dX5_corporal_49 : decode cX5_corporal 49 = .ok (.iload_n 1, 1) := by decide +kernel
theorem dX5_corporal_50 : decode cX5_corporal 50 = .ok (.iload_n 2, 1) := by decide +kernel
theorem dX5_corporal_51 : decode cX5_corporal 51 = .ok (.invokestatic 47, 3) := by decide +kernel
theorem dX5_corporal_54 : decode cX5_corporal 54 = .ok (.iaload, 1) := by decide +kernel
theorem dX5_corporal_55 : decode cX5_corporal 55 = .ok (.ireturn, 1) := by decide +kernel
theorem dX5_dip_0 : decode cX5_dip 0 = .ok (.iload_n 1, 1) := by decide +kernel
theorem dX5_dip_1 : decode cX5_dip 1 = .ok (.invokestatic 61, 3) := by decide +kernel
theorem dX5_dip_4 : decode cX5_dip 4 = .ok (.ifCond .eq 12, 3) := by decide +kernel
theorem dX5_dip_7 : decode cX5_dip 7 = .ok (.iload_n 2, 1) := by decide +kernel
theorem dX5_dip_8 : decode cX5_dip 8 = .ok (.iconst 0, 1) := by decide +kernel
theorem dX5_dip_9 : decode cX5_dip 9 = .ok (.iconst 2, 1) := by decide +kernel
theorem dX5_dip_10 : decode cX5_dip 10 = .ok (.invokestatic 43, 3) := by decide +kernel
theorem dX5_dip_13 : decode cX5_dip 13 = .ok (.ifCond .ne 5, 3) := by decide +kernel
theorem dX5_dip_16 : decode cX5_dip 16 = .ok (.iconst (-1), 1) := by decide +kernel
theorem dX5_dip_17 : decode cX5_dip 17 = .ok (.ireturn, 1) := by decide +kernel
theorem dX5_dip_18 : decode cX5_dip 18 = .ok (.iload_n 2, 1) := by decide +kernel
theorem dX5_dip_19 : decode cX5_dip 19 = .ok (.iconst 2, 1) := by decide +kernel
theorem dX5_dip_20 : decode cX5_dip 20 = .ok (.if_icmp .ge 21, 3) := by decide +kernel
theorem dX5_dip_23 : decode cX5_dip 23 = .ok (.aload_n 0, 1) := by decide +kernel
theorem dX5_dip_24 : decode cX5_dip 24 = .ok (.getfield 9, 3) := by decide +kernel
theorem dX5_dip_27 : decode cX5_dip 27 = .ok (.iload_n 2, 1) := by decide +kernel
theorem dX5_dip_28 : decode cX5_dip 28 = .ok (.ifCond .ne 7, 3) := by decide +kernel
theorem dX5_dip_31 : decode cX5_dip 31 = .ok (.iconst 5, 1) := by decide +kernel
theorem dX5_dip_32 : decode cX5_dip 32 = .ok (.goto 5, 3) := by decide +kernel
theorem dX5_dip_35 : decode cX5_dip 35 = .ok (.bipush 15, 2) := by decide +kernel
theorem dX5_dip_37 : decode cX5_dip 37 = .ok (.iload_n 1, 1) := by decide +kernel
theorem dX5_dip_38 : decode cX5_dip 38 = .ok (.iadd, 1) := by decide +kernel
theorem dX5_dip_39 : decode cX5_dip 39 = .ok (.iaload, 1) := by decide +kernel
theorem dX5_dip_40 : decode cX5_dip 40 = .ok (.ireturn, 1) := by decide +kernel
theorem dX5_dip_41 : decode cX5_dip 41 = .ok (.iconst 0, 1) := by decide +kernel
theorem dX5_dip_42 : decode cX5_dip 42 = .ok (.istore_n 3, 1) := by decide +kernel
theorem dX5_dip_43 : decode cX5_dip 43 = .ok (.iconst 0, 1) := by decide +kernel
theorem dX5_dip_44 : decode cX5_dip 44 = .ok (.istore 4, 2) := by decide +kernel
theorem dX5_dip_46 : decode cX5_dip 46 = .ok (.iload 4, 2) := by decide +kernel
theorem dX5_dip_48 : decode cX5_dip 48 = .ok (.aload_n 0, 1) := by decide +kernel
theorem dX5_dip_49 : decode cX5_dip 49 = .ok (.getfield 9, 3) := by decide +kernel
theorem dX5_dip_52 : decode cX5_dip 52 = .ok (.iconst 0, 1) := by decide +kernel
theorem dX5_dip_53 : decode cX5_dip 53 = .ok (.iaload, 1) := by decide +kernel
theorem dX5_dip_54 : decode cX5_dip 54 = .ok (.if_icmp .ge 35, 3) := by decide +kernel
theorem dX5_dip_57 : decode cX5_dip 57 = .ok (.iload_n 3, 1) := by decide +kernel
theorem dX5_dip_58 : decode cX5_dip 58 = .ok (.aload_n 0, 1) := by decide +kernel
theorem dX5_dip_59 : decode cX5_dip 59 = .ok (.getfield 9, 3) := by decide +kernel
theorem dX5_dip_62 : decode cX5_dip 62 = .ok (.iload 4, 2) := by decide +kernel
theorem dX5_dip_64 : decode cX5_dip 64 = .ok (.iconst 2, 1) := by decide +kernel
theorem dX5_dip_65 : decode cX5_dip 65 = .ok (.invokestatic 47, 3) := by decide +kernel
theorem dX5_dip_68 : decode cX5_dip 68 = .ok (.iaload, 1) := by decide +kernel
theorem dX5_dip_69 : decode cX5_dip 69 = .ok (.iload_n 1, 1) := by decide +kernel
theorem dX5_dip_70 : decode cX5_dip 70 = .ok (.if_icmp .ne 10, 3) := by decide +kernel
theorem dX5_dip_73 : decode cX5_dip 73 = .ok (.iconst 1, 1) := by decide +kernel
theorem dX5_dip_74 : decode cX5_dip 74 = .ok (.iload 4, 2) := by decide +kernel
theorem dX5_dip_76 : decode cX5_dip 76 = .ok (.ishl, 1) := by decide +kernel
theorem dX5_dip_77 : decode cX5_dip 77 = .ok (.goto 4, 3) := by decide +kernel
theorem dX5_dip_80 : decode cX5_dip 80 = .ok (.iconst 0, 1) := by decide +kernel
theorem dX5_dip_81 : decode cX5_dip 81 = .ok (.ior, 1) := by decide +kernel
theorem dX5_dip_82 : decode cX5_dip 82 = .ok (.istore_n 3, 1) := by decide +kernel
theorem dX5_dip_83 : decode cX5_dip 83 = .ok (.iinc 4 1, 3) := by decide +kernel
theorem dX5_dip_86 : decode cX5_dip 86 = .ok (.goto (-40), 3) := by decide +kernel
theorem dX5_dip_89 : decode cX5_dip 89 = .ok (.iload_n 3, 1) := by decide +kernel
theorem dX5_dip_90 : decode cX5_dip 90 = .ok (.ireturn, 1) := by decide +kernel
theorem dX5_comes_0 : decode cX5_comes 0 = .ok (.iload_n 2, 1) := by decide +kernel
theorem dX5_comes_1 : decode cX5_comes 1 = .ok (.invokestatic 61, 3) := by decide +kernel
theorem dX5_comes_4 : decode cX5_comes 4 = .ok (.ifCond .eq 12, 3) := by decide +kernel
theorem dX5_comes_7 : decode cX5_comes 7 = .ok (.iload_n 3, 1) := by decide +kernel
theorem dX5_comes_8 : decode cX5_comes 8 = .ok (.iconst 0, 1) := by decide +kernel
theorem dX5_comes_9 : decode cX5_comes 9 = .ok (.iconst 1, 1) := by decide +kernel
theorem dX5_comes_10 : decode cX5_comes 10 = .ok (.invokestatic 43, 3) := by decide +kernel
theorem dX5_comes_13 : decode cX5_comes 13 = .ok (.ifCond .ne 5, 3) := by decide +kernel
theorem dX5_comes_16 : decode cX5_comes 16 = .ok (.iconst (-1), 1) := by decide +kernel
theorem dX5_comes_17 : decode cX5_comes 17 = .ok (.ireturn, 1) := by decide +kernel
theorem dX5_comes_18 : decode cX5_comes 18 = .ok (.aload_n 0, 1) := by decide +kernel
theorem dX5_comes_19 : decode cX5_comes 19 = .ok (.iload_n 1, 1) := by decide +kernel
theorem dX5_comes_20 : decode cX5_comes 20 = .ok (.invokevirtual 147, 3) := by decide +kernel
theorem dX5_comes_23 : decode cX5_comes 23 = .ok (.istore 4, 2) := by decide +kernel
theorem dX5_comes_25 : decode cX5_comes 25 = .ok (.iload 4, 2) := by decide +kernel
theorem dX5_comes_27 : decode cX5_comes 27 = .ok (.ifCond .eq 6, 3) := by decide +kernel
theorem dX5_comes_30 : decode cX5_comes 30 = .ok (.iload 4, 2) := by decide +kernel
theorem dX5_comes_32 : decode cX5_comes 32 = .ok (.ireturn, 1) := by decide +kernel
theorem dX5_comes_33 : decode cX5_comes 33 = .ok (.aload_n 0, 1) := by decide +kernel
theorem dX5_comes_34 : decode cX5_comes 34 = .ok (.getfield 9, 3) := by decide +kernel
theorem dX5_comes_37 : decode cX5_comes 37 = .ok (.iconst 0, 1) := by decide +kernel
theorem dX5_comes_38 : decode cX5_comes 38 = .ok (.iaload, 1) := by decide +kernel
theorem dX5_comes_39 : decode cX5_comes 39 = .ok (.bipush 6, 2) := by decide +kernel
theorem dX5_comes_41 : decode cX5_comes 41 = .ok (.if_icmp .ne 6, 3) := by decide +kernel
theorem dX5_comes_44 : decode cX5_comes 44 = .ok (.bipush (-2), 2) := by decide +kernel
theorem dX5_comes_46 : decode cX5_comes 46 = .ok (.ireturn, 1) := by decide +kernel
theorem dX5_comes_47 : decode cX5_comes 47 = .ok (.aload_n 0, 1) := by decide +kernel
theorem dX5_comes_48 : decode cX5_comes 48 = .ok (.aload_n 0, 1) := by decide +kernel
theorem dX5_comes_49 : decode cX5_comes 49 = .ok (.getfield 28, 3) := by decide +kernel
theorem dX5_comes_52 : decode cX5_comes 52 = .ok (.iload_n 1, 1) := by decide +kernel
theorem dX5_comes_53 : decode cX5_comes 53 = .ok (.iaload, 1) := by decide +kernel
theorem dX5_comes_54 : decode cX5_comes 54 = .ok (.aload_n 0, 1) := by decide +kernel
theorem dX5_comes_55 : decode cX5_comes 55 = .ok (.getfield 31, 3) := by decide +kernel
theorem dX5_comes_58 : decode cX5_comes 58 = .ok (.iload_n 1, 1) := by decide +kernel
theorem dX5_comes_59 : decode cX5_comes 59 = .ok (.iaload, 1) := by decide +kernel
theorem dX5_comes_60 : decode cX5_comes 60 = .ok (.iload_n 2, 1) := by decide +kernel
theorem dX5_comes_61 : decode cX5_comes 61 = .ok (.iload_n 3, 1) := by decide +kernel
theorem dX5_comes_62 : decode cX5_comes 62 = .ok (.invokevirtual 116, 3) := by decide +kernel
theorem dX5_comes_65 : decode cX5_comes 65 = .ok (.aload_n 0, 1) := by decide +kernel
theorem dX5_comes_66 : decode cX5_comes 66 = .ok (.getfield 9, 3) := by decide +kernel
theorem dX5_comes_69 : decode cX5_comes 69 = .ok (.iconst 0, 1) := by decide +kernel
theorem dX5_comes_70 : decode cX5_comes 70 = .ok (.iaload, 1) := by decide +kernel
theorem dX5_comes_71 : decode cX5_comes 71 = .ok (.iconst 1, 1) := by decide +kernel
theorem dX5_comes_72 : decode cX5_comes 72 = .ok (.isub, 1) := by decide +kernel
theorem dX5_comes_73 : decode cX5_comes 73 = .ok (.ireturn, 1) := by decide +kernel
theorem dX5_fills_0 : decode cX5_fills 0 = .ok (.iload_n 1, 1) := by decide +kernel
theorem dX5_fills_1 : decode cX5_fills 1 = .ok (.invokestatic 61, 3) := by decide +kernel
theorem dX5_fills_4 : decode cX5_fills 4 = .ok (.ifCond .eq 14, 3) := by decide +kernel
theorem dX5_fills_7 : decode cX5_fills 7 = .ok (.iload_n 2, 1) := by decide +kernel
theorem dX5_fills_8 : decode cX5_fills 8 = .ok (.iconst 0, 1) := by decide +kernel
theorem dX5_fills_9 : decode cX5_fills 9 = .ok (.sipush 999, 3) := by decide +kernel
theorem dX5_fills_12 : decode cX5_fills 12 = .ok (.invokestatic 43, 3) := by decide +kernel
theorem dX5_fills_15 : decode cX5_fills 15 = .ok (.ifCond .ne 5, 3) := by decide +kernel
theorem dX5_fills_18 : decode cX5_fills 18 = .ok (.iconst (-1), 1) := by decide +kernel
theorem dX5_fills_19 : decode cX5_fills 19 = .ok (.ireturn, 1) := by decide +kernel
theorem dX5_fills_20 : decode cX5_fills 20 = .ok (.aload_n 0, 1) := by decide +kernel
theorem dX5_fills_21 : decode cX5_fills 21 = .ok (.getfield 9, 3) := by decide +kernel
theorem dX5_fills_24 : decode cX5_fills 24 = .ok (.iconst 5, 1) := by decide +kernel
theorem dX5_fills_25 : decode cX5_fills 25 = .ok (.iload_n 1, 1) := by decide +kernel
theorem dX5_fills_26 : decode cX5_fills 26 = .ok (.iadd, 1) := by decide +kernel
theorem dX5_fills_27 : decode cX5_fills 27 = .ok (.iaload, 1) := by decide +kernel
theorem dX5_fills_28 : decode cX5_fills 28 = .ok (.istore_n 3, 1) := by decide +kernel
theorem dX5_fills_29 : decode cX5_fills 29 = .ok (.aload_n 0, 1) := by decide +kernel
theorem dX5_fills_30 : decode cX5_fills 30 = .ok (.getfield 9, 3) := by decide +kernel
theorem dX5_fills_33 : decode cX5_fills 33 = .ok (.iload_n 1, 1) := by decide +kernel
theorem dX5_fills_34 : decode cX5_fills 34 = .ok (.iload_n 2, 1) := by decide +kernel
theorem dX5_fills_35 : decode cX5_fills 35 = .ok (.invokestatic 120, 3) := by decide +kernel
theorem dX5_fills_38 : decode cX5_fills 38 = .ok (.iload_n 3, 1) := by decide +kernel
theorem dX5_fills_39 : decode cX5_fills 39 = .ok (.ireturn, 1) := by decide +kernel
theorem dX5_blows_0 : decode cX5_blows 0 = .ok (.iload_n 1, 1) := by decide +kernel
theorem dX5_blows_1 : decode cX5_blows 1 = .ok (.bipush (-9), 2) := by decide +kernel
theorem dX5_blows_3 : decode cX5_blows 3 = .ok (.bipush 9, 2) := by decide +kernel
theorem dX5_blows_5 : decode cX5_blows 5 = .ok (.invokestatic 43, 3) := by decide +kernel
theorem dX5_blows_8 : decode cX5_blows 8 = .ok (.ifCond .ne 6, 3) := by decide +kernel
theorem dX5_blows_11 : decode cX5_blows 11 = .ok (.ldc 151, 2) := by decide +kernel
theorem dX5_blows_13 : decode cX5_blows 13 = .ok (.ireturn, 1) := by decide +kernel
theorem dX5_blows_14 : decode cX5_blows 14 = .ok (.aload_n 0, 1) := by decide +kernel
theorem dX5_blows_15 : decode cX5_blows 15 = .ok (.getfield 9, 3) := by decide +kernel
theorem dX5_blows_18 : decode cX5_blows 18 = .ok (.iconst 2, 1) := by decide +kernel
theorem dX5_blows_19 : decode cX5_blows 19 = .ok (.iaload, 1) := by decide +kernel
theorem dX5_blows_20 : decode cX5_blows 20 = .ok (.istore_n 2, 1) := by decide +kernel
theorem dX5_blows_21 : decode cX5_blows 21 = .ok (.aload_n 0, 1) := by decide +kernel
theorem dX5_blows_22 : decode cX5_blows 22 = .ok (.getfield 9, 3) := by decide +kernel
theorem dX5_blows_25 : decode cX5_blows 25 = .ok (.iconst 2, 1) := by decide +kernel
theorem dX5_blows_26 : decode cX5_blows 26 = .ok (.iload_n 1, 1) := by decide +kernel
theorem dX5_blows_27 : decode cX5_blows 27 = .ok (.iastore, 1) := by decide +kernel
theorem dX5_blows_28 : decode cX5_blows 28 = .ok (.iload_n 2, 1) := by decide +kernel
theorem dX5_blows_29 : decode cX5_blows 29 = .ok (.ireturn, 1) := by decide +kernel
theorem dX5_rests_0 : decode cX5_rests 0 = .ok (.aload_n 0, 1) := by decide +kernel
theorem dX5_rests_1 : decode cX5_rests 1 = .ok (.iload_n 1, 1) := by decide +kernel
theorem dX5_rests_2 : decode cX5_rests 2 = .ok (.invokevirtual 123, 3) := by decide +kernel
theorem dX5_rests_5 : decode cX5_rests 5 = .ok (.ifCond .ne 5, 3) := by decide +kernel
theorem dX5_rests_8 : decode cX5_rests 8 = .ok (.iconst (-1), 1) := by decide +kernel
theorem dX5_rests_9 : decode cX5_rests 9 = .ok (.ireturn, 1) := by decide +kernel
theorem dX5_rests_10 : decode cX5_rests 10 = .ok (.aload_n 0, 1) := by decide +kernel
theorem dX5_rests_11 : decode cX5_rests 11 = .ok (.getfield 9, 3) := by decide +kernel
theorem dX5_rests_14 : decode cX5_rests 14 = .ok (.iload_n 1, 1) := by decide +kernel
theorem dX5_rests_15 : decode cX5_rests 15 = .ok (.iconst 5, 1) := by decide +kernel
theorem dX5_rests_16 : decode cX5_rests 16 = .ok (.invokestatic 47, 3) := by decide +kernel
theorem dX5_rests_19 : decode cX5_rests 19 = .ok (.dup2, 1) := by decide +kernel
theorem dX5_rests_20 : decode cX5_rests 20 = .ok (.iaload, 1) := by decide +kernel
theorem dX5_rests_21 : decode cX5_rests 21 = .ok (.iconst 1, 1) := by decide +kernel
theorem dX5_rests_22 : decode cX5_rests 22 = .ok (.ixor, 1) := by decide +kernel
theorem dX5_rests_23 : decode cX5_rests 23 = .ok (.iastore, 1) := by decide +kernel
theorem dX5_rests_24 : decode cX5_rests 24 = .ok (.aload_n 0, 1) := by decide +kernel
theorem dX5_rests_25 : decode cX5_rests 25 = .ok (.getfield 9, 3) := by decide +kernel
theorem dX5_rests_28 : decode cX5_rests 28 = .ok (.iload_n 1, 1) := by decide +kernel
theorem dX5_rests_29 : decode cX5_rests 29 = .ok (.iconst 5, 1) := by decide +kernel
theorem dX5_rests_30 : decode cX5_rests 30 = .ok (.invokestatic 47, 3) := by decide +kernel
theorem dX5_rests_33 : decode cX5_rests 33 = .ok (.iaload, 1) := by decide +kernel
theorem dX5_rests_34 : decode cX5_rests 34 = .ok (.ireturn, 1) := by decide +kernel
theorem dX5_moves_0 : decode cX5_moves 0 = .ok (.aload_n 0, 1) := by decide +kernel
theorem dX5_moves_1 : decode cX5_moves 1 = .ok (.iload_n 1, 1) := by decide +kernel
theorem dX5_moves_2 : decode cX5_moves 2 = .ok (.invokevirtual 123, 3) := by decide +kernel
theorem dX5_moves_5 : decode cX5_moves 5 = .ok (.ifCond .eq 10, 3) := by decide +kernel
theorem dX5_moves_8 : decode cX5_moves 8 = .ok (.iload_n 2, 1) := by decide +kernel
theorem dX5_moves_9 : decode cX5_moves 9 = .ok (.invokestatic 61, 3) := by decide +kernel
theorem dX5_moves_12 : decode cX5_moves 12 = .ok (.ifCond .ne 5, 3) := by decide +kernel
theorem dX5_moves_15 : decode cX5_moves 15 = .ok (.iconst (-1), 1) := by decide +kernel
theorem dX5_moves_16 : decode cX5_moves 16 = .ok (.ireturn, 1) := by decide +kernel
theorem dX5_moves_17 : decode cX5_moves 17 = .ok (.aload_n 0, 1) := by decide +kernel
theorem dX5_moves_18 : decode cX5_moves 18 = .ok (.getfield 9, 3) := by decide +kernel
theorem dX5_moves_21 : decode cX5_moves 21 = .ok (.iload_n 1, 1) := by decide +kernel
theorem dX5_moves_22 : decode cX5_moves 22 = .ok (.iconst 2, 1) := by decide +kernel
theorem dX5_moves_23 : decode cX5_moves 23 = .ok (.invokestatic 47, 3) := by decide +kernel
theorem dX5_moves_26 : decode cX5_moves 26 = .ok (.iaload, 1) := by decide +kernel
theorem dX5_moves_27 : decode cX5_moves 27 = .ok (.istore_n 3, 1) := by decide +kernel
theorem dX5_moves_28 : decode cX5_moves 28 = .ok (.aload_n 0, 1) := by decide +kernel
theorem dX5_moves_29 : decode cX5_moves 29 = .ok (.getfield 9, 3) := by decide +kernel
theorem dX5_moves_32 : decode cX5_moves 32 = .ok (.iload_n 1, 1) := by decide +kernel
theorem dX5_moves_33 : decode cX5_moves 33 = .ok (.iconst 2, 1) := by decide +kernel
theorem dX5_moves_34 : decode cX5_moves 34 = .ok (.invokestatic 47, 3) := by decide +kernel
theorem dX5_moves_37 : decode cX5_moves 37 = .ok (.iload_n 2, 1) := by decide +kernel
theorem dX5_moves_38 : decode cX5_moves 38 = .ok (.iastore, 1) := by decide +kernel
theorem dX5_moves_39 : decode cX5_moves 39 = .ok (.iload_n 3, 1) := by decide +kernel
theorem dX5_moves_40 : decode cX5_moves 40 = .ok (.ireturn, 1) := by decide +kernel
theorem dX5_flood_0 : decode cX5_flood 0 = .ok (.aload_n 0, 1) := by decide +kernel
theorem dX5_flood_1 : decode cX5_flood 1 = .ok (.getfield 9, 3) := by decide +kernel
theorem dX5_flood_4 : decode cX5_flood 4 = .ok (.iconst (-1), 1) := by decide +kernel
theorem dX5_flood_5 : decode cX5_flood 5 = .ok (.invokestatic 152, 3) := by decide +kernel
theorem dX5_flood_8 : decode cX5_flood 8 = .ok (.istore_n 1, 1) := by decide +kernel
theorem dX5_flood_9 : decode cX5_flood 9 = .ok (.aload_n 0, 1) := by decide +kernel
theorem dX5_flood_10 : decode cX5_flood 10 = .ok (.getfield 9, 3) := by decide +kernel
theorem dX5_flood_13 : decode cX5_flood 13 = .ok (.invokestatic 126, 3) := by decide +kernel
theorem dX5_flood_16 : decode cX5_flood 16 = .ok (.iload_n 1, 1) := by decide +kernel
theorem dX5_flood_17 : decode cX5_flood 17 = .ok (.ireturn, 1) := by decide +kernel
theorem dX5_days_0 : decode cX5_days 0 = .ok (.iload_n 1, 1) := by decide +kernel
theorem dX5_days_1 : decode cX5_days 1 = .ok (.iconst 1, 1) := by decide +kernel
theorem dX5_days_2 : decode cX5_days 2 = .ok (.bipush 60, 2) := by decide +kernel
theorem dX5_days_4 : decode cX5_days 4 = .ok (.invokestatic 43, 3) := by decide +kernel
theorem dX5_days_7 : decode cX5_days 7 = .ok (.ifCond .ne 5, 3) := by decide +kernel
theorem dX5_days_10 : decode cX5_days 10 = .ok (.iconst (-1), 1) := by decide +kernel
theorem dX5_days_11 : decode cX5_days 11 = .ok (.ireturn, 1) := by decide +kernel
theorem dX5_days_12 : decode cX5_days 12 = .ok (.aload_n 0, 1) := by decide +kernel
theorem dX5_days_13 : decode cX5_days 13 = .ok (.getfield 9, 3) := by decide +kernel
theorem dX5_days_16 : decode cX5_days 16 = .ok (.iconst 1, 1) := by decide +kernel
theorem dX5_days_17 : decode cX5_days 17 = .ok (.iaload, 1) := by decide +kernel
theorem dX5_days_18 : decode cX5_days 18 = .ok (.iload_n 1, 1) := by decide +kernel
theorem dX5_days_19 : decode cX5_days 19 = .ok (.iadd, 1) := by decide +kernel
theorem dX5_days_20 : decode cX5_days 20 = .ok (.sipush 999, 3) := by decide +kernel
theorem dX5_days_23 : decode cX5_days 23 = .ok (.if_icmp .le 6, 3) := by decide +kernel
theorem dX5_days_26 : decode cX5_days 26 = .ok (.bipush (-3), 2) := by decide +kernel
theorem dX5_days_28 : decode cX5_days 28 = .ok (.ireturn, 1) := by decide +kernel
theorem dX5_days_29 : decode cX5_days 29 = .ok (.aload_n 0, 1) := by decide +kernel
theorem dX5_days_30 : decode cX5_days 30 = .ok (.getfield 9, 3) := by decide +kernel
theorem dX5_days_33 : decode cX5_days 33 = .ok (.iload_n 1, 1) := by decide +kernel
theorem dX5_days_34 : decode cX5_days 34 = .ok (.invokestatic 130, 3) := by decide +kernel
theorem dX5_days_37 : decode cX5_days 37 = .ok (.aload_n 0, 1) := by decide +kernel
theorem dX5_days_38 : decode cX5_days 38 = .ok (.getfield 9, 3) := by decide +kernel
theorem dX5_days_41 : decode cX5_days 41 = .ok (.iconst (-1), 1) := by decide +kernel
theorem dX5_days_42 : decode cX5_days 42 = .ok (.invokestatic 152, 3) := by decide +kernel
theorem dX5_days_45 : decode cX5_days 45 = .ok (.ireturn, 1) := by decide +kernel
theorem dX5_isLate_0 : decode cX5_isLate 0 = .ok (.iload_n 0, 1) := by decide +kernel
theorem dX5_isLate_1 : decode cX5_isLate 1 = .ok (.iconst 0, 1) := by decide +kernel
theorem dX5_isLate_2 : decode cX5_isLate 2 = .ok (.bipush 60, 2) := by decide +kernel
theorem dX5_isLate_4 : decode cX5_isLate 4 = .ok (.invokestatic 43, 3) := by decide +kernel
theorem dX5_isLate_7 : decode cX5_isLate 7 = .ok (.ireturn, 1) := by decide +kernel
theorem dX5_takes_0 : decode cX5_takes 0 = .ok (.aload_n 0, 1) := by decide +kernel
theorem dX5_takes_1 : decode cX5_takes 1 = .ok (.getfield 9, 3) := by decide +kernel
theorem dX5_takes_4 : decode cX5_takes 4 = .ok (.aload_n 0, 1) := by decide +kernel
theorem dX5_takes_5 : decode cX5_takes 5 = .ok (.getfield 13, 3) := by decide +kernel
theorem dX5_takes_8 : decode cX5_takes 8 = .ok (.invokestatic 140, 3) := by decide +kernel
theorem dX5_takes_11 : decode cX5_takes 11 = .ok (.aload_n 0, 1) := by decide +kernel
theorem dX5_takes_12 : decode cX5_takes 12 = .ok (.getfield 13, 3) := by decide +kernel
theorem dX5_takes_15 : decode cX5_takes 15 = .ok (.iconst 3, 1) := by decide +kernel
theorem dX5_takes_16 : decode cX5_takes 16 = .ok (.iconst 0, 1) := by decide +kernel
theorem dX5_takes_17 : decode cX5_takes 17 = .ok (.iastore, 1) := by decide +kernel
theorem dX5_takes_18 : decode cX5_takes 18 = .ok (.aload_n 0, 1) := by decide +kernel
theorem dX5_takes_19 : decode cX5_takes 19 = .ok (.getfield 13, 3) := by decide +kernel
theorem dX5_takes_22 : decode cX5_takes 22 = .ok (.iload_n 1, 1) := by decide +kernel
theorem dX5_takes_23 : decode cX5_takes 23 = .ok (.invokestatic 130, 3) := by decide +kernel
theorem dX5_takes_26 : decode cX5_takes 26 = .ok (.return_, 1) := by decide +kernel
theorem dX5_corporalThen_0 : decode cX5_corporalThen 0 = .ok (.aload_n 0, 1) := by decide +kernel
theorem dX5_corporalThen_1 : decode cX5_corporalThen 1 = .ok (.iload_n 1, 1) := by decide +kernel
theorem dX5_corporalThen_2 : decode cX5_corporalThen 2 = .ok (.invokevirtual 123, 3) := by decide +kernel
theorem dX5_corporalThen_5 : decode cX5_corporalThen 5 = .ok (.ifCond .eq 19, 3) := by decide +kernel
theorem dX5_corporalThen_8 : decode cX5_corporalThen 8 = .ok (.iload_n 2, 1) := by decide +kernel
theorem dX5_corporalThen_9 : decode cX5_corporalThen 9 = .ok (.invokestatic 155, 3) := by decide +kernel
theorem dX5_corporalThen_12 : decode cX5_corporalThen 12 = .ok (.ifCond .eq 12, 3) := by decide +kernel
theorem dX5_corporalThen_15 : decode cX5_corporalThen 15 = .ok (.iload_n 3, 1) := by decide +kernel
theorem dX5_corporalThen_16 : decode cX5_corporalThen 16 = .ok (.iconst 0, 1) := by decide +kernel
theorem dX5_corporalThen_17 : decode cX5_corporalThen 17 = .ok (.iconst 1, 1) := by decide +kernel
theorem dX5_corporalThen_18 : decode cX5_corporalThen 18 = .ok (.invokestatic 43, 3) := by decide +kernel
theorem dX5_corporalThen_21 : decode cX5_corporalThen 21 = .ok (.ifCond .ne 5, 3) := by decide +kernel
theorem dX5_corporalThen_24 : decode cX5_corporalThen 24 = .ok (.iconst (-1), 1) := by decide +kernel
theorem dX5_corporalThen_25 : decode cX5_corporalThen 25 = .ok (.ireturn, 1) := by decide +kernel
theorem dX5_corporalThen_26 : decode cX5_corporalThen 26 = .ok (.aload_n 0, 1) := by decide +kernel
theorem dX5_corporalThen_27 : decode cX5_corporalThen 27 = .ok (.iload_n 2, 1) := by decide +kernel
theorem dX5_corporalThen_28 : decode cX5_corporalThen 28 = .ok (.invokevirtual 158, 3) := by decide +kernel
theorem dX5_corporalThen_31 : decode cX5_corporalThen 31 = .ok (.aload_n 0, 1) := by decide +kernel
theorem dX5_corporalThen_32 : decode cX5_corporalThen 32 = .ok (.getfield 13, 3) := by decide +kernel
theorem dX5_corporalThen_35 : decode cX5_corporalThen 35 = .ok (.iload_n 1, 1) := by decide +kernel
theorem dX5_corporalThen_36 : decode cX5_corporalThen 36 = .ok (.iload_n 3, 1) := by decide +kernel
theorem dX5_corporalThen_37 : decode cX5_corporalThen 37 = .ok (.ifCond .ne 7, 3) := by decide +kernel
theorem dX5_corporalThen_40 : decode cX5_corporalThen 40 = .ok (.iconst 2, 1) := by decide +kernel
theorem dX5_corporalThen_41 : decode cX5_corporalThen 41 = .ok (.goto 4, 3) := by decide +kernel
theorem dX5_corporalThen_44 : decode cX5_corporalThen 44 = .ok (.iconst 4, 1) := by decide +kernel
theorem dX5_corporalThen_45 : decode cX5_corporalThen 45 = .ok (.invokestatic 47, 3) := by decide +kernel
theorem dX5_corporalThen_48 : decode cX5_corporalThen 48 = .ok (.iaload, 1) := by decide +kernel
theorem dX5_corporalThen_49 : decode cX5_corporalThen 49 = .ok (.ireturn, 1) := by decide +kernel
theorem dX5_dipThen_0 : decode cX5_dipThen 0 = .ok (.iload_n 1, 1) := by decide +kernel
theorem dX5_dipThen_1 : decode cX5_dipThen 1 = .ok (.invokestatic 61, 3) := by decide +kernel
theorem dX5_dipThen_4 : decode cX5_dipThen 4 = .ok (.ifCond .eq 19, 3) := by decide +kernel
theorem dX5_dipThen_7 : decode cX5_dipThen 7 = .ok (.iload_n 2, 1) := by decide +kernel
theorem dX5_dipThen_8 : decode cX5_dipThen 8 = .ok (.invokestatic 155, 3) := by decide +kernel
theorem dX5_dipThen_11 : decode cX5_dipThen 11 = .ok (.ifCond .eq 12, 3) := by decide +kernel
theorem dX5_dipThen_14 : decode cX5_dipThen 14 = .ok (.iload_n 3, 1) := by decide +kernel
theorem dX5_dipThen_15 : decode cX5_dipThen 15 = .ok (.iconst 0, 1) := by decide +kernel
theorem dX5_dipThen_16 : decode cX5_dipThen 16 = .ok (.iconst 1, 1) := by decide +kernel
theorem dX5_dipThen_17 : decode cX5_dipThen 17 = .ok (.invokestatic 43, 3) := by decide +kernel
theorem dX5_dipThen_20 : decode cX5_dipThen 20 = .ok (.ifCond .ne 5, 3) := by decide +kernel
theorem dX5_dipThen_23 : decode cX5_dipThen 23 = .ok (.iconst (-1), 1) := by decide +kernel
theorem dX5_dipThen_24 : decode cX5_dipThen 24 = .ok (.ireturn, 1) := by decide +kernel
theorem dX5_dipThen_25 : decode cX5_dipThen 25 = .ok (.aload_n 0, 1) := by decide +kernel
theorem dX5_dipThen_26 : decode cX5_dipThen 26 = .ok (.iload_n 2, 1) := by decide +kernel
theorem dX5_dipThen_27 : decode cX5_dipThen 27 = .ok (.invokevirtual 158, 3) := by decide +kernel
theorem dX5_dipThen_30 : decode cX5_dipThen 30 = .ok (.aload_n 0, 1) := by decide +kernel
theorem dX5_dipThen_31 : decode cX5_dipThen 31 = .ok (.getfield 13, 3) := by decide +kernel
theorem dX5_dipThen_34 : decode cX5_dipThen 34 = .ok (.iload_n 3, 1) := by decide +kernel
theorem dX5_dipThen_35 : decode cX5_dipThen 35 = .ok (.ifCond .ne 7, 3) := by decide +kernel
theorem dX5_dipThen_38 : decode cX5_dipThen 38 = .ok (.iconst 5, 1) := by decide +kernel
theorem dX5_dipThen_39 : decode cX5_dipThen 39 = .ok (.goto 5, 3) := by decide +kernel
theorem dX5_dipThen_42 : decode cX5_dipThen 42 = .ok (.bipush 15, 2) := by decide +kernel
theorem dX5_dipThen_44 : decode cX5_dipThen 44 = .ok (.iload_n 1, 1) := by decide +kernel
theorem dX5_dipThen_45 : decode cX5_dipThen 45 = .ok (.iadd, 1) := by decide +kernel
theorem dX5_dipThen_46 : decode cX5_dipThen 46 = .ok (.iaload, 1) := by decide +kernel
theorem dX5_dipThen_47 : decode cX5_dipThen 47 = .ok (.ireturn, 1) := by decide +kernel
theorem dX5_dipsDone_0 : decode cX5_dipsDone 0 = .ok (.iload_n 1, 1) := by decide +kernel
theorem dX5_dipsDone_1 : decode cX5_dipsDone 1 = .ok (.invokestatic 155, 3) := by decide +kernel
theorem dX5_dipsDone_4 : decode cX5_dipsDone 4 = .ok (.ifCond .ne 5, 3) := by decide +kernel
theorem dX5_dipsDone_7 : decode cX5_dipsDone 7 = .ok (.iconst (-1), 1) := by decide +kernel
theorem dX5_dipsDone_8 : decode cX5_dipsDone 8 = .ok (.ireturn, 1) := by decide +kernel
theorem dX5_dipsDone_9 : decode cX5_dipsDone 9 = .ok (.aload_n 0, 1) := by decide +kernel
theorem dX5_dipsDone_10 : decode cX5_dipsDone 10 = .ok (.iload_n 1, 1) := by decide +kernel
theorem dX5_dipsDone_11 : decode cX5_dipsDone 11 = .ok (.invokevirtual 158, 3) := by decide +kernel
theorem dX5_dipsDone_14 : decode cX5_dipsDone 14 = .ok (.aload_n 0, 1) := by decide +kernel
theorem dX5_dipsDone_15 : decode cX5_dipsDone 15 = .ok (.getfield 13, 3) := by decide +kernel
theorem dX5_dipsDone_18 : decode cX5_dipsDone 18 = .ok (.invokestatic 162, 3) := by decide +kernel
theorem dX5_dipsDone_21 : decode cX5_dipsDone 21 = .ok (.ireturn, 1) := by decide +kernel
theorem dX5_ends_0 : decode cX5_ends 0 = .ok (.iload_n 1, 1) := by decide +kernel
theorem dX5_ends_1 : decode cX5_ends 1 = .ok (.iconst (-1), 1) := by decide +kernel
theorem dX5_ends_2 : decode cX5_ends 2 = .ok (.if_icmp .eq 12, 3) := by decide +kernel
theorem dX5_ends_5 : decode cX5_ends 5 = .ok (.iload_n 1, 1) := by decide +kernel
theorem dX5_ends_6 : decode cX5_ends 6 = .ok (.invokestatic 61, 3) := by decide +kernel
theorem dX5_ends_9 : decode cX5_ends 9 = .ok (.ifCond .ne 5, 3) := by decide +kernel
theorem dX5_ends_12 : decode cX5_ends 12 = .ok (.iconst (-1), 1) := by decide +kernel
theorem dX5_ends_13 : decode cX5_ends 13 = .ok (.ireturn, 1) := by decide +kernel
theorem dX5_ends_14 : decode cX5_ends 14 = .ok (.iload_n 1, 1) := by decide +kernel
theorem dX5_ends_15 : decode cX5_ends 15 = .ok (.ifCond .ge 9, 3) := by decide +kernel
theorem dX5_ends_18 : decode cX5_ends 18 = .ok (.sipush 1023, 3) := by decide +kernel
theorem dX5_ends_21 : decode cX5_ends 21 = .ok (.goto 6, 3) := by decide +kernel
theorem dX5_ends_24 : decode cX5_ends 24 = .ok (.iconst 1, 1) := by decide +kernel
theorem dX5_ends_25 : decode cX5_ends 25 = .ok (.iload_n 1, 1) := by decide +kernel
theorem dX5_ends_26 : decode cX5_ends 26 = .ok (.ishl, 1) := by decide +kernel
theorem dX5_ends_27 : decode cX5_ends 27 = .ok (.istore_n 2, 1) := by decide +kernel
theorem dX5_ends_28 : decode cX5_ends 28 = .ok (.aload_n 0, 1) := by decide +kernel
theorem dX5_ends_29 : decode cX5_ends 29 = .ok (.getfield 9, 3) := by decide +kernel
theorem dX5_ends_32 : decode cX5_ends 32 = .ok (.aload_n 0, 1) := by decide +kernel
theorem dX5_ends_33 : decode cX5_ends 33 = .ok (.getfield 13, 3) := by decide +kernel
theorem dX5_ends_36 : decode cX5_ends 36 = .ok (.invokestatic 140, 3) := by decide +kernel
theorem dX5_ends_39 : decode cX5_ends 39 = .ok (.iconst 0, 1) := by decide +kernel
theorem dX5_ends_40 : decode cX5_ends 40 = .ok (.istore_n 3, 1) := by decide +kernel
theorem dX5_ends_41 : decode cX5_ends 41 = .ok (.iload_n 3, 1) := by decide +kernel
theorem dX5_ends_42 : decode cX5_ends 42 = .ok (.bipush 60, 2) := by decide +kernel
theorem dX5_ends_44 : decode cX5_ends 44 = .ok (.if_icmp .gt 32, 3) := by decide +kernel
theorem dX5_ends_47 : decode cX5_ends 47 = .ok (.aload_n 0, 1) := by decide +kernel
theorem dX5_ends_48 : decode cX5_ends 48 = .ok (.getfield 13, 3) := by decide +kernel
theorem dX5_ends_51 : decode cX5_ends 51 = .ok (.invokestatic 162, 3) := by decide +kernel
theorem dX5_ends_54 : decode cX5_ends 54 = .ok (.iload_n 2, 1) := by decide +kernel
theorem dX5_ends_55 : decode cX5_ends 55 = .ok (.iand, 1) := by decide +kernel
theorem dX5_ends_56 : decode cX5_ends 56 = .ok (.iload_n 2, 1) := by decide +kernel
theorem dX5_ends_57 : decode cX5_ends 57 = .ok (.if_icmp .ne 5, 3) := by decide +kernel
theorem dX5_ends_60 : decode cX5_ends 60 = .ok (.iload_n 3, 1) := by decide +kernel
theorem dX5_ends_61 : decode cX5_ends 61 = .ok (.ireturn, 1) := by decide +kernel
theorem dX5_ends_62 : decode cX5_ends 62 = .ok (.aload_n 0, 1) := by decide +kernel
theorem dX5_ends_63 : decode cX5_ends 63 = .ok (.getfield 13, 3) := by decide +kernel
theorem dX5_ends_66 : decode cX5_ends 66 = .ok (.iconst 1, 1) := by decide +kernel
theorem dX5_ends_67 : decode cX5_ends 67 = .ok (.invokestatic 130, 3) := by decide +kernel
theorem dX5_ends_70 : decode cX5_ends 70 = .ok (.iinc 3 1, 3) := by decide +kernel
theorem dX5_ends_73 : decode cX5_ends 73 = .ok (.goto (-32), 3) := by decide +kernel
theorem dX5_ends_76 : decode cX5_ends 76 = .ok (.bipush (-4), 2) := by decide +kernel
theorem dX5_ends_78 : decode cX5_ends 78 = .ok (.ireturn, 1) := by decide +kernel
theorem dX5_meet_0 : decode cX5_meet 0 = .ok (.aload_n 0, 1) := by decide +kernel
theorem dX5_meet_1 : decode cX5_meet 1 = .ok (.iload_n 1, 1) := by decide +kernel
theorem dX5_meet_2 : decode cX5_meet 2 = .ok (.invokevirtual 123, 3) := by decide +kernel
theorem dX5_meet_5 : decode cX5_meet 5 = .ok (.ifCond .eq 16, 3) := by decide +kernel
theorem dX5_meet_8 : decode cX5_meet 8 = .ok (.aload_n 0, 1) := by decide +kernel
theorem dX5_meet_9 : decode cX5_meet 9 = .ok (.iload_n 2, 1) := by decide +kernel
theorem dX5_meet_10 : decode cX5_meet 10 = .ok (.invokevirtual 123, 3) := by decide +kernel
theorem dX5_meet_13 : decode cX5_meet 13 = .ok (.ifCond .eq 8, 3) := by decide +kernel
theorem dX5_meet_16 : decode cX5_meet 16 = .ok (.iload_n 1, 1) := by decide +kernel
theorem dX5_meet_17 : decode cX5_meet 17 = .ok (.iload_n 2, 1) := by decide +kernel
theorem dX5_meet_18 : decode cX5_meet 18 = .ok (.if_icmp .ne 5, 3) := by decide +kernel
theorem dX5_meet_21 : decode cX5_meet 21 = .ok (.iconst (-1), 1) := by decide +kernel
theorem dX5_meet_22 : decode cX5_meet 22 = .ok (.ireturn, 1) := by decide +kernel
theorem dX5_meet_23 : decode cX5_meet 23 = .ok (.aload_n 0, 1) := by decide +kernel
theorem dX5_meet_24 : decode cX5_meet 24 = .ok (.getfield 9, 3) := by decide +kernel
theorem dX5_meet_27 : decode cX5_meet 27 = .ok (.aload_n 0, 1) := by decide +kernel
theorem dX5_meet_28 : decode cX5_meet 28 = .ok (.getfield 13, 3) := by decide +kernel
theorem dX5_meet_31 : decode cX5_meet 31 = .ok (.invokestatic 140, 3) := by decide +kernel
theorem dX5_meet_34 : decode cX5_meet 34 = .ok (.iconst 0, 1) := by decide +kernel
theorem dX5_meet_35 : decode cX5_meet 35 = .ok (.istore_n 3, 1) := by decide +kernel
theorem dX5_meet_36 : decode cX5_meet 36 = .ok (.iload_n 3, 1) := by decide +kernel
theorem dX5_meet_37 : decode cX5_meet 37 = .ok (.bipush 60, 2) := by decide +kernel
theorem dX5_meet_39 : decode cX5_meet 39 = .ok (.if_icmp .gt 48, 3) := by decide +kernel
theorem dX5_meet_42 : decode cX5_meet 42 = .ok (.aload_n 0, 1) := by decide +kernel
theorem dX5_meet_43 : decode cX5_meet 43 = .ok (.getfield 13, 3) := by decide +kernel
theorem dX5_meet_46 : decode cX5_meet 46 = .ok (.iload_n 1, 1) := by decide +kernel
theorem dX5_meet_47 : decode cX5_meet 47 = .ok (.iconst 2, 1) := by decide +kernel
theorem dX5_meet_48 : decode cX5_meet 48 = .ok (.invokestatic 47, 3) := by decide +kernel
theorem dX5_meet_51 : decode cX5_meet 51 = .ok (.iaload, 1) := by decide +kernel
theorem dX5_meet_52 : decode cX5_meet 52 = .ok (.aload_n 0, 1) := by decide +kernel
theorem dX5_meet_53 : decode cX5_meet 53 = .ok (.getfield 13, 3) := by decide +kernel
theorem dX5_meet_56 : decode cX5_meet 56 = .ok (.iload_n 2, 1) := by decide +kernel
theorem dX5_meet_57 : decode cX5_meet 57 = .ok (.iconst 2, 1) := by decide +kernel
theorem dX5_meet_58 : decode cX5_meet 58 = .ok (.invokestatic 47, 3) := by decide +kernel
theorem dX5_meet_61 : decode cX5_meet 61 = .ok (.iaload, 1) := by decide +kernel
theorem dX5_meet_62 : decode cX5_meet 62 = .ok (.isub, 1) := by decide +kernel
theorem dX5_meet_63 : decode cX5_meet 63 = .ok (.iconst (-1), 1) := by decide +kernel
theorem dX5_meet_64 : decode cX5_meet 64 = .ok (.iconst 1, 1) := by decide +kernel
theorem dX5_meet_65 : decode cX5_meet 65 = .ok (.invokestatic 43, 3) := by decide +kernel
theorem dX5_meet_68 : decode cX5_meet 68 = .ok (.ifCond .eq 5, 3) := by decide +kernel
theorem dX5_meet_71 : decode cX5_meet 71 = .ok (.iload_n 3, 1) := by decide +kernel
theorem dX5_meet_72 : decode cX5_meet 72 = .ok (.ireturn, 1) := by decide +kernel
theorem dX5_meet_73 : decode cX5_meet 73 = .ok (.aload_n 0, 1) := by decide +kernel
theorem dX5_meet_74 : decode cX5_meet 74 = .ok (.getfield 13, 3) := by decide +kernel
theorem dX5_meet_77 : decode cX5_meet 77 = .ok (.iconst 1, 1) := by decide +kernel
theorem dX5_meet_78 : decode cX5_meet 78 = .ok (.invokestatic 130, 3) := by decide +kernel
theorem dX5_meet_81 : decode cX5_meet 81 = .ok (.iinc 3 1, 3) := by decide +kernel
theorem dX5_meet_84 : decode cX5_meet 84 = .ok (.goto (-48), 3) := by decide +kernel
theorem dX5_meet_87 : decode cX5_meet 87 = .ok (.bipush (-4), 2) := by decide +kernel
theorem dX5_meet_89 : decode cX5_meet 89 = .ok (.ireturn, 1) := by decide +kernel
theorem dX5_line_0 : decode cX5_line 0 = .ok (.iload_n 1, 1) := by decide +kernel
theorem dX5_line_1 : decode cX5_line 1 = .ok (.invokestatic 155, 3) := by decide +kernel
theorem dX5_line_4 : decode cX5_line 4 = .ok (.ifCond .ne 5, 3) := by decide +kernel
theorem dX5_line_7 : decode cX5_line 7 = .ok (.iconst (-1), 1) := by decide +kernel
theorem dX5_line_8 : decode cX5_line 8 = .ok (.ireturn, 1) := by decide +kernel
theorem dX5_line_9 : decode cX5_line 9 = .ok (.aload_n 0, 1) := by decide +kernel
theorem dX5_line_10 : decode cX5_line 10 = .ok (.iload_n 1, 1) := by decide +kernel
theorem dX5_line_11 : decode cX5_line 11 = .ok (.invokevirtual 158, 3) := by decide +kernel
theorem dX5_line_14 : decode cX5_line 14 = .ok (.iconst 0, 1) := by decide +kernel
theorem dX5_line_15 : decode cX5_line 15 = .ok (.istore_n 2, 1) := by decide +kernel
theorem dX5_line_16 : decode cX5_line 16 = .ok (.bipush 9, 2) := by decide +kernel
theorem dX5_line_18 : decode cX5_line 18 = .ok (.istore_n 3, 1) := by decide +kernel
theorem dX5_line_19 : decode cX5_line 19 = .ok (.iconst 0, 1) := by decide +kernel
theorem dX5_line_20 : decode cX5_line 20 = .ok (.istore 4, 2) := by decide +kernel
theorem dX5_line_22 : decode cX5_line 22 = .ok (.iload 4, 2) := by decide +kernel
theorem dX5_line_24 : decode cX5_line 24 = .ok (.aload_n 0, 1) := by decide +kernel
theorem dX5_line_25 : decode cX5_line 25 = .ok (.getfield 13, 3) := by decide +kernel
theorem dX5_line_28 : decode cX5_line 28 = .ok (.iconst 0, 1) := by decide +kernel
theorem dX5_line_29 : decode cX5_line 29 = .ok (.iaload, 1) := by decide +kernel
theorem dX5_line_30 : decode cX5_line 30 = .ok (.if_icmp .ge 53, 3) := by decide +kernel
theorem dX5_line_33 : decode cX5_line 33 = .ok (.aload_n 0, 1) := by decide +kernel
theorem dX5_line_34 : decode cX5_line 34 = .ok (.getfield 13, 3) := by decide +kernel
theorem dX5_line_37 : decode cX5_line 37 = .ok (.iload 4, 2) := by decide +kernel
theorem dX5_line_39 : decode cX5_line 39 = .ok (.iconst 2, 1) := by decide +kernel
theorem dX5_line_40 : decode cX5_line 40 = .ok (.invokestatic 47, 3) := by decide +kernel
theorem dX5_line_43 : decode cX5_line 43 = .ok (.iaload, 1) := by decide +kernel
theorem dX5_line_44 : decode cX5_line 44 = .ok (.istore 5, 2) := by decide +kernel
theorem dX5_line_46 : decode cX5_line 46 = .ok (.aload_n 0, 1) := by decide +kernel
theorem dX5_line_47 : decode cX5_line 47 = .ok (.getfield 13, 3) := by decide +kernel
theorem dX5_line_50 : decode cX5_line 50 = .ok (.iload 4, 2) := by decide +kernel
theorem dX5_line_52 : decode cX5_line 52 = .ok (.iconst 3, 1) := by decide +kernel
theorem dX5_line_53 : decode cX5_line 53 = .ok (.invokestatic 47, 3) := by decide +kernel
theorem dX5_line_56 : decode cX5_line 56 = .ok (.iaload, 1) := by decide +kernel
theorem dX5_line_57 : decode cX5_line 57 = .ok (.ifCond .ne 13, 3) := by decide +kernel
theorem dX5_line_60 : decode cX5_line 60 = .ok (.iload_n 2, 1) := by decide +kernel
theorem dX5_line_61 : decode cX5_line 61 = .ok (.iload 5, 2) := by decide +kernel
theorem dX5_line_63 : decode cX5_line 63 = .ok (.invokestatic 58, 3) := by decide +kernel
theorem dX5_line_66 : decode cX5_line 66 = .ok (.istore_n 2, 1) := by decide +kernel
theorem dX5_line_67 : decode cX5_line 67 = .ok (.goto 10, 3) := by decide +kernel
theorem dX5_line_70 : decode cX5_line 70 = .ok (.iload_n 3, 1) := by decide +kernel
theorem dX5_line_71 : decode cX5_line 71 = .ok (.iload 5, 2) := by decide +kernel
theorem dX5_line_73 : decode cX5_line 73 = .ok (.invokestatic 55, 3) := by decide +kernel
theorem dX5_line_76 : decode cX5_line 76 = .ok (.istore_n 3, 1) := by decide +kernel
theorem dX5_line_77 : decode cX5_line 77 = .ok (.iinc 4 1, 3) := by decide +kernel
theorem dX5_line_80 : decode cX5_line 80 = .ok (.goto (-58), 3) := by decide +kernel
theorem dX5_line_83 : decode cX5_line 83 = .ok (.bipush 10, 2) := by decide +kernel
theorem dX5_line_85 : decode cX5_line 85 = .ok (.iload_n 2, 1) := by decide +kernel
theorem dX5_line_86 : decode cX5_line 86 = .ok (.imul, 1) := by decide +kernel
theorem dX5_line_87 : decode cX5_line 87 = .ok (.iload_n 3, 1) := by decide +kernel
theorem dX5_line_88 : decode cX5_line 88 = .ok (.iadd, 1) := by decide +kernel
theorem dX5_line_89 : decode cX5_line 89 = .ok (.ireturn, 1) := by decide +kernel
theorem dX5_treaty_0 : decode cX5_treaty 0 = .ok (.iload_n 1, 1) := by decide +kernel
theorem dX5_treaty_1 : decode cX5_treaty 1 = .ok (.invokestatic 155, 3) := by decide +kernel
theorem dX5_treaty_4 : decode cX5_treaty 4 = .ok (.ifCond .ne 6, 3) := by decide +kernel
theorem dX5_treaty_7 : decode cX5_treaty 7 = .ok (.ldc 151, 2) := by decide +kernel
theorem dX5_treaty_9 : decode cX5_treaty 9 = .ok (.ireturn, 1) := by decide +kernel
theorem dX5_treaty_10 : decode cX5_treaty 10 = .ok (.aload_n 0, 1) := by decide +kernel
theorem dX5_treaty_11 : decode cX5_treaty 11 = .ok (.iload_n 1, 1) := by decide +kernel
theorem dX5_treaty_12 : decode cX5_treaty 12 = .ok (.invokevirtual 158, 3) := by decide +kernel
theorem dX5_treaty_15 : decode cX5_treaty 15 = .ok (.aload_n 0, 1) := by decide +kernel
theorem dX5_treaty_16 : decode cX5_treaty 16 = .ok (.getfield 13, 3) := by decide +kernel
theorem dX5_treaty_19 : decode cX5_treaty 19 = .ok (.iconst 0, 1) := by decide +kernel
theorem dX5_treaty_20 : decode cX5_treaty 20 = .ok (.invokestatic 152, 3) := by decide +kernel
theorem dX5_treaty_23 : decode cX5_treaty 23 = .ok (.aload_n 0, 1) := by decide +kernel
theorem dX5_treaty_24 : decode cX5_treaty 24 = .ok (.getfield 13, 3) := by decide +kernel
theorem dX5_treaty_27 : decode cX5_treaty 27 = .ok (.iconst 1, 1) := by decide +kernel
theorem dX5_treaty_28 : decode cX5_treaty 28 = .ok (.invokestatic 152, 3) := by decide +kernel
theorem dX5_treaty_31 : decode cX5_treaty 31 = .ok (.isub, 1) := by decide +kernel
theorem dX5_treaty_32 : decode cX5_treaty 32 = .ok (.ireturn, 1) := by decide +kernel
theorem dX5_bestWind_0 : decode cX5_bestWind 0 = .ok (.iload_n 1, 1) := by decide +kernel
theorem dX5_bestWind_1 : decode cX5_bestWind 1 = .ok (.invokestatic 155, 3) := by decide +kernel
theorem dX5_bestWind_4 : decode cX5_bestWind 4 = .ok (.ifCond .eq 12, 3) := by decide +kernel
theorem dX5_bestWind_7 : decode cX5_bestWind 7 = .ok (.iload_n 2, 1) := by decide +kernel
theorem dX5_bestWind_8 : decode cX5_bestWind 8 = .ok (.iconst 0, 1) := by decide +kernel
theorem dX5_bestWind_9 : decode cX5_bestWind 9 = .ok (.iconst 1, 1) := by decide +kernel
theorem dX5_bestWind_10 : decode cX5_bestWind 10 = .ok (.invokestatic 43, 3) := by decide +kernel
theorem dX5_bestWind_13 : decode cX5_bestWind 13 = .ok (.ifCond .ne 6, 3) := by decide +kernel
theorem dX5_bestWind_16 : decode cX5_bestWind 16 = .ok (.ldc 151, 2) := by decide +kernel
theorem dX5_bestWind_18 : decode cX5_bestWind 18 = .ok (.ireturn, 1) := by decide +kernel
theorem dX5_bestWind_19 : decode cX5_bestWind 19 = .ok (.iconst 0, 1) := by decide +kernel
theorem dX5_bestWind_20 : decode cX5_bestWind 20 = .ok (.istore_n 3, 1) := by decide +kernel
theorem dX5_bestWind_21 : decode cX5_bestWind 21 = .ok (.iconst (-1), 1) := by decide +kernel
theorem dX5_bestWind_22 : decode cX5_bestWind 22 = .ok (.istore 4, 2) := by decide +kernel
theorem dX5_bestWind_24 : decode cX5_bestWind 24 = .ok (.bipush (-9), 2) := by decide +kernel
theorem dX5_bestWind_26 : decode cX5_bestWind 26 = .ok (.istore 5, 2) := by decide +kernel
theorem dX5_bestWind_28 : decode cX5_bestWind 28 = .ok (.iload 5, 2) := by decide +kernel
theorem dX5_bestWind_30 : decode cX5_bestWind 30 = .ok (.bipush 10, 2) := by decide +kernel
theorem dX5_bestWind_32 : decode cX5_bestWind 32 = .ok (.if_icmp .ge 65, 3) := by decide +kernel
theorem dX5_bestWind_35 : decode cX5_bestWind 35 = .ok (.aload_n 0, 1) := by decide +kernel
theorem dX5_bestWind_36 : decode cX5_bestWind 36 = .ok (.getfield 9, 3) := by decide +kernel
theorem dX5_bestWind_39 : decode cX5_bestWind 39 = .ok (.aload_n 0, 1) := by decide +kernel
theorem dX5_bestWind_40 : decode cX5_bestWind 40 = .ok (.getfield 13, 3) := by decide +kernel
theorem dX5_bestWind_43 : decode cX5_bestWind 43 = .ok (.invokestatic 140, 3) := by decide +kernel
theorem dX5_bestWind_46 : decode cX5_bestWind 46 = .ok (.aload_n 0, 1) := by decide +kernel
theorem dX5_bestWind_47 : decode cX5_bestWind 47 = .ok (.getfield 13, 3) := by decide +kernel
theorem dX5_bestWind_50 : decode cX5_bestWind 50 = .ok (.iconst 2, 1) := by decide +kernel
theorem dX5_bestWind_51 : decode cX5_bestWind 51 = .ok (.iload 5, 2) := by decide +kernel
theorem dX5_bestWind_53 : decode cX5_bestWind 53 = .ok (.iastore, 1) := by decide +kernel
theorem dX5_bestWind_54 : decode cX5_bestWind 54 = .ok (.aload_n 0, 1) := by decide +kernel
theorem dX5_bestWind_55 : decode cX5_bestWind 55 = .ok (.getfield 13, 3) := by decide +kernel
theorem dX5_bestWind_58 : decode cX5_bestWind 58 = .ok (.iload_n 1, 1) := by decide +kernel
theorem dX5_bestWind_59 : decode cX5_bestWind 59 = .ok (.invokestatic 130, 3) := by decide +kernel
theorem dX5_bestWind_62 : decode cX5_bestWind 62 = .ok (.aload_n 0, 1) := by decide +kernel
theorem dX5_bestWind_63 : decode cX5_bestWind 63 = .ok (.getfield 13, 3) := by decide +kernel
theorem dX5_bestWind_66 : decode cX5_bestWind 66 = .ok (.iconst (-1), 1) := by decide +kernel
theorem dX5_bestWind_67 : decode cX5_bestWind 67 = .ok (.invokestatic 152, 3) := by decide +kernel
theorem dX5_bestWind_70 : decode cX5_bestWind 70 = .ok (.iload 4, 2) := by decide +kernel
theorem dX5_bestWind_72 : decode cX5_bestWind 72 = .ok (.if_icmp .gt 6, 3) := by decide +kernel
theorem dX5_bestWind_75 : decode cX5_bestWind 75 = .ok (.goto 16, 3) := by decide +kernel
theorem dX5_bestWind_78 : decode cX5_bestWind 78 = .ok (.iload 5, 2) := by decide +kernel
theorem dX5_bestWind_80 : decode cX5_bestWind 80 = .ok (.istore_n 3, 1) := by decide +kernel
theorem dX5_bestWind_81 : decode cX5_bestWind 81 = .ok (.aload_n 0, 1) := by decide +kernel
theorem dX5_bestWind_82 : decode cX5_bestWind 82 = .ok (.getfield 13, 3) := by decide +kernel
theorem dX5_bestWind_85 : decode cX5_bestWind 85 = .ok (.iconst (-1), 1) := by decide +kernel
theorem dX5_bestWind_86 : decode cX5_bestWind 86 = .ok (.invokestatic 152, 3) := by decide +kernel
theorem dX5_bestWind_89 : decode cX5_bestWind 89 = .ok (.istore 4, 2) := by decide +kernel
theorem dX5_bestWind_91 : decode cX5_bestWind 91 = .ok (.iinc 5 1, 3) := by decide +kernel
theorem dX5_bestWind_94 : decode cX5_bestWind 94 = .ok (.goto (-66), 3) := by decide +kernel
theorem dX5_bestWind_97 : decode cX5_bestWind 97 = .ok (.iload_n 2, 1) := by decide +kernel
theorem dX5_bestWind_98 : decode cX5_bestWind 98 = .ok (.ifCond .ne 7, 3) := by decide +kernel
theorem dX5_bestWind_101 : decode cX5_bestWind 101 = .ok (.iload_n 3, 1) := by decide +kernel
theorem dX5_bestWind_102 : decode cX5_bestWind 102 = .ok (.goto 5, 3) := by decide +kernel
theorem dX5_bestWind_105 : decode cX5_bestWind 105 = .ok (.iload 4, 2) := by decide +kernel
theorem dX5_bestWind_107 : decode cX5_bestWind 107 = .ok (.ireturn, 1) := by decide +kernel
theorem dX5_send_0 : decode cX5_send 0 = .ok (.aload_n 0, 1) := by decide +kernel
theorem dX5_send_1 : decode cX5_send 1 = .ok (.iload_n 1, 1) := by decide +kernel
theorem dX5_send_2 : decode cX5_send 2 = .ok (.invokevirtual 123, 3) := by decide +kernel
theorem dX5_send_5 : decode cX5_send 5 = .ok (.ifCond .eq 19, 3) := by decide +kernel
theorem dX5_send_8 : decode cX5_send 8 = .ok (.iload_n 2, 1) := by decide +kernel
theorem dX5_send_9 : decode cX5_send 9 = .ok (.invokestatic 155, 3) := by decide +kernel
theorem dX5_send_12 : decode cX5_send 12 = .ok (.ifCond .eq 12, 3) := by decide +kernel
theorem dX5_send_15 : decode cX5_send 15 = .ok (.iload_n 3, 1) := by decide +kernel
theorem dX5_send_16 : decode cX5_send 16 = .ok (.iconst 0, 1) := by decide +kernel
theorem dX5_send_17 : decode cX5_send 17 = .ok (.iconst 1, 1) := by decide +kernel
theorem dX5_send_18 : decode cX5_send 18 = .ok (.invokestatic 43, 3) := by decide +kernel
theorem dX5_send_21 : decode cX5_send 21 = .ok (.ifCond .ne 5, 3) := by decide +kernel
theorem dX5_send_24 : decode cX5_send 24 = .ok (.iconst (-1), 1) := by decide +kernel
theorem dX5_send_25 : decode cX5_send 25 = .ok (.ireturn, 1) := by decide +kernel
theorem dX5_send_26 : decode cX5_send 26 = .ok (.iconst 0, 1) := by decide +kernel
theorem dX5_send_27 : decode cX5_send 27 = .ok (.istore 4, 2) := by decide +kernel
theorem dX5_send_29 : decode cX5_send 29 = .ok (.iconst (-1), 1) := by decide +kernel
theorem dX5_send_30 : decode cX5_send 30 = .ok (.istore 5, 2) := by decide +kernel
theorem dX5_send_32 : decode cX5_send 32 = .ok (.iconst 0, 1) := by decide +kernel
theorem dX5_send_33 : decode cX5_send 33 = .ok (.istore 6, 2) := by decide +kernel
theorem dX5_send_35 : decode cX5_send 35 = .ok (.iload 6, 2) := by decide +kernel
theorem dX5_send_37 : decode cX5_send 37 = .ok (.bipush 10, 2) := by decide +kernel
theorem dX5_send_39 : decode cX5_send 39 = .ok (.if_icmp .ge 74, 3) := by decide +kernel
theorem dX5_send_42 : decode cX5_send 42 = .ok (.aload_n 0, 1) := by decide +kernel
theorem dX5_send_43 : decode cX5_send 43 = .ok (.getfield 9, 3) := by decide +kernel
theorem dX5_send_46 : decode cX5_send 46 = .ok (.aload_n 0, 1) := by decide +kernel
theorem dX5_send_47 : decode cX5_send 47 = .ok (.getfield 13, 3) := by decide +kernel
theorem dX5_send_50 : decode cX5_send 50 = .ok (.invokestatic 140, 3) := by decide +kernel
theorem dX5_send_53 : decode cX5_send 53 = .ok (.aload_n 0, 1) := by decide +kernel
theorem dX5_send_54 : decode cX5_send 54 = .ok (.getfield 13, 3) := by decide +kernel
theorem dX5_send_57 : decode cX5_send 57 = .ok (.iload_n 1, 1) := by decide +kernel
theorem dX5_send_58 : decode cX5_send 58 = .ok (.iconst 2, 1) := by decide +kernel
theorem dX5_send_59 : decode cX5_send 59 = .ok (.invokestatic 47, 3) := by decide +kernel
theorem dX5_send_62 : decode cX5_send 62 = .ok (.iload 6, 2) := by decide +kernel
theorem dX5_send_64 : decode cX5_send 64 = .ok (.iastore, 1) := by decide +kernel
theorem dX5_send_65 : decode cX5_send 65 = .ok (.aload_n 0, 1) := by decide +kernel
theorem dX5_send_66 : decode cX5_send 66 = .ok (.getfield 13, 3) := by decide +kernel
theorem dX5_send_69 : decode cX5_send 69 = .ok (.iload_n 2, 1) := by decide +kernel
theorem dX5_send_70 : decode cX5_send 70 = .ok (.invokestatic 130, 3) := by decide +kernel
theorem dX5_send_73 : decode cX5_send 73 = .ok (.aload_n 0, 1) := by decide +kernel
theorem dX5_send_74 : decode cX5_send 74 = .ok (.getfield 13, 3) := by decide +kernel
theorem dX5_send_77 : decode cX5_send 77 = .ok (.invokestatic 162, 3) := by decide +kernel
theorem dX5_send_80 : decode cX5_send 80 = .ok (.invokestatic 166, 3) := by decide +kernel
theorem dX5_send_83 : decode cX5_send 83 = .ok (.iload 5, 2) := by decide +kernel
theorem dX5_send_85 : decode cX5_send 85 = .ok (.if_icmp .gt 6, 3) := by decide +kernel
theorem dX5_send_88 : decode cX5_send 88 = .ok (.goto 19, 3) := by decide +kernel
theorem dX5_send_91 : decode cX5_send 91 = .ok (.iload 6, 2) := by decide +kernel
theorem dX5_send_93 : decode cX5_send 93 = .ok (.istore 4, 2) := by decide +kernel
theorem dX5_send_95 : decode cX5_send 95 = .ok (.aload_n 0, 1) := by decide +kernel
theorem dX5_send_96 : decode cX5_send 96 = .ok (.getfield 13, 3) := by decide +kernel
theorem dX5_send_99 : decode cX5_send 99 = .ok (.invokestatic 162, 3) := by decide +kernel
theorem dX5_send_102 : decode cX5_send 102 = .ok (.invokestatic 166, 3) := by decide +kernel
theorem dX5_send_105 : decode cX5_send 105 = .ok (.istore 5, 2) := by decide +kernel
theorem dX5_send_107 : decode cX5_send 107 = .ok (.iinc 6 1, 3) := by decide +kernel
theorem dX5_send_110 : decode cX5_send 110 = .ok (.goto (-75), 3) := by decide +kernel
theorem dX5_send_113 : decode cX5_send 113 = .ok (.iload_n 3, 1) := by decide +kernel
theorem dX5_send_114 : decode cX5_send 114 = .ok (.ifCond .ne 8, 3) := by decide +kernel
theorem dX5_send_117 : decode cX5_send 117 = .ok (.iload 4, 2) := by decide +kernel
theorem dX5_send_119 : decode cX5_send 119 = .ok (.goto 5, 3) := by decide +kernel
theorem dX5_send_122 : decode cX5_send 122 = .ok (.iload 5, 2) := by decide +kernel
theorem dX5_send_124 : decode cX5_send 124 = .ok (.ireturn, 1) := by decide +kernel
theorem dX5_idle_0 : decode cX5_idle 0 = .ok (.iload_n 1, 1) := by decide +kernel
theorem dX5_idle_1 : decode cX5_idle 1 = .ok (.invokestatic 155, 3) := by decide +kernel
theorem dX5_idle_4 : decode cX5_idle 4 = .ok (.ifCond .ne 5, 3) := by decide +kernel
theorem dX5_idle_7 : decode cX5_idle 7 = .ok (.iconst (-1), 1) := by decide +kernel
theorem dX5_idle_8 : decode cX5_idle 8 = .ok (.ireturn, 1) := by decide +kernel
theorem dX5_idle_9 : decode cX5_idle 9 = .ok (.aload_n 0, 1) := by decide +kernel
theorem dX5_idle_10 : decode cX5_idle 10 = .ok (.iload_n 1, 1) := by decide +kernel
theorem dX5_idle_11 : decode cX5_idle 11 = .ok (.invokevirtual 158, 3) := by decide +kernel
theorem dX5_idle_14 : decode cX5_idle 14 = .ok (.aload_n 0, 1) := by decide +kernel
theorem dX5_idle_15 : decode cX5_idle 15 = .ok (.getfield 13, 3) := by decide +kernel
theorem dX5_idle_18 : decode cX5_idle 18 = .ok (.iconst (-1), 1) := by decide +kernel
theorem dX5_idle_19 : decode cX5_idle 19 = .ok (.invokestatic 152, 3) := by decide +kernel
theorem dX5_idle_22 : decode cX5_idle 22 = .ok (.istore_n 2, 1) := by decide +kernel
theorem dX5_idle_23 : decode cX5_idle 23 = .ok (.iconst 0, 1) := by decide +kernel
theorem dX5_idle_24 : decode cX5_idle 24 = .ok (.istore_n 3, 1) := by decide +kernel
theorem dX5_idle_25 : decode cX5_idle 25 = .ok (.iload_n 3, 1) := by decide +kernel
theorem dX5_idle_26 : decode cX5_idle 26 = .ok (.aload_n 0, 1) := by decide +kernel
theorem dX5_idle_27 : decode cX5_idle 27 = .ok (.getfield 9, 3) := by decide +kernel
theorem dX5_idle_30 : decode cX5_idle 30 = .ok (.iconst 0, 1) := by decide +kernel
theorem dX5_idle_31 : decode cX5_idle 31 = .ok (.iaload, 1) := by decide +kernel
theorem dX5_idle_32 : decode cX5_idle 32 = .ok (.if_icmp .ge 53, 3) := by decide +kernel
theorem dX5_idle_35 : decode cX5_idle 35 = .ok (.aload_n 0, 1) := by decide +kernel
theorem dX5_idle_36 : decode cX5_idle 36 = .ok (.getfield 9, 3) := by decide +kernel
theorem dX5_idle_39 : decode cX5_idle 39 = .ok (.aload_n 0, 1) := by decide +kernel
theorem dX5_idle_40 : decode cX5_idle 40 = .ok (.getfield 13, 3) := by decide +kernel
theorem dX5_idle_43 : decode cX5_idle 43 = .ok (.invokestatic 140, 3) := by decide +kernel
theorem dX5_idle_46 : decode cX5_idle 46 = .ok (.aload_n 0, 1) := by decide +kernel
theorem dX5_idle_47 : decode cX5_idle 47 = .ok (.getfield 13, 3) := by decide +kernel
theorem dX5_idle_50 : decode cX5_idle 50 = .ok (.iload_n 3, 1) := by decide +kernel
theorem dX5_idle_51 : decode cX5_idle 51 = .ok (.iconst 5, 1) := by decide +kernel
theorem dX5_idle_52 : decode cX5_idle 52 = .ok (.invokestatic 47, 3) := by decide +kernel
theorem dX5_idle_55 : decode cX5_idle 55 = .ok (.iconst 1, 1) := by decide +kernel
theorem dX5_idle_56 : decode cX5_idle 56 = .ok (.iastore, 1) := by decide +kernel
theorem dX5_idle_57 : decode cX5_idle 57 = .ok (.aload_n 0, 1) := by decide +kernel
theorem dX5_idle_58 : decode cX5_idle 58 = .ok (.getfield 13, 3) := by decide +kernel
theorem dX5_idle_61 : decode cX5_idle 61 = .ok (.iload_n 1, 1) := by decide +kernel
theorem dX5_idle_62 : decode cX5_idle 62 = .ok (.invokestatic 130, 3) := by decide +kernel
theorem dX5_idle_65 : decode cX5_idle 65 = .ok (.aload_n 0, 1) := by decide +kernel
theorem dX5_idle_66 : decode cX5_idle 66 = .ok (.getfield 13, 3) := by decide +kernel
theorem dX5_idle_69 : decode cX5_idle 69 = .ok (.iconst (-1), 1) := by decide +kernel
theorem dX5_idle_70 : decode cX5_idle 70 = .ok (.invokestatic 152, 3) := by decide +kernel
theorem dX5_idle_73 : decode cX5_idle 73 = .ok (.iload_n 2, 1) := by decide +kernel
theorem dX5_idle_74 : decode cX5_idle 74 = .ok (.if_icmp .lt 5, 3) := by decide +kernel
theorem dX5_idle_77 : decode cX5_idle 77 = .ok (.iload_n 3, 1) := by decide +kernel
theorem dX5_idle_78 : decode cX5_idle 78 = .ok (.ireturn, 1) := by decide +kernel
theorem dX5_idle_79 : decode cX5_idle 79 = .ok (.iinc 3 1, 3) := by decide +kernel
theorem dX5_idle_82 : decode cX5_idle 82 = .ok (.goto (-57), 3) := by decide +kernel
theorem dX5_idle_85 : decode cX5_idle 85 = .ok (.bipush (-4), 2) := by decide +kernel
theorem dX5_idle_87 : decode cX5_idle 87 = .ok (.ireturn, 1) := by decide +kernel
theorem dX5_slowest_0 : decode cX5_slowest 0 = .ok (.iload_n 1, 1) := by decide +kernel
theorem dX5_slowest_1 : decode cX5_slowest 1 = .ok (.invokestatic 155, 3) := by decide +kernel
theorem dX5_slowest_4 : decode cX5_slowest 4 = .ok (.ifCond .ne 5, 3) := by decide +kernel
theorem dX5_slowest_7 : decode cX5_slowest 7 = .ok (.iconst (-1), 1) := by decide +kernel
theorem dX5_slowest_8 : decode cX5_slowest 8 = .ok (.ireturn, 1) := by decide +kernel
theorem dX5_slowest_9 : decode cX5_slowest 9 = .ok (.aload_n 0, 1) := by decide +kernel
theorem dX5_slowest_10 : decode cX5_slowest 10 = .ok (.iload_n 1, 1) := by decide +kernel
theorem dX5_slowest_11 : decode cX5_slowest 11 = .ok (.invokevirtual 158, 3) := by decide +kernel
theorem dX5_slowest_14 : decode cX5_slowest 14 = .ok (.bipush (-4), 2) := by decide +kernel
theorem dX5_slowest_16 : decode cX5_slowest 16 = .ok (.istore_n 2, 1) := by decide +kernel
theorem dX5_slowest_17 : decode cX5_slowest 17 = .ok (.ldc 169, 2) := by decide +kernel
theorem dX5_slowest_19 : decode cX5_slowest 19 = .ok (.istore_n 3, 1) := by decide +kernel
theorem dX5_slowest_20 : decode cX5_slowest 20 = .ok (.iconst 0, 1) := by decide +kernel
theorem dX5_slowest_21 : decode cX5_slowest 21 = .ok (.istore 4, 2) := by decide +kernel
theorem dX5_slowest_23 : decode cX5_slowest 23 = .ok (.iload 4, 2) := by decide +kernel
theorem dX5_slowest_25 : decode cX5_slowest 25 = .ok (.aload_n 0, 1) := by decide +kernel
theorem dX5_slowest_26 : decode cX5_slowest 26 = .ok (.getfield 9, 3) := by decide +kernel
theorem dX5_slowest_29 : decode cX5_slowest 29 = .ok (.iconst 0, 1) := by decide +kernel
theorem dX5_slowest_30 : decode cX5_slowest 30 = .ok (.iaload, 1) := by decide +kernel
theorem dX5_slowest_31 : decode cX5_slowest 31 = .ok (.if_icmp .ge 49, 3) := by decide +kernel
theorem dX5_slowest_34 : decode cX5_slowest 34 = .ok (.aload_n 0, 1) := by decide +kernel
theorem dX5_slowest_35 : decode cX5_slowest 35 = .ok (.getfield 13, 3) := by decide +kernel
theorem dX5_slowest_38 : decode cX5_slowest 38 = .ok (.iload 4, 2) := by decide +kernel
theorem dX5_slowest_40 : decode cX5_slowest 40 = .ok (.iconst 4, 1) := by decide +kernel
theorem dX5_slowest_41 : decode cX5_slowest 41 = .ok (.invokestatic 47, 3) := by decide +kernel
theorem dX5_slowest_44 : decode cX5_slowest 44 = .ok (.iaload, 1) := by decide +kernel
theorem dX5_slowest_45 : decode cX5_slowest 45 = .ok (.aload_n 0, 1) := by decide +kernel
theorem dX5_slowest_46 : decode cX5_slowest 46 = .ok (.getfield 9, 3) := by decide +kernel
theorem dX5_slowest_49 : decode cX5_slowest 49 = .ok (.iload 4, 2) := by decide +kernel
theorem dX5_slowest_51 : decode cX5_slowest 51 = .ok (.iconst 4, 1) := by decide +kernel
theorem dX5_slowest_52 : decode cX5_slowest 52 = .ok (.invokestatic 47, 3) := by decide +kernel
theorem dX5_slowest_55 : decode cX5_slowest 55 = .ok (.iaload, 1) := by decide +kernel
theorem dX5_slowest_56 : decode cX5_slowest 56 = .ok (.isub, 1) := by decide +kernel
theorem dX5_slowest_57 : decode cX5_slowest 57 = .ok (.istore 5, 2) := by decide +kernel
theorem dX5_slowest_59 : decode cX5_slowest 59 = .ok (.iload 5, 2) := by decide +kernel
theorem dX5_slowest_61 : decode cX5_slowest 61 = .ok (.iload_n 3, 1) := by decide +kernel
theorem dX5_slowest_62 : decode cX5_slowest 62 = .ok (.if_icmp .lt 6, 3) := by decide +kernel
theorem dX5_slowest_65 : decode cX5_slowest 65 = .ok (.goto 9, 3) := by decide +kernel
theorem dX5_slowest_68 : decode cX5_slowest 68 = .ok (.iload 4, 2) := by decide +kernel
theorem dX5_slowest_70 : decode cX5_slowest 70 = .ok (.istore_n 2, 1) := by decide +kernel
theorem dX5_slowest_71 : decode cX5_slowest 71 = .ok (.iload 5, 2) := by decide +kernel
theorem dX5_slowest_73 : decode cX5_slowest 73 = .ok (.istore_n 3, 1) := by decide +kernel
theorem dX5_slowest_74 : decode cX5_slowest 74 = .ok (.iinc 4 1, 3) := by decide +kernel
theorem dX5_slowest_77 : decode cX5_slowest 77 = .ok (.goto (-54), 3) := by decide +kernel
theorem dX5_slowest_80 : decode cX5_slowest 80 = .ok (.iload_n 2, 1) := by decide +kernel
theorem dX5_slowest_81 : decode cX5_slowest 81 = .ok (.ireturn, 1) := by decide +kernel
theorem dX5_lost_0 : decode cX5_lost 0 = .ok (.iload_n 1, 1) := by decide +kernel
theorem dX5_lost_1 : decode cX5_lost 1 = .ok (.invokestatic 155, 3) := by decide +kernel
theorem dX5_lost_4 : decode cX5_lost 4 = .ok (.ifCond .ne 5, 3) := by decide +kernel
theorem dX5_lost_7 : decode cX5_lost 7 = .ok (.iconst (-1), 1) := by decide +kernel
theorem dX5_lost_8 : decode cX5_lost 8 = .ok (.ireturn, 1) := by decide +kernel
theorem dX5_lost_9 : decode cX5_lost 9 = .ok (.aload_n 0, 1) := by decide +kernel
theorem dX5_lost_10 : decode cX5_lost 10 = .ok (.iload_n 1, 1) := by decide +kernel
theorem dX5_lost_11 : decode cX5_lost 11 = .ok (.invokevirtual 158, 3) := by decide +kernel
theorem dX5_lost_14 : decode cX5_lost 14 = .ok (.aload_n 0, 1) := by decide +kernel
theorem dX5_lost_15 : decode cX5_lost 15 = .ok (.getfield 13, 3) := by decide +kernel
theorem dX5_lost_18 : decode cX5_lost 18 = .ok (.iconst 3, 1) := by decide +kernel
theorem dX5_lost_19 : decode cX5_lost 19 = .ok (.iaload, 1) := by decide +kernel
theorem dX5_lost_20 : decode cX5_lost 20 = .ok (.ireturn, 1) := by decide +kernel
theorem dX5_heap_0 : decode cX5_heap 0 = .ok (.iload_n 1, 1) := by decide +kernel
theorem dX5_heap_1 : decode cX5_heap 1 = .ok (.invokestatic 155, 3) := by decide +kernel
theorem dX5_heap_4 : decode cX5_heap 4 = .ok (.ifCond .eq 12, 3) := by decide +kernel
theorem dX5_heap_7 : decode cX5_heap 7 = .ok (.iload_n 2, 1) := by decide +kernel
theorem dX5_heap_8 : decode cX5_heap 8 = .ok (.iconst 0, 1) := by decide +kernel
theorem dX5_heap_9 : decode cX5_heap 9 = .ok (.iconst 1, 1) := by decide +kernel
theorem dX5_heap_10 : decode cX5_heap 10 = .ok (.invokestatic 43, 3) := by decide +kernel
theorem dX5_heap_13 : decode cX5_heap 13 = .ok (.ifCond .ne 5, 3) := by decide +kernel
theorem dX5_heap_16 : decode cX5_heap 16 = .ok (.iconst (-1), 1) := by decide +kernel
theorem dX5_heap_17 : decode cX5_heap 17 = .ok (.ireturn, 1) := by decide +kernel
theorem dX5_heap_18 : decode cX5_heap 18 = .ok (.aload_n 0, 1) := by decide +kernel
theorem dX5_heap_19 : decode cX5_heap 19 = .ok (.iload_n 1, 1) := by decide +kernel
theorem dX5_heap_20 : decode cX5_heap 20 = .ok (.invokevirtual 158, 3) := by decide +kernel
theorem dX5_heap_23 : decode cX5_heap 23 = .ok (.iconst 0, 1) := by decide +kernel
theorem dX5_heap_24 : decode cX5_heap 24 = .ok (.istore_n 3, 1) := by decide +kernel
theorem dX5_heap_25 : decode cX5_heap 25 = .ok (.iconst 0, 1) := by decide +kernel
theorem dX5_heap_26 : decode cX5_heap 26 = .ok (.istore 4, 2) := by decide +kernel
theorem dX5_heap_28 : decode cX5_heap 28 = .ok (.iload 4, 2) := by decide +kernel
theorem dX5_heap_30 : decode cX5_heap 30 = .ok (.bipush 10, 2) := by decide +kernel
theorem dX5_heap_32 : decode cX5_heap 32 = .ok (.if_icmp .ge 32, 3) := by decide +kernel
theorem dX5_heap_35 : decode cX5_heap 35 = .ok (.aload_n 0, 1) := by decide +kernel
theorem dX5_heap_36 : decode cX5_heap 36 = .ok (.getfield 13, 3) := by decide +kernel
theorem dX5_heap_39 : decode cX5_heap 39 = .ok (.iconst 5, 1) := by decide +kernel
theorem dX5_heap_40 : decode cX5_heap 40 = .ok (.iload 4, 2) := by decide +kernel
theorem dX5_heap_42 : decode cX5_heap 42 = .ok (.iadd, 1) := by decide +kernel
theorem dX5_heap_43 : decode cX5_heap 43 = .ok (.iaload, 1) := by decide +kernel
theorem dX5_heap_44 : decode cX5_heap 44 = .ok (.aload_n 0, 1) := by decide +kernel
theorem dX5_heap_45 : decode cX5_heap 45 = .ok (.getfield 13, 3) := by decide +kernel
theorem dX5_heap_48 : decode cX5_heap 48 = .ok (.iconst 5, 1) := by decide +kernel
theorem dX5_heap_49 : decode cX5_heap 49 = .ok (.iload_n 3, 1) := by decide +kernel
theorem dX5_heap_50 : decode cX5_heap 50 = .ok (.iadd, 1) := by decide +kernel
theorem dX5_heap_51 : decode cX5_heap 51 = .ok (.iaload, 1) := by decide +kernel
theorem dX5_heap_52 : decode cX5_heap 52 = .ok (.if_icmp .le 6, 3) := by decide +kernel
theorem dX5_heap_55 : decode cX5_heap 55 = .ok (.iload 4, 2) := by decide +kernel
theorem dX5_heap_57 : decode cX5_heap 57 = .ok (.istore_n 3, 1) := by decide +kernel
theorem dX5_heap_58 : decode cX5_heap 58 = .ok (.iinc 4 1, 3) := by decide +kernel
theorem dX5_heap_61 : decode cX5_heap 61 = .ok (.goto (-33), 3) := by decide +kernel
theorem dX5_heap_64 : decode cX5_heap 64 = .ok (.iload_n 2, 1) := by decide +kernel
theorem dX5_heap_65 : decode cX5_heap 65 = .ok (.ifCond .ne 7, 3) := by decide +kernel
theorem dX5_heap_68 : decode cX5_heap 68 = .ok (.iload_n 3, 1) := by decide +kernel
theorem dX5_heap_69 : decode cX5_heap 69 = .ok (.goto 11, 3) := by decide +kernel
theorem dX5_heap_72 : decode cX5_heap 72 = .ok (.aload_n 0, 1) := by decide +kernel
theorem dX5_heap_73 : decode cX5_heap 73 = .ok (.getfield 13, 3) := by decide +kernel
theorem dX5_heap_76 : decode cX5_heap 76 = .ok (.iconst 5, 1) := by decide +kernel
theorem dX5_heap_77 : decode cX5_heap 77 = .ok (.iload_n 3, 1) := by decide +kernel
theorem dX5_heap_78 : decode cX5_heap 78 = .ok (.iadd, 1) := by decide +kernel
theorem dX5_heap_79 : decode cX5_heap 79 = .ok (.iaload, 1) := by decide +kernel
theorem dX5_heap_80 : decode cX5_heap 80 = .ok (.ireturn, 1) := by decide +kernel
theorem dX5_begin_0 : decode cX5_begin 0 = .ok (.aload_n 0, 1) := by decide +kernel
theorem dX5_begin_1 : decode cX5_begin 1 = .ok (.iload_n 1, 1) := by decide +kernel
theorem dX5_begin_2 : decode cX5_begin 2 = .ok (.invokevirtual 123, 3) := by decide +kernel
theorem dX5_begin_5 : decode cX5_begin 5 = .ok (.ifCond .eq 10, 3) := by decide +kernel
theorem dX5_begin_8 : decode cX5_begin 8 = .ok (.iload_n 2, 1) := by decide +kernel
theorem dX5_begin_9 : decode cX5_begin 9 = .ok (.invokestatic 155, 3) := by decide +kernel
theorem dX5_begin_12 : decode cX5_begin 12 = .ok (.ifCond .ne 5, 3) := by decide +kernel
theorem dX5_begin_15 : decode cX5_begin 15 = .ok (.iconst (-1), 1) := by decide +kernel
theorem dX5_begin_16 : decode cX5_begin 16 = .ok (.ireturn, 1) := by decide +kernel
theorem dX5_begin_17 : decode cX5_begin 17 = .ok (.iconst 0, 1) := by decide +kernel
theorem dX5_begin_18 : decode cX5_begin 18 = .ok (.istore_n 3, 1) := by decide +kernel
theorem dX5_begin_19 : decode cX5_begin 19 = .ok (.iconst (-1), 1) := by decide +kernel
theorem dX5_begin_20 : decode cX5_begin 20 = .ok (.istore 4, 2) := by decide +kernel
theorem dX5_begin_22 : decode cX5_begin 22 = .ok (.iconst 0, 1) := by decide +kernel
theorem dX5_begin_23 : decode cX5_begin 23 = .ok (.istore 5, 2) := by decide +kernel
theorem dX5_begin_25 : decode cX5_begin 25 = .ok (.iload 5, 2) := by decide +kernel
theorem dX5_begin_27 : decode cX5_begin 27 = .ok (.bipush 20, 2) := by decide +kernel
theorem dX5_begin_29 : decode cX5_begin 29 = .ok (.if_icmp .ge 91, 3) := by decide +kernel
theorem dX5_begin_32 : decode cX5_begin 32 = .ok (.aload_n 0, 1) := by decide +kernel
theorem dX5_begin_33 : decode cX5_begin 33 = .ok (.getfield 9, 3) := by decide +kernel
theorem dX5_begin_36 : decode cX5_begin 36 = .ok (.aload_n 0, 1) := by decide +kernel
theorem dX5_begin_37 : decode cX5_begin 37 = .ok (.getfield 13, 3) := by decide +kernel
theorem dX5_begin_40 : decode cX5_begin 40 = .ok (.invokestatic 140, 3) := by decide +kernel
theorem dX5_begin_43 : decode cX5_begin 43 = .ok (.aload_n 0, 1) := by decide +kernel
theorem dX5_begin_44 : decode cX5_begin 44 = .ok (.getfield 13, 3) := by decide +kernel
theorem dX5_begin_47 : decode cX5_begin 47 = .ok (.iload_n 1, 1) := by decide +kernel
theorem dX5_begin_48 : decode cX5_begin 48 = .ok (.iconst 3, 1) := by decide +kernel
theorem dX5_begin_49 : decode cX5_begin 49 = .ok (.invokestatic 47, 3) := by decide +kernel
theorem dX5_begin_52 : decode cX5_begin 52 = .ok (.iload 5, 2) := by decide +kernel
theorem dX5_begin_54 : decode cX5_begin 54 = .ok (.bipush 10, 2) := by decide +kernel
theorem dX5_begin_56 : decode cX5_begin 56 = .ok (.idiv, 1) := by decide +kernel
theorem dX5_begin_57 : decode cX5_begin 57 = .ok (.iastore, 1) := by decide +kernel
theorem dX5_begin_58 : decode cX5_begin 58 = .ok (.aload_n 0, 1) := by decide +kernel
theorem dX5_begin_59 : decode cX5_begin 59 = .ok (.getfield 13, 3) := by decide +kernel
theorem dX5_begin_62 : decode cX5_begin 62 = .ok (.iload_n 1, 1) := by decide +kernel
theorem dX5_begin_63 : decode cX5_begin 63 = .ok (.iconst 2, 1) := by decide +kernel
theorem dX5_begin_64 : decode cX5_begin 64 = .ok (.invokestatic 47, 3) := by decide +kernel
theorem dX5_begin_67 : decode cX5_begin 67 = .ok (.iload 5, 2) := by decide +kernel
theorem dX5_begin_69 : decode cX5_begin 69 = .ok (.bipush 10, 2) := by decide +kernel
theorem dX5_begin_71 : decode cX5_begin 71 = .ok (.irem, 1) := by decide +kernel
theorem dX5_begin_72 : decode cX5_begin 72 = .ok (.iastore, 1) := by decide +kernel
theorem dX5_begin_73 : decode cX5_begin 73 = .ok (.aload_n 0, 1) := by decide +kernel
theorem dX5_begin_74 : decode cX5_begin 74 = .ok (.getfield 13, 3) := by decide +kernel
theorem dX5_begin_77 : decode cX5_begin 77 = .ok (.iload_n 2, 1) := by decide +kernel
theorem dX5_begin_78 : decode cX5_begin 78 = .ok (.invokestatic 130, 3) := by decide +kernel
theorem dX5_begin_81 : decode cX5_begin 81 = .ok (.aload_n 0, 1) := by decide +kernel
theorem dX5_begin_82 : decode cX5_begin 82 = .ok (.getfield 13, 3) := by decide +kernel
theorem dX5_begin_85 : decode cX5_begin 85 = .ok (.iload_n 1, 1) := by decide +kernel
theorem dX5_begin_86 : decode cX5_begin 86 = .ok (.iconst 4, 1) := by decide +kernel
theorem dX5_begin_87 : decode cX5_begin 87 = .ok (.invokestatic 47, 3) := by decide +kernel
theorem dX5_begin_90 : decode cX5_begin 90 = .ok (.iaload, 1) := by decide +kernel
theorem dX5_begin_91 : decode cX5_begin 91 = .ok (.iload 4, 2) := by decide +kernel
theorem dX5_begin_93 : decode cX5_begin 93 = .ok (.if_icmp .gt 6, 3) := by decide +kernel
theorem dX5_begin_96 : decode cX5_begin 96 = .ok (.goto 18, 3) := by decide +kernel
theorem dX5_begin_99 : decode cX5_begin 99 = .ok (.iload 5, 2) := by decide +kernel
theorem dX5_begin_101 : decode cX5_begin 101 = .ok (.istore_n 3, 1) := by decide +kernel
theorem dX5_begin_102 : decode cX5_begin 102 = .ok (.aload_n 0, 1) := by decide +kernel
theorem dX5_begin_103 : decode cX5_begin 103 = .ok (.getfield 13, 3) := by decide +kernel
theorem dX5_begin_106 : decode cX5_begin 106 = .ok (.iload_n 1, 1) := by decide +kernel
theorem dX5_begin_107 : decode cX5_begin 107 = .ok (.iconst 4, 1) := by decide +kernel
theorem dX5_begin_108 : decode cX5_begin 108 = .ok (.invokestatic 47, 3) := by decide +kernel
theorem dX5_begin_111 : decode cX5_begin 111 = .ok (.iaload, 1) := by decide +kernel
theorem dX5_begin_112 : decode cX5_begin 112 = .ok (.istore 4, 2) := by decide +kernel
theorem dX5_begin_114 : decode cX5_begin 114 = .ok (.iinc 5 1, 3) := by decide +kernel
theorem dX5_begin_117 : decode cX5_begin 117 = .ok (.goto (-92), 3) := by decide +kernel
theorem dX5_begin_120 : decode cX5_begin 120 = .ok (.iload_n 3, 1) := by decide +kernel
theorem dX5_begin_121 : decode cX5_begin 121 = .ok (.ireturn, 1) := by decide +kernel
theorem dX5_pairsFrom_0 : decode cX5_pairsFrom 0 = .ok (.iload_n 1, 1) := by decide +kernel
theorem dX5_pairsFrom_1 : decode cX5_pairsFrom 1 = .ok (.aload_n 0, 1) := by decide +kernel
theorem dX5_pairsFrom_2 : decode cX5_pairsFrom 2 = .ok (.getfield 9, 3) := by decide +kernel
theorem dX5_pairsFrom_5 : decode cX5_pairsFrom 5 = .ok (.iconst 0, 1) := by decide +kernel
theorem dX5_pairsFrom_6 : decode cX5_pairsFrom 6 = .ok (.iaload, 1) := by decide +kernel
theorem dX5_pairsFrom_7 : decode cX5_pairsFrom 7 = .ok (.if_icmp .ne 5, 3) := by decide +kernel
theorem dX5_pairsFrom_10 : decode cX5_pairsFrom 10 = .ok (.iconst 0, 1) := by decide +kernel
theorem dX5_pairsFrom_11 : decode cX5_pairsFrom 11 = .ok (.ireturn, 1) := by decide +kernel
theorem dX5_pairsFrom_12 : decode cX5_pairsFrom 12 = .ok (.aload_n 0, 1) := by decide +kernel
theorem dX5_pairsFrom_13 : decode cX5_pairsFrom 13 = .ok (.iload_n 1, 1) := by decide +kernel
theorem dX5_pairsFrom_14 : decode cX5_pairsFrom 14 = .ok (.iconst 1, 1) := by decide +kernel
theorem dX5_pairsFrom_15 : decode cX5_pairsFrom 15 = .ok (.iadd, 1) := by decide +kernel
theorem dX5_pairsFrom_16 : decode cX5_pairsFrom 16 = .ok (.iload_n 2, 1) := by decide +kernel
theorem dX5_pairsFrom_17 : decode cX5_pairsFrom 17 = .ok (.invokevirtual 170, 3) := by decide +kernel
theorem dX5_pairsFrom_20 : decode cX5_pairsFrom 20 = .ok (.istore_n 3, 1) := by decide +kernel
theorem dX5_pairsFrom_21 : decode cX5_pairsFrom 21 = .ok (.iconst 0, 1) := by decide +kernel
theorem dX5_pairsFrom_22 : decode cX5_pairsFrom 22 = .ok (.istore 4, 2) := by decide +kernel
theorem dX5_pairsFrom_24 : decode cX5_pairsFrom 24 = .ok (.iload 4, 2) := by decide +kernel
theorem dX5_pairsFrom_26 : decode cX5_pairsFrom 26 = .ok (.aload_n 0, 1) := by decide +kernel
theorem dX5_pairsFrom_27 : decode cX5_pairsFrom 27 = .ok (.getfield 9, 3) := by decide +kernel
theorem dX5_pairsFrom_30 : decode cX5_pairsFrom 30 = .ok (.iconst 0, 1) := by decide +kernel
theorem dX5_pairsFrom_31 : decode cX5_pairsFrom 31 = .ok (.iaload, 1) := by decide +kernel
theorem dX5_pairsFrom_32 : decode cX5_pairsFrom 32 = .ok (.if_icmp .ge 99, 3) := by decide +kernel
theorem dX5_pairsFrom_35 : decode cX5_pairsFrom 35 = .ok (.aload_n 0, 1) := by decide +kernel
theorem dX5_pairsFrom_36 : decode cX5_pairsFrom 36 = .ok (.getfield 9, 3) := by decide +kernel
theorem dX5_pairsFrom_39 : decode cX5_pairsFrom 39 = .ok (.iload_n 1, 1) := by decide +kernel
theorem dX5_pairsFrom_40 : decode cX5_pairsFrom 40 = .ok (.iconst 3, 1) := by decide +kernel
theorem dX5_pairsFrom_41 : decode cX5_pairsFrom 41 = .ok (.invokestatic 47, 3) := by decide +kernel
theorem dX5_pairsFrom_44 : decode cX5_pairsFrom 44 = .ok (.iaload, 1) := by decide +kernel
theorem dX5_pairsFrom_45 : decode cX5_pairsFrom 45 = .ok (.ifCond .ne 86, 3) := by decide +kernel
theorem dX5_pairsFrom_48 : decode cX5_pairsFrom 48 = .ok (.aload_n 0, 1) := by decide +kernel
theorem dX5_pairsFrom_49 : decode cX5_pairsFrom 49 = .ok (.getfield 9, 3) := by decide +kernel
theorem dX5_pairsFrom_52 : decode cX5_pairsFrom 52 = .ok (.iload 4, 2) := by decide +kernel
theorem dX5_pairsFrom_54 : decode cX5_pairsFrom 54 = .ok (.iconst 3, 1) := by decide +kernel
theorem dX5_pairsFrom_55 : decode cX5_pairsFrom 55 = .ok (.invokestatic 47, 3) := by decide +kernel
theorem dX5_pairsFrom_58 : decode cX5_pairsFrom 58 = .ok (.iaload, 1) := by decide +kernel
theorem dX5_pairsFrom_59 : decode cX5_pairsFrom 59 = .ok (.ifCond .eq 66, 3) := by decide +kernel
theorem dX5_pairsFrom_62 : decode cX5_pairsFrom 62 = .ok (.iload_n 2, 1) := by decide +kernel
theorem dX5_pairsFrom_63 : decode cX5_pairsFrom 63 = .ok (.iload 4, 2) := by decide +kernel
theorem dX5_pairsFrom_65 : decode cX5_pairsFrom 65 = .ok (.invokestatic 69, 3) := by decide +kernel
theorem dX5_pairsFrom_68 : decode cX5_pairsFrom 68 = .ok (.ifCond .ne 57, 3) := by decide +kernel
theorem dX5_pairsFrom_71 : decode cX5_pairsFrom 71 = .ok (.aload_n 0, 1) := by decide +kernel
theorem dX5_pairsFrom_72 : decode cX5_pairsFrom 72 = .ok (.getfield 9, 3) := by decide +kernel
theorem dX5_pairsFrom_75 : decode cX5_pairsFrom 75 = .ok (.iload_n 1, 1) := by decide +kernel
theorem dX5_pairsFrom_76 : decode cX5_pairsFrom 76 = .ok (.iconst 2, 1) := by decide +kernel
theorem dX5_pairsFrom_77 : decode cX5_pairsFrom 77 = .ok (.invokestatic 47, 3) := by decide +kernel
theorem dX5_pairsFrom_80 : decode cX5_pairsFrom 80 = .ok (.iaload, 1) := by decide +kernel
theorem dX5_pairsFrom_81 : decode cX5_pairsFrom 81 = .ok (.aload_n 0, 1) := by decide +kernel
theorem dX5_pairsFrom_82 : decode cX5_pairsFrom 82 = .ok (.getfield 9, 3) := by decide +kernel
theorem dX5_pairsFrom_85 : decode cX5_pairsFrom 85 = .ok (.iload 4, 2) := by decide +kernel
theorem dX5_pairsFrom_87 : decode cX5_pairsFrom 87 = .ok (.iconst 2, 1) := by decide +kernel
theorem dX5_pairsFrom_88 : decode cX5_pairsFrom 88 = .ok (.invokestatic 47, 3) := by decide +kernel
theorem dX5_pairsFrom_91 : decode cX5_pairsFrom 91 = .ok (.iaload, 1) := by decide +kernel
theorem dX5_pairsFrom_92 : decode cX5_pairsFrom 92 = .ok (.isub, 1) := by decide +kernel
theorem dX5_pairsFrom_93 : decode cX5_pairsFrom 93 = .ok (.bipush (-3), 2) := by decide +kernel
theorem dX5_pairsFrom_95 : decode cX5_pairsFrom 95 = .ok (.iconst 3, 1) := by decide +kernel
theorem dX5_pairsFrom_96 : decode cX5_pairsFrom 96 = .ok (.invokestatic 43, 3) := by decide +kernel
theorem dX5_pairsFrom_99 : decode cX5_pairsFrom 99 = .ok (.ifCond .ne 6, 3) := by decide +kernel
theorem dX5_pairsFrom_102 : decode cX5_pairsFrom 102 = .ok (.goto 23, 3) := by decide +kernel
theorem dX5_pairsFrom_105 : decode cX5_pairsFrom 105 = .ok (.iload_n 3, 1) := by decide +kernel
theorem dX5_pairsFrom_106 : decode cX5_pairsFrom 106 = .ok (.iconst 1, 1) := by decide +kernel
theorem dX5_pairsFrom_107 : decode cX5_pairsFrom 107 = .ok (.aload_n 0, 1) := by decide +kernel
theorem dX5_pairsFrom_108 : decode cX5_pairsFrom 108 = .ok (.iload_n 1, 1) := by decide +kernel
theorem dX5_pairsFrom_109 : decode cX5_pairsFrom 109 = .ok (.iconst 1, 1) := by decide +kernel
theorem dX5_pairsFrom_110 : decode cX5_pairsFrom 110 = .ok (.iadd, 1) := by decide +kernel
theorem dX5_pairsFrom_111 : decode cX5_pairsFrom 111 = .ok (.iload_n 2, 1) := by decide +kernel
theorem dX5_pairsFrom_112 : decode cX5_pairsFrom 112 = .ok (.iconst 1, 1) := by decide +kernel
theorem dX5_pairsFrom_113 : decode cX5_pairsFrom 113 = .ok (.iload 4, 2) := by decide +kernel
theorem dX5_pairsFrom_115 : decode cX5_pairsFrom 115 = .ok (.ishl, 1) := by decide +kernel
theorem dX5_pairsFrom_116 : decode cX5_pairsFrom 116 = .ok (.ior, 1) := by decide +kernel
theorem dX5_pairsFrom_117 : decode cX5_pairsFrom 117 = .ok (.invokevirtual 170, 3) := by decide +kernel
theorem dX5_pairsFrom_120 : decode cX5_pairsFrom 120 = .ok (.iadd, 1) := by decide +kernel
theorem dX5_pairsFrom_121 : decode cX5_pairsFrom 121 = .ok (.invokestatic 58, 3) := by decide +kernel
theorem dX5_pairsFrom_124 : decode cX5_pairsFrom 124 = .ok (.istore_n 3, 1) := by decide +kernel
theorem dX5_pairsFrom_125 : decode cX5_pairsFrom 125 = .ok (.iinc 4 1, 3) := by decide +kernel
theorem dX5_pairsFrom_128 : decode cX5_pairsFrom 128 = .ok (.goto (-104), 3) := by decide +kernel
theorem dX5_pairsFrom_131 : decode cX5_pairsFrom 131 = .ok (.iload_n 3, 1) := by decide +kernel
theorem dX5_pairsFrom_132 : decode cX5_pairsFrom 132 = .ok (.ireturn, 1) := by decide +kernel
theorem dX5_pairs_0 : decode cX5_pairs 0 = .ok (.aload_n 0, 1) := by decide +kernel
theorem dX5_pairs_1 : decode cX5_pairs 1 = .ok (.iconst 0, 1) := by decide +kernel
theorem dX5_pairs_2 : decode cX5_pairs 2 = .ok (.iconst 0, 1) := by decide +kernel
theorem dX5_pairs_3 : decode cX5_pairs 3 = .ok (.invokevirtual 170, 3) := by decide +kernel
theorem dX5_pairs_6 : decode cX5_pairs 6 = .ok (.ireturn, 1) := by decide +kernel
theorem dX5_unevenAt_0 : decode cX5_unevenAt 0 = .ok (.iconst 0, 1) := by decide +kernel
theorem dX5_unevenAt_1 : decode cX5_unevenAt 1 = .ok (.istore_n 2, 1) := by decide +kernel
theorem dX5_unevenAt_2 : decode cX5_unevenAt 2 = .ok (.iconst 0, 1) := by decide +kernel
theorem dX5_unevenAt_3 : decode cX5_unevenAt 3 = .ok (.istore_n 3, 1) := by decide +kernel
theorem dX5_unevenAt_4 : decode cX5_unevenAt 4 = .ok (.iload_n 3, 1) := by decide +kernel
theorem dX5_unevenAt_5 : decode cX5_unevenAt 5 = .ok (.bipush 10, 2) := by decide +kernel
theorem dX5_unevenAt_7 : decode cX5_unevenAt 7 = .ok (.if_icmp .ge 37, 3) := by decide +kernel
theorem dX5_unevenAt_10 : decode cX5_unevenAt 10 = .ok (.iload_n 2, 1) := by decide +kernel
theorem dX5_unevenAt_11 : decode cX5_unevenAt 11 = .ok (.iload_n 3, 1) := by decide +kernel
theorem dX5_unevenAt_12 : decode cX5_unevenAt 12 = .ok (.iload_n 1, 1) := by decide +kernel
theorem dX5_unevenAt_13 : decode cX5_unevenAt 13 = .ok (.if_icmp .gt 14, 3) := by decide +kernel
theorem dX5_unevenAt_16 : decode cX5_unevenAt 16 = .ok (.aload_n 0, 1) := by decide +kernel
theorem dX5_unevenAt_17 : decode cX5_unevenAt 17 = .ok (.getfield 9, 3) := by decide +kernel
theorem dX5_unevenAt_20 : decode cX5_unevenAt 20 = .ok (.iconst 5, 1) := by decide +kernel
theorem dX5_unevenAt_21 : decode cX5_unevenAt 21 = .ok (.iload_n 3, 1) := by decide +kernel
theorem dX5_unevenAt_22 : decode cX5_unevenAt 22 = .ok (.iadd, 1) := by decide +kernel
theorem dX5_unevenAt_23 : decode cX5_unevenAt 23 = .ok (.iaload, 1) := by decide +kernel
theorem dX5_unevenAt_24 : decode cX5_unevenAt 24 = .ok (.goto 12, 3) := by decide +kernel
theorem dX5_unevenAt_27 : decode cX5_unevenAt 27 = .ok (.aload_n 0, 1) := by decide +kernel
theorem dX5_unevenAt_28 : decode cX5_unevenAt 28 = .ok (.getfield 9, 3) := by decide +kernel
theorem dX5_unevenAt_31 : decode cX5_unevenAt 31 = .ok (.iconst 5, 1) := by decide +kernel
theorem dX5_unevenAt_32 : decode cX5_unevenAt 32 = .ok (.iload_n 3, 1) := by decide +kernel
theorem dX5_unevenAt_33 : decode cX5_unevenAt 33 = .ok (.iadd, 1) := by decide +kernel
theorem dX5_unevenAt_34 : decode cX5_unevenAt 34 = .ok (.iaload, 1) := by decide +kernel
theorem dX5_unevenAt_35 : decode cX5_unevenAt 35 = .ok (.ineg, 1) := by decide +kernel
theorem dX5_unevenAt_36 : decode cX5_unevenAt 36 = .ok (.iadd, 1) := by decide +kernel
theorem dX5_unevenAt_37 : decode cX5_unevenAt 37 = .ok (.istore_n 2, 1) := by decide +kernel
theorem dX5_unevenAt_38 : decode cX5_unevenAt 38 = .ok (.iinc 3 1, 3) := by decide +kernel
theorem dX5_unevenAt_41 : decode cX5_unevenAt 41 = .ok (.goto (-37), 3) := by decide +kernel
theorem dX5_unevenAt_44 : decode cX5_unevenAt 44 = .ok (.iload_n 2, 1) := by decide +kernel
theorem dX5_unevenAt_45 : decode cX5_unevenAt 45 = .ok (.ifCond .ge 8, 3) := by decide +kernel
theorem dX5_unevenAt_48 : decode cX5_unevenAt 48 = .ok (.iload_n 2, 1) := by decide +kernel
theorem dX5_unevenAt_49 : decode cX5_unevenAt 49 = .ok (.ineg, 1) := by decide +kernel
theorem dX5_unevenAt_50 : decode cX5_unevenAt 50 = .ok (.goto 4, 3) := by decide +kernel
theorem dX5_unevenAt_53 : decode cX5_unevenAt 53 = .ok (.iload_n 2, 1) := by decide +kernel
theorem dX5_unevenAt_54 : decode cX5_unevenAt 54 = .ok (.ireturn, 1) := by decide +kernel
theorem dX5_even_0 : decode cX5_even 0 = .ok (.iload_n 1, 1) := by decide +kernel
theorem dX5_even_1 : decode cX5_even 1 = .ok (.iconst 0, 1) := by decide +kernel
theorem dX5_even_2 : decode cX5_even 2 = .ok (.iconst 1, 1) := by decide +kernel
theorem dX5_even_3 : decode cX5_even 3 = .ok (.invokestatic 43, 3) := by decide +kernel
theorem dX5_even_6 : decode cX5_even 6 = .ok (.ifCond .ne 5, 3) := by decide +kernel
theorem dX5_even_9 : decode cX5_even 9 = .ok (.iconst (-1), 1) := by decide +kernel
theorem dX5_even_10 : decode cX5_even 10 = .ok (.ireturn, 1) := by decide +kernel
theorem dX5_even_11 : decode cX5_even 11 = .ok (.iconst 0, 1) := by decide +kernel
theorem dX5_even_12 : decode cX5_even 12 = .ok (.istore_n 2, 1) := by decide +kernel
theorem dX5_even_13 : decode cX5_even 13 = .ok (.iconst 0, 1) := by decide +kernel
theorem dX5_even_14 : decode cX5_even 14 = .ok (.istore_n 3, 1) := by decide +kernel
theorem dX5_even_15 : decode cX5_even 15 = .ok (.iload_n 3, 1) := by decide +kernel
theorem dX5_even_16 : decode cX5_even 16 = .ok (.bipush 9, 2) := by decide +kernel
theorem dX5_even_18 : decode cX5_even 18 = .ok (.if_icmp .ge 24, 3) := by decide +kernel
theorem dX5_even_21 : decode cX5_even 21 = .ok (.aload_n 0, 1) := by decide +kernel
theorem dX5_even_22 : decode cX5_even 22 = .ok (.iload_n 3, 1) := by decide +kernel
theorem dX5_even_23 : decode cX5_even 23 = .ok (.invokevirtual 173, 3) := by decide +kernel
theorem dX5_even_26 : decode cX5_even 26 = .ok (.aload_n 0, 1) := by decide +kernel
theorem dX5_even_27 : decode cX5_even 27 = .ok (.iload_n 2, 1) := by decide +kernel
theorem dX5_even_28 : decode cX5_even 28 = .ok (.invokevirtual 173, 3) := by decide +kernel
theorem dX5_even_31 : decode cX5_even 31 = .ok (.if_icmp .ge 5, 3) := by decide +kernel
theorem dX5_even_34 : decode cX5_even 34 = .ok (.iload_n 3, 1) := by decide +kernel
theorem dX5_even_35 : decode cX5_even 35 = .ok (.istore_n 2, 1) := by decide +kernel
theorem dX5_even_36 : decode cX5_even 36 = .ok (.iinc 3 1, 3) := by decide +kernel
theorem dX5_even_39 : decode cX5_even 39 = .ok (.goto (-24), 3) := by decide +kernel
theorem dX5_even_42 : decode cX5_even 42 = .ok (.iload_n 1, 1) := by decide +kernel
theorem dX5_even_43 : decode cX5_even 43 = .ok (.ifCond .ne 7, 3) := by decide +kernel
theorem dX5_even_46 : decode cX5_even 46 = .ok (.iload_n 2, 1) := by decide +kernel
theorem dX5_even_47 : decode cX5_even 47 = .ok (.goto 8, 3) := by decide +kernel
theorem dX5_even_50 : decode cX5_even 50 = .ok (.aload_n 0, 1) := by decide +kernel
theorem dX5_even_51 : decode cX5_even 51 = .ok (.iload_n 2, 1) := by decide +kernel
theorem dX5_even_52 : decode cX5_even 52 = .ok (.invokevirtual 173, 3) := by decide +kernel
theorem dX5_even_55 : decode cX5_even 55 = .ok (.ireturn, 1) := by decide +kernel
theorem dX5_leastOf_0 : decode cX5_leastOf 0 = .ok (.iload_n 0, 1) := by decide +kernel
theorem dX5_leastOf_1 : decode cX5_leastOf 1 = .ok (.ifCond .ne 8, 3) := by decide +kernel
theorem dX5_leastOf_4 : decode cX5_leastOf 4 = .ok (.bipush (-128), 2) := by decide +kernel
theorem dX5_leastOf_6 : decode cX5_leastOf 6 = .ok (.goto 16, 3) := by decide +kernel
theorem dX5_leastOf_9 : decode cX5_leastOf 9 = .ok (.iload_n 0, 1) := by decide +kernel
theorem dX5_leastOf_10 : decode cX5_leastOf 10 = .ok (.iconst 1, 1) := by decide +kernel
theorem dX5_leastOf_11 : decode cX5_leastOf 11 = .ok (.if_icmp .ne 9, 3) := by decide +kernel
theorem dX5_leastOf_14 : decode cX5_leastOf 14 = .ok (.sipush (-32768), 3) := by decide +kernel
theorem dX5_leastOf_17 : decode cX5_leastOf 17 = .ok (.goto 5, 3) := by decide +kernel
theorem dX5_leastOf_20 : decode cX5_leastOf 20 = .ok (.ldc 176, 2) := by decide +kernel
theorem dX5_leastOf_22 : decode cX5_leastOf 22 = .ok (.ireturn, 1) := by decide +kernel
theorem dX5_isTold_0 : decode cX5_isTold 0 = .ok (.iconst 0, 1) := by decide +kernel
theorem dX5_isTold_1 : decode cX5_isTold 1 = .ok (.istore_n 3, 1) := by decide +kernel
theorem dX5_isTold_2 : decode cX5_isTold 2 = .ok (.iload_n 3, 1) := by decide +kernel
theorem dX5_isTold_3 : decode cX5_isTold 3 = .ok (.aload_n 0, 1) := by decide +kernel
theorem dX5_isTold_4 : decode cX5_isTold 4 = .ok (.getfield 37, 3) := by decide +kernel
theorem dX5_isTold_7 : decode cX5_isTold 7 = .ok (.iload_n 1, 1) := by decide +kernel
theorem dX5_isTold_8 : decode cX5_isTold 8 = .ok (.iaload, 1) := by decide +kernel
theorem dX5_isTold_9 : decode cX5_isTold 9 = .ok (.if_icmp .ge 57, 3) := by decide +kernel
theorem dX5_isTold_12 : decode cX5_isTold 12 = .ok (.aload_n 0, 1) := by decide +kernel
theorem dX5_isTold_13 : decode cX5_isTold 13 = .ok (.getfield 40, 3) := by decide +kernel
theorem dX5_isTold_16 : decode cX5_isTold 16 = .ok (.bipush 100, 2) := by decide +kernel
theorem dX5_isTold_18 : decode cX5_isTold 18 = .ok (.iload_n 1, 1) := by decide +kernel
theorem dX5_isTold_19 : decode cX5_isTold 19 = .ok (.imul, 1) := by decide +kernel
theorem dX5_isTold_20 : decode cX5_isTold 20 = .ok (.iload_n 3, 1) := by decide +kernel
theorem dX5_isTold_21 : decode cX5_isTold 21 = .ok (.iadd, 1) := by decide +kernel
theorem dX5_isTold_22 : decode cX5_isTold 22 = .ok (.iaload, 1) := by decide +kernel
theorem dX5_isTold_23 : decode cX5_isTold 23 = .ok (.istore 4, 2) := by decide +kernel
theorem dX5_isTold_25 : decode cX5_isTold 25 = .ok (.iload 4, 2) := by decide +kernel
theorem dX5_isTold_27 : decode cX5_isTold 27 = .ok (.aload_n 0, 1) := by decide +kernel
theorem dX5_isTold_28 : decode cX5_isTold 28 = .ok (.getfield 34, 3) := by decide +kernel
theorem dX5_isTold_31 : decode cX5_isTold 31 = .ok (.iload_n 1, 1) := by decide +kernel
theorem dX5_isTold_32 : decode cX5_isTold 32 = .ok (.iaload, 1) := by decide +kernel
theorem dX5_isTold_33 : decode cX5_isTold 33 = .ok (.invokestatic 177, 3) := by decide +kernel
theorem dX5_isTold_36 : decode cX5_isTold 36 = .ok (.if_icmp .eq 16, 3) := by decide +kernel
theorem dX5_isTold_39 : decode cX5_isTold 39 = .ok (.iload 4, 2) := by decide +kernel
theorem dX5_isTold_41 : decode cX5_isTold 41 = .ok (.aload_n 0, 1) := by decide +kernel
theorem dX5_isTold_42 : decode cX5_isTold 42 = .ok (.getfield 13, 3) := by decide +kernel
theorem dX5_isTold_45 : decode cX5_isTold 45 = .ok (.iload_n 2, 1) := by decide +kernel
theorem dX5_isTold_46 : decode cX5_isTold 46 = .ok (.iaload, 1) := by decide +kernel
theorem dX5_isTold_47 : decode cX5_isTold 47 = .ok (.if_icmp .eq 5, 3) := by decide +kernel
theorem dX5_isTold_50 : decode cX5_isTold 50 = .ok (.iconst 0, 1) := by decide +kernel
theorem dX5_isTold_51 : decode cX5_isTold 51 = .ok (.ireturn, 1) := by decide +kernel
theorem dX5_isTold_52 : decode cX5_isTold 52 = .ok (.aload_n 0, 1) := by decide +kernel
theorem dX5_isTold_53 : decode cX5_isTold 53 = .ok (.getfield 13, 3) := by decide +kernel
theorem dX5_isTold_56 : decode cX5_isTold 56 = .ok (.iconst 1, 1) := by decide +kernel
theorem dX5_isTold_57 : decode cX5_isTold 57 = .ok (.invokestatic 130, 3) := by decide +kernel
theorem dX5_isTold_60 : decode cX5_isTold 60 = .ok (.iinc 3 1, 3) := by decide +kernel
theorem dX5_isTold_63 : decode cX5_isTold 63 = .ok (.goto (-61), 3) := by decide +kernel
theorem dX5_isTold_66 : decode cX5_isTold 66 = .ok (.iconst 1, 1) := by decide +kernel
theorem dX5_isTold_67 : decode cX5_isTold 67 = .ok (.ireturn, 1) := by decide +kernel
theorem dX5_howMany_0 : decode cX5_howMany 0 = .ok (.iload_n 2, 1) := by decide +kernel
theorem dX5_howMany_1 : decode cX5_howMany 1 = .ok (.invokestatic 61, 3) := by decide +kernel
theorem dX5_howMany_4 : decode cX5_howMany 4 = .ok (.ifCond .eq 12, 3) := by decide +kernel
theorem dX5_howMany_7 : decode cX5_howMany 7 = .ok (.iload_n 3, 1) := by decide +kernel
theorem dX5_howMany_8 : decode cX5_howMany 8 = .ok (.iconst 0, 1) := by decide +kernel
theorem dX5_howMany_9 : decode cX5_howMany 9 = .ok (.iconst 2, 1) := by decide +kernel
theorem dX5_howMany_10 : decode cX5_howMany 10 = .ok (.invokestatic 43, 3) := by decide +kernel
theorem dX5_howMany_13 : decode cX5_howMany 13 = .ok (.ifCond .ne 5, 3) := by decide +kernel
theorem dX5_howMany_16 : decode cX5_howMany 16 = .ok (.iconst (-1), 1) := by decide +kernel
theorem dX5_howMany_17 : decode cX5_howMany 17 = .ok (.ireturn, 1) := by decide +kernel
theorem dX5_howMany_18 : decode cX5_howMany 18 = .ok (.aload_n 0, 1) := by decide +kernel
theorem dX5_howMany_19 : decode cX5_howMany 19 = .ok (.iload_n 1, 1) := by decide +kernel
theorem dX5_howMany_20 : decode cX5_howMany 20 = .ok (.iconst (-1), 1) := by decide +kernel
theorem dX5_howMany_21 : decode cX5_howMany 21 = .ok (.invokevirtual 133, 3) := by decide +kernel
theorem dX5_howMany_24 : decode cX5_howMany 24 = .ok (.istore 4, 2) := by decide +kernel
theorem dX5_howMany_26 : decode cX5_howMany 26 = .ok (.iload 4, 2) := by decide +kernel
theorem dX5_howMany_28 : decode cX5_howMany 28 = .ok (.ifCond .eq 6, 3) := by decide +kernel
theorem dX5_howMany_31 : decode cX5_howMany 31 = .ok (.iload 4, 2) := by decide +kernel
theorem dX5_howMany_33 : decode cX5_howMany 33 = .ok (.ireturn, 1) := by decide +kernel
theorem dX5_howMany_34 : decode cX5_howMany 34 = .ok (.iconst 0, 1) := by decide +kernel
theorem dX5_howMany_35 : decode cX5_howMany 35 = .ok (.istore 5, 2) := by decide +kernel
theorem dX5_howMany_37 : decode cX5_howMany 37 = .ok (.bipush (-4), 2) := by decide +kernel
theorem dX5_howMany_39 : decode cX5_howMany 39 = .ok (.istore 6, 2) := by decide +kernel
theorem dX5_howMany_41 : decode cX5_howMany 41 = .ok (.bipush (-4), 2) := by decide +kernel
theorem dX5_howMany_43 : decode cX5_howMany 43 = .ok (.istore 7, 2) := by decide +kernel
theorem dX5_howMany_45 : decode cX5_howMany 45 = .ok (.aload_n 0, 1) := by decide +kernel
theorem dX5_howMany_46 : decode cX5_howMany 46 = .ok (.getfield 9, 3) := by decide +kernel
theorem dX5_howMany_49 : decode cX5_howMany 49 = .ok (.bipush 15, 2) := by decide +kernel
theorem dX5_howMany_51 : decode cX5_howMany 51 = .ok (.iload_n 2, 1) := by decide +kernel
theorem dX5_howMany_52 : decode cX5_howMany 52 = .ok (.iadd, 1) := by decide +kernel
theorem dX5_howMany_53 : decode cX5_howMany 53 = .ok (.iaload, 1) := by decide +kernel
theorem dX5_howMany_54 : decode cX5_howMany 54 = .ok (.istore 8, 2) := by decide +kernel
theorem dX5_howMany_56 : decode cX5_howMany 56 = .ok (.iload 8, 2) := by decide +kernel
theorem dX5_howMany_58 : decode cX5_howMany 58 = .ok (.sipush 999, 3) := by decide +kernel
theorem dX5_howMany_61 : decode cX5_howMany 61 = .ok (.if_icmp .gt 66, 3) := by decide +kernel
theorem dX5_howMany_64 : decode cX5_howMany 64 = .ok (.aload_n 0, 1) := by decide +kernel
theorem dX5_howMany_65 : decode cX5_howMany 65 = .ok (.getfield 9, 3) := by decide +kernel
theorem dX5_howMany_68 : decode cX5_howMany 68 = .ok (.aload_n 0, 1) := by decide +kernel
theorem dX5_howMany_69 : decode cX5_howMany 69 = .ok (.getfield 13, 3) := by decide +kernel
theorem dX5_howMany_72 : decode cX5_howMany 72 = .ok (.invokestatic 140, 3) := by decide +kernel
theorem dX5_howMany_75 : decode cX5_howMany 75 = .ok (.aload_n 0, 1) := by decide +kernel
theorem dX5_howMany_76 : decode cX5_howMany 76 = .ok (.getfield 13, 3) := by decide +kernel
theorem dX5_howMany_79 : decode cX5_howMany 79 = .ok (.iconst 5, 1) := by decide +kernel
theorem dX5_howMany_80 : decode cX5_howMany 80 = .ok (.iload_n 2, 1) := by decide +kernel
theorem dX5_howMany_81 : decode cX5_howMany 81 = .ok (.iadd, 1) := by decide +kernel
theorem dX5_howMany_82 : decode cX5_howMany 82 = .ok (.iload 8, 2) := by decide +kernel
theorem dX5_howMany_84 : decode cX5_howMany 84 = .ok (.iastore, 1) := by decide +kernel
theorem dX5_howMany_85 : decode cX5_howMany 85 = .ok (.aload_n 0, 1) := by decide +kernel
theorem dX5_howMany_86 : decode cX5_howMany 86 = .ok (.iload_n 1, 1) := by decide +kernel
theorem dX5_howMany_87 : decode cX5_howMany 87 = .ok (.bipush 15, 2) := by decide +kernel
theorem dX5_howMany_89 : decode cX5_howMany 89 = .ok (.iload_n 2, 1) := by decide +kernel
theorem dX5_howMany_90 : decode cX5_howMany 90 = .ok (.iadd, 1) := by decide +kernel
theorem dX5_howMany_91 : decode cX5_howMany 91 = .ok (.invokevirtual 180, 3) := by decide +kernel
theorem dX5_howMany_94 : decode cX5_howMany 94 = .ok (.ifCond .ne 6, 3) := by decide +kernel
theorem dX5_howMany_97 : decode cX5_howMany 97 = .ok (.goto 24, 3) := by decide +kernel
theorem dX5_howMany_100 : decode cX5_howMany 100 = .ok (.iload 5, 2) := by decide +kernel
theorem dX5_howMany_102 : decode cX5_howMany 102 = .ok (.ifCond .ne 8, 3) := by decide +kernel
theorem dX5_howMany_105 : decode cX5_howMany 105 = .ok (.iload 8, 2) := by decide +kernel
theorem dX5_howMany_107 : decode cX5_howMany 107 = .ok (.goto 5, 3) := by decide +kernel
theorem dX5_howMany_110 : decode cX5_howMany 110 = .ok (.iload 6, 2) := by decide +kernel
theorem dX5_howMany_112 : decode cX5_howMany 112 = .ok (.istore 6, 2) := by decide +kernel
theorem dX5_howMany_114 : decode cX5_howMany 114 = .ok (.iload 8, 2) := by decide +kernel
theorem dX5_howMany_116 : decode cX5_howMany 116 = .ok (.istore 7, 2) := by decide +kernel
theorem dX5_howMany_118 : decode cX5_howMany 118 = .ok (.iinc 5 1, 3) := by decide +kernel
theorem dX5_howMany_121 : decode cX5_howMany 121 = .ok (.iinc 8 1, 3) := by decide +kernel
theorem dX5_howMany_124 : decode cX5_howMany 124 = .ok (.goto (-68), 3) := by decide +kernel
theorem dX5_howMany_127 : decode cX5_howMany 127 = .ok (.iload_n 3, 1) := by decide +kernel
theorem dX5_howMany_128 : decode cX5_howMany 128 = .ok (.ifCond .ne 8, 3) := by decide +kernel
theorem dX5_howMany_131 : decode cX5_howMany 131 = .ok (.iload 5, 2) := by decide +kernel
theorem dX5_howMany_133 : decode cX5_howMany 133 = .ok (.goto 15, 3) := by decide +kernel
theorem dX5_howMany_136 : decode cX5_howMany 136 = .ok (.iload_n 3, 1) := by decide +kernel
theorem dX5_howMany_137 : decode cX5_howMany 137 = .ok (.iconst 1, 1) := by decide +kernel
theorem dX5_howMany_138 : decode cX5_howMany 138 = .ok (.if_icmp .ne 8, 3) := by decide +kernel
theorem dX5_howMany_141 : decode cX5_howMany 141 = .ok (.iload 6, 2) := by decide +kernel
theorem dX5_howMany_143 : decode cX5_howMany 143 = .ok (.goto 5, 3) := by decide +kernel
theorem dX5_howMany_146 : decode cX5_howMany 146 = .ok (.iload 7, 2) := by decide +kernel
theorem dX5_howMany_148 : decode cX5_howMany 148 = .ok (.ireturn, 1) := by decide +kernel
theorem dX5_whatIs_0 : decode cX5_whatIs 0 = .ok (.aload_n 0, 1) := by decide +kernel
theorem dX5_whatIs_1 : decode cX5_whatIs 1 = .ok (.iload_n 2, 1) := by decide +kernel
theorem dX5_whatIs_2 : decode cX5_whatIs 2 = .ok (.invokevirtual 123, 3) := by decide +kernel
theorem dX5_whatIs_5 : decode cX5_whatIs 5 = .ok (.ifCond .eq 12, 3) := by decide +kernel
theorem dX5_whatIs_8 : decode cX5_whatIs 8 = .ok (.iload_n 3, 1) := by decide +kernel
theorem dX5_whatIs_9 : decode cX5_whatIs 9 = .ok (.iconst 0, 1) := by decide +kernel
theorem dX5_whatIs_10 : decode cX5_whatIs 10 = .ok (.iconst 1, 1) := by decide +kernel
theorem dX5_whatIs_11 : decode cX5_whatIs 11 = .ok (.invokestatic 43, 3) := by decide +kernel
theorem dX5_whatIs_14 : decode cX5_whatIs 14 = .ok (.ifCond .ne 5, 3) := by decide +kernel
theorem dX5_whatIs_17 : decode cX5_whatIs 17 = .ok (.iconst (-1), 1) := by decide +kernel
theorem dX5_whatIs_18 : decode cX5_whatIs 18 = .ok (.ireturn, 1) := by decide +kernel
theorem dX5_whatIs_19 : decode cX5_whatIs 19 = .ok (.aload_n 0, 1) := by decide +kernel
theorem dX5_whatIs_20 : decode cX5_whatIs 20 = .ok (.iload_n 1, 1) := by decide +kernel
theorem dX5_whatIs_21 : decode cX5_whatIs 21 = .ok (.iconst (-1), 1) := by decide +kernel
theorem dX5_whatIs_22 : decode cX5_whatIs 22 = .ok (.invokevirtual 133, 3) := by decide +kernel
theorem dX5_whatIs_25 : decode cX5_whatIs 25 = .ok (.istore 4, 2) := by decide +kernel
theorem dX5_whatIs_27 : decode cX5_whatIs 27 = .ok (.iload 4, 2) := by decide +kernel
theorem dX5_whatIs_29 : decode cX5_whatIs 29 = .ok (.ifCond .eq 6, 3) := by decide +kernel
theorem dX5_whatIs_32 : decode cX5_whatIs 32 = .ok (.iload 4, 2) := by decide +kernel
theorem dX5_whatIs_34 : decode cX5_whatIs 34 = .ok (.ireturn, 1) := by decide +kernel
theorem dX5_whatIs_35 : decode cX5_whatIs 35 = .ok (.iconst 0, 1) := by decide +kernel
theorem dX5_whatIs_36 : decode cX5_whatIs 36 = .ok (.istore 5, 2) := by decide +kernel
theorem dX5_whatIs_38 : decode cX5_whatIs 38 = .ok (.iconst 0, 1) := by decide +kernel
theorem dX5_whatIs_39 : decode cX5_whatIs 39 = .ok (.istore 6, 2) := by decide +kernel
theorem dX5_whatIs_41 : decode cX5_whatIs 41 = .ok (.iload 6, 2) := by decide +kernel
theorem dX5_whatIs_43 : decode cX5_whatIs 43 = .ok (.iload_n 3, 1) := by decide +kernel
theorem dX5_whatIs_44 : decode cX5_whatIs 44 = .ok (.ifCond .ne 8, 3) := by decide +kernel
theorem dX5_whatIs_47 : decode cX5_whatIs 47 = .ok (.bipush 8, 2) := by decide +kernel
theorem dX5_whatIs_49 : decode cX5_whatIs 49 = .ok (.goto 5, 3) := by decide +kernel
theorem dX5_whatIs_52 : decode cX5_whatIs 52 = .ok (.bipush 10, 2) := by decide +kernel
theorem dX5_whatIs_54 : decode cX5_whatIs 54 = .ok (.if_icmp .ge 58, 3) := by decide +kernel
theorem dX5_whatIs_57 : decode cX5_whatIs 57 = .ok (.aload_n 0, 1) := by decide +kernel
theorem dX5_whatIs_58 : decode cX5_whatIs 58 = .ok (.getfield 9, 3) := by decide +kernel
theorem dX5_whatIs_61 : decode cX5_whatIs 61 = .ok (.aload_n 0, 1) := by decide +kernel
theorem dX5_whatIs_62 : decode cX5_whatIs 62 = .ok (.getfield 13, 3) := by decide +kernel
theorem dX5_whatIs_65 : decode cX5_whatIs 65 = .ok (.invokestatic 140, 3) := by decide +kernel
theorem dX5_whatIs_68 : decode cX5_whatIs 68 = .ok (.aload_n 0, 1) := by decide +kernel
theorem dX5_whatIs_69 : decode cX5_whatIs 69 = .ok (.getfield 13, 3) := by decide +kernel
theorem dX5_whatIs_72 : decode cX5_whatIs 72 = .ok (.iload_n 2, 1) := by decide +kernel
theorem dX5_whatIs_73 : decode cX5_whatIs 73 = .ok (.iload_n 3, 1) := by decide +kernel
theorem dX5_whatIs_74 : decode cX5_whatIs 74 = .ok (.invokestatic 47, 3) := by decide +kernel
theorem dX5_whatIs_77 : decode cX5_whatIs 77 = .ok (.iload 6, 2) := by decide +kernel
theorem dX5_whatIs_79 : decode cX5_whatIs 79 = .ok (.iastore, 1) := by decide +kernel
theorem dX5_whatIs_80 : decode cX5_whatIs 80 = .ok (.iload 5, 2) := by decide +kernel
theorem dX5_whatIs_82 : decode cX5_whatIs 82 = .ok (.aload_n 0, 1) := by decide +kernel
theorem dX5_whatIs_83 : decode cX5_whatIs 83 = .ok (.iload_n 1, 1) := by decide +kernel
theorem dX5_whatIs_84 : decode cX5_whatIs 84 = .ok (.iload_n 2, 1) := by decide +kernel
theorem dX5_whatIs_85 : decode cX5_whatIs 85 = .ok (.iconst 4, 1) := by decide +kernel
theorem dX5_whatIs_86 : decode cX5_whatIs 86 = .ok (.invokestatic 47, 3) := by decide +kernel
theorem dX5_whatIs_89 : decode cX5_whatIs 89 = .ok (.invokevirtual 180, 3) := by decide +kernel
theorem dX5_whatIs_92 : decode cX5_whatIs 92 = .ok (.ifCond .eq 10, 3) := by decide +kernel
theorem dX5_whatIs_95 : decode cX5_whatIs 95 = .ok (.iconst 1, 1) := by decide +kernel
theorem dX5_whatIs_96 : decode cX5_whatIs 96 = .ok (.iload 6, 2) := by decide +kernel
theorem dX5_whatIs_98 : decode cX5_whatIs 98 = .ok (.ishl, 1) := by decide +kernel
theorem dX5_whatIs_99 : decode cX5_whatIs 99 = .ok (.goto 4, 3) := by decide +kernel
theorem dX5_whatIs_102 : decode cX5_whatIs 102 = .ok (.iconst 0, 1) := by decide +kernel
theorem dX5_whatIs_103 : decode cX5_whatIs 103 = .ok (.ior, 1) := by decide +kernel
theorem dX5_whatIs_104 : decode cX5_whatIs 104 = .ok (.istore 5, 2) := by decide +kernel
theorem dX5_whatIs_106 : decode cX5_whatIs 106 = .ok (.iinc 6 1, 3) := by decide +kernel
theorem dX5_whatIs_109 : decode cX5_whatIs 109 = .ok (.goto (-68), 3) := by decide +kernel
theorem dX5_whatIs_112 : decode cX5_whatIs 112 = .ok (.iload 5, 2) := by decide +kernel
theorem dX5_whatIs_114 : decode cX5_whatIs 114 = .ok (.ireturn, 1) := by decide +kernel
theorem dX5_hasBy_0 : decode cX5_hasBy 0 = .ok (.aload_n 0, 1) := by decide +kernel
theorem dX5_hasBy_1 : decode cX5_hasBy 1 = .ok (.getfield 9, 3) := by decide +kernel
theorem dX5_hasBy_4 : decode cX5_hasBy 4 = .ok (.aload_n 0, 1) := by decide +kernel
theorem dX5_hasBy_5 : decode cX5_hasBy 5 = .ok (.getfield 13, 3) := by decide +kernel
theorem dX5_hasBy_8 : decode cX5_hasBy 8 = .ok (.invokestatic 140, 3) := by decide +kernel
theorem dX5_hasBy_11 : decode cX5_hasBy 11 = .ok (.aload_n 0, 1) := by decide +kernel
theorem dX5_hasBy_12 : decode cX5_hasBy 12 = .ok (.getfield 13, 3) := by decide +kernel
theorem dX5_hasBy_15 : decode cX5_hasBy 15 = .ok (.iload_n 2, 1) := by decide +kernel
theorem dX5_hasBy_16 : decode cX5_hasBy 16 = .ok (.iconst 5, 1) := by decide +kernel
theorem dX5_hasBy_17 : decode cX5_hasBy 17 = .ok (.invokestatic 47, 3) := by decide +kernel
theorem dX5_hasBy_20 : decode cX5_hasBy 20 = .ok (.iconst 0, 1) := by decide +kernel
theorem dX5_hasBy_21 : decode cX5_hasBy 21 = .ok (.iastore, 1) := by decide +kernel
theorem dX5_hasBy_22 : decode cX5_hasBy 22 = .ok (.aload_n 0, 1) := by decide +kernel
theorem dX5_hasBy_23 : decode cX5_hasBy 23 = .ok (.getfield 13, 3) := by decide +kernel
theorem dX5_hasBy_26 : decode cX5_hasBy 26 = .ok (.iload 4, 2) := by decide +kernel
theorem dX5_hasBy_28 : decode cX5_hasBy 28 = .ok (.iconst 5, 1) := by decide +kernel
theorem dX5_hasBy_29 : decode cX5_hasBy 29 = .ok (.invokestatic 47, 3) := by decide +kernel
theorem dX5_hasBy_32 : decode cX5_hasBy 32 = .ok (.iconst 0, 1) := by decide +kernel
theorem dX5_hasBy_33 : decode cX5_hasBy 33 = .ok (.iastore, 1) := by decide +kernel
theorem dX5_hasBy_34 : decode cX5_hasBy 34 = .ok (.aload_n 0, 1) := by decide +kernel
theorem dX5_hasBy_35 : decode cX5_hasBy 35 = .ok (.getfield 13, 3) := by decide +kernel
theorem dX5_hasBy_38 : decode cX5_hasBy 38 = .ok (.iconst 4, 1) := by decide +kernel
theorem dX5_hasBy_39 : decode cX5_hasBy 39 = .ok (.iconst 1, 1) := by decide +kernel
theorem dX5_hasBy_40 : decode cX5_hasBy 40 = .ok (.iload_n 3, 1) := by decide +kernel
theorem dX5_hasBy_41 : decode cX5_hasBy 41 = .ok (.isub, 1) := by decide +kernel
theorem dX5_hasBy_42 : decode cX5_hasBy 42 = .ok (.iload_n 2, 1) := by decide +kernel
theorem dX5_hasBy_43 : decode cX5_hasBy 43 = .ok (.ishl, 1) := by decide +kernel
theorem dX5_hasBy_44 : decode cX5_hasBy 44 = .ok (.iconst 1, 1) := by decide +kernel
theorem dX5_hasBy_45 : decode cX5_hasBy 45 = .ok (.iload 5, 2) := by decide +kernel
theorem dX5_hasBy_47 : decode cX5_hasBy 47 = .ok (.isub, 1) := by decide +kernel
theorem dX5_hasBy_48 : decode cX5_hasBy 48 = .ok (.iload 4, 2) := by decide +kernel
theorem dX5_hasBy_50 : decode cX5_hasBy 50 = .ok (.ishl, 1) := by decide +kernel
theorem dX5_hasBy_51 : decode cX5_hasBy 51 = .ok (.ior, 1) := by decide +kernel
theorem dX5_hasBy_52 : decode cX5_hasBy 52 = .ok (.iastore, 1) := by decide +kernel
theorem dX5_hasBy_53 : decode cX5_hasBy 53 = .ok (.aload_n 0, 1) := by decide +kernel
theorem dX5_hasBy_54 : decode cX5_hasBy 54 = .ok (.getfield 13, 3) := by decide +kernel
theorem dX5_hasBy_57 : decode cX5_hasBy 57 = .ok (.iconst 5, 1) := by decide +kernel
theorem dX5_hasBy_58 : decode cX5_hasBy 58 = .ok (.invokestatic 130, 3) := by decide +kernel
theorem dX5_hasBy_61 : decode cX5_hasBy 61 = .ok (.aload_n 0, 1) := by decide +kernel
theorem dX5_hasBy_62 : decode cX5_hasBy 62 = .ok (.getfield 13, 3) := by decide +kernel
theorem dX5_hasBy_65 : decode cX5_hasBy 65 = .ok (.iload_n 1, 1) := by decide +kernel
theorem dX5_hasBy_66 : decode cX5_hasBy 66 = .ok (.iconst 4, 1) := by decide +kernel
theorem dX5_hasBy_67 : decode cX5_hasBy 67 = .ok (.invokestatic 47, 3) := by decide +kernel
theorem dX5_hasBy_70 : decode cX5_hasBy 70 = .ok (.iaload, 1) := by decide +kernel
theorem dX5_hasBy_71 : decode cX5_hasBy 71 = .ok (.aload_n 0, 1) := by decide +kernel
theorem dX5_hasBy_72 : decode cX5_hasBy 72 = .ok (.getfield 9, 3) := by decide +kernel
theorem dX5_hasBy_75 : decode cX5_hasBy 75 = .ok (.iload_n 1, 1) := by decide +kernel
theorem dX5_hasBy_76 : decode cX5_hasBy 76 = .ok (.iconst 4, 1) := by decide +kernel
theorem dX5_hasBy_77 : decode cX5_hasBy 77 = .ok (.invokestatic 47, 3) := by decide +kernel
theorem dX5_hasBy_80 : decode cX5_hasBy 80 = .ok (.iaload, 1) := by decide +kernel
theorem dX5_hasBy_81 : decode cX5_hasBy 81 = .ok (.isub, 1) := by decide +kernel
theorem dX5_hasBy_82 : decode cX5_hasBy 82 = .ok (.istore 6, 2) := by decide +kernel
theorem dX5_hasBy_84 : decode cX5_hasBy 84 = .ok (.iload_n 1, 1) := by decide +kernel
theorem dX5_hasBy_85 : decode cX5_hasBy 85 = .ok (.iload_n 2, 1) := by decide +kernel
theorem dX5_hasBy_86 : decode cX5_hasBy 86 = .ok (.if_icmp .ne 21, 3) := by decide +kernel
theorem dX5_hasBy_89 : decode cX5_hasBy 89 = .ok (.iload_n 3, 1) := by decide +kernel
theorem dX5_hasBy_90 : decode cX5_hasBy 90 = .ok (.ifCond .ne 13, 3) := by decide +kernel
theorem dX5_hasBy_93 : decode cX5_hasBy 93 = .ok (.iload 5, 2) := by decide +kernel
theorem dX5_hasBy_95 : decode cX5_hasBy 95 = .ok (.iconst 1, 1) := by decide +kernel
theorem dX5_hasBy_96 : decode cX5_hasBy 96 = .ok (.if_icmp .ne 7, 3) := by decide +kernel
theorem dX5_hasBy_99 : decode cX5_hasBy 99 = .ok (.iconst 1, 1) := by decide +kernel
theorem dX5_hasBy_100 : decode cX5_hasBy 100 = .ok (.goto 22, 3) := by decide +kernel
theorem dX5_hasBy_103 : decode cX5_hasBy 103 = .ok (.iconst 0, 1) := by decide +kernel
theorem dX5_hasBy_104 : decode cX5_hasBy 104 = .ok (.goto 18, 3) := by decide +kernel
theorem dX5_hasBy_107 : decode cX5_hasBy 107 = .ok (.iload 5, 2) := by decide +kernel
theorem dX5_hasBy_109 : decode cX5_hasBy 109 = .ok (.ifCond .ne 12, 3) := by decide +kernel
theorem dX5_hasBy_112 : decode cX5_hasBy 112 = .ok (.iload_n 3, 1) := by decide +kernel
theorem dX5_hasBy_113 : decode cX5_hasBy 113 = .ok (.iconst 1, 1) := by decide +kernel
theorem dX5_hasBy_114 : decode cX5_hasBy 114 = .ok (.if_icmp .ne 7, 3) := by decide +kernel
theorem dX5_hasBy_117 : decode cX5_hasBy 117 = .ok (.iconst 1, 1) := by decide +kernel
theorem dX5_hasBy_118 : decode cX5_hasBy 118 = .ok (.goto 4, 3) := by decide +kernel
theorem dX5_hasBy_121 : decode cX5_hasBy 121 = .ok (.iconst 0, 1) := by decide +kernel
theorem dX5_hasBy_122 : decode cX5_hasBy 122 = .ok (.istore 7, 2) := by decide +kernel
theorem dX5_hasBy_124 : decode cX5_hasBy 124 = .ok (.iload 7, 2) := by decide +kernel
theorem dX5_hasBy_126 : decode cX5_hasBy 126 = .ok (.ifCond .eq 11, 3) := by decide +kernel
theorem dX5_hasBy_129 : decode cX5_hasBy 129 = .ok (.iload 6, 2) := by decide +kernel
theorem dX5_hasBy_131 : decode cX5_hasBy 131 = .ok (.bipush 20, 2) := by decide +kernel
theorem dX5_hasBy_133 : decode cX5_hasBy 133 = .ok (.isub, 1) := by decide +kernel
theorem dX5_hasBy_134 : decode cX5_hasBy 134 = .ok (.goto 5, 3) := by decide +kernel
theorem dX5_hasBy_137 : decode cX5_hasBy 137 = .ok (.iload 6, 2) := by decide +kernel
theorem dX5_hasBy_139 : decode cX5_hasBy 139 = .ok (.ireturn, 1) := by decide +kernel
theorem dX5_two_0 : decode cX5_two 0 = .ok (.aload_n 0, 1) := by decide +kernel
theorem dX5_two_1 : decode cX5_two 1 = .ok (.iload_n 1, 1) := by decide +kernel
theorem dX5_two_2 : decode cX5_two 2 = .ok (.invokevirtual 123, 3) := by decide +kernel
theorem dX5_two_5 : decode cX5_two 5 = .ok (.ifCond .eq 16, 3) := by decide +kernel
theorem dX5_two_8 : decode cX5_two 8 = .ok (.aload_n 0, 1) := by decide +kernel
theorem dX5_two_9 : decode cX5_two 9 = .ok (.iload_n 2, 1) := by decide +kernel
theorem dX5_two_10 : decode cX5_two 10 = .ok (.invokevirtual 123, 3) := by decide +kernel
theorem dX5_two_13 : decode cX5_two 13 = .ok (.ifCond .eq 8, 3) := by decide +kernel
theorem dX5_two_16 : decode cX5_two 16 = .ok (.iload_n 1, 1) := by decide +kernel
theorem dX5_two_17 : decode cX5_two 17 = .ok (.iload_n 2, 1) := by decide +kernel
theorem dX5_two_18 : decode cX5_two 18 = .ok (.if_icmp .ne 5, 3) := by decide +kernel
theorem dX5_two_21 : decode cX5_two 21 = .ok (.iconst (-1), 1) := by decide +kernel
theorem dX5_two_22 : decode cX5_two 22 = .ok (.ireturn, 1) := by decide +kernel
theorem dX5_two_23 : decode cX5_two 23 = .ok (.iconst 0, 1) := by decide +kernel
theorem dX5_two_24 : decode cX5_two 24 = .ok (.istore_n 3, 1) := by decide +kernel
theorem dX5_two_25 : decode cX5_two 25 = .ok (.iload_n 3, 1) := by decide +kernel
theorem dX5_two_26 : decode cX5_two 26 = .ok (.iconst 4, 1) := by decide +kernel
theorem dX5_two_27 : decode cX5_two 27 = .ok (.if_icmp .ge 82, 3) := by decide +kernel
theorem dX5_two_30 : decode cX5_two 30 = .ok (.iload_n 3, 1) := by decide +kernel
theorem dX5_two_31 : decode cX5_two 31 = .ok (.iconst 2, 1) := by decide +kernel
theorem dX5_two_32 : decode cX5_two 32 = .ok (.idiv, 1) := by decide +kernel
theorem dX5_two_33 : decode cX5_two 33 = .ok (.istore 4, 2) := by decide +kernel
theorem dX5_two_35 : decode cX5_two 35 = .ok (.iload_n 3, 1) := by decide +kernel
theorem dX5_two_36 : decode cX5_two 36 = .ok (.iconst 2, 1) := by decide +kernel
theorem dX5_two_37 : decode cX5_two 37 = .ok (.irem, 1) := by decide +kernel
theorem dX5_two_38 : decode cX5_two 38 = .ok (.istore 5, 2) := by decide +kernel
theorem dX5_two_40 : decode cX5_two 40 = .ok (.aload_n 0, 1) := by decide +kernel
theorem dX5_two_41 : decode cX5_two 41 = .ok (.iload_n 1, 1) := by decide +kernel
theorem dX5_two_42 : decode cX5_two 42 = .ok (.iload_n 1, 1) := by decide +kernel
theorem dX5_two_43 : decode cX5_two 43 = .ok (.iconst 1, 1) := by decide +kernel
theorem dX5_two_44 : decode cX5_two 44 = .ok (.iload 4, 2) := by decide +kernel
theorem dX5_two_46 : decode cX5_two 46 = .ok (.isub, 1) := by decide +kernel
theorem dX5_two_47 : decode cX5_two 47 = .ok (.iload_n 2, 1) := by decide +kernel
theorem dX5_two_48 : decode cX5_two 48 = .ok (.iload 5, 2) := by decide +kernel
theorem dX5_two_50 : decode cX5_two 50 = .ok (.invokevirtual 183, 3) := by decide +kernel
theorem dX5_two_53 : decode cX5_two 53 = .ok (.aload_n 0, 1) := by decide +kernel
theorem dX5_two_54 : decode cX5_two 54 = .ok (.iload_n 1, 1) := by decide +kernel
theorem dX5_two_55 : decode cX5_two 55 = .ok (.iload_n 1, 1) := by decide +kernel
theorem dX5_two_56 : decode cX5_two 56 = .ok (.iload 4, 2) := by decide +kernel
theorem dX5_two_58 : decode cX5_two 58 = .ok (.iload_n 2, 1) := by decide +kernel
theorem dX5_two_59 : decode cX5_two 59 = .ok (.iload 5, 2) := by decide +kernel
theorem dX5_two_61 : decode cX5_two 61 = .ok (.invokevirtual 183, 3) := by decide +kernel
theorem dX5_two_64 : decode cX5_two 64 = .ok (.if_icmp .gt 39, 3) := by decide +kernel
theorem dX5_two_67 : decode cX5_two 67 = .ok (.aload_n 0, 1) := by decide +kernel
theorem dX5_two_68 : decode cX5_two 68 = .ok (.iload_n 2, 1) := by decide +kernel
theorem dX5_two_69 : decode cX5_two 69 = .ok (.iload_n 1, 1) := by decide +kernel
theorem dX5_two_70 : decode cX5_two 70 = .ok (.iload 4, 2) := by decide +kernel
theorem dX5_two_72 : decode cX5_two 72 = .ok (.iload_n 2, 1) := by decide +kernel
theorem dX5_two_73 : decode cX5_two 73 = .ok (.iconst 1, 1) := by decide +kernel
theorem dX5_two_74 : decode cX5_two 74 = .ok (.iload 5, 2) := by decide +kernel
theorem dX5_two_76 : decode cX5_two 76 = .ok (.isub, 1) := by decide +kernel
theorem dX5_two_77 : decode cX5_two 77 = .ok (.invokevirtual 183, 3) := by decide +kernel
theorem dX5_two_80 : decode cX5_two 80 = .ok (.aload_n 0, 1) := by decide +kernel
theorem dX5_two_81 : decode cX5_two 81 = .ok (.iload_n 2, 1) := by decide +kernel
theorem dX5_two_82 : decode cX5_two 82 = .ok (.iload_n 1, 1) := by decide +kernel
theorem dX5_two_83 : decode cX5_two 83 = .ok (.iload 4, 2) := by decide +kernel
theorem dX5_two_85 : decode cX5_two 85 = .ok (.iload_n 2, 1) := by decide +kernel
theorem dX5_two_86 : decode cX5_two 86 = .ok (.iload 5, 2) := by decide +kernel
theorem dX5_two_88 : decode cX5_two 88 = .ok (.invokevirtual 183, 3) := by decide +kernel
theorem dX5_two_91 : decode cX5_two 91 = .ok (.if_icmp .gt 12, 3) := by decide +kernel
theorem dX5_two_94 : decode cX5_two 94 = .ok (.bipush 10, 2) := by decide +kernel
theorem dX5_two_96 : decode cX5_two 96 = .ok (.iload 4, 2) := by decide +kernel
theorem dX5_two_98 : decode cX5_two 98 = .ok (.imul, 1) := by decide +kernel
theorem dX5_two_99 : decode cX5_two 99 = .ok (.iload 5, 2) := by decide +kernel
theorem dX5_two_101 : decode cX5_two 101 = .ok (.iadd, 1) := by decide +kernel
theorem dX5_two_102 : decode cX5_two 102 = .ok (.ireturn, 1) := by decide +kernel
theorem dX5_two_103 : decode cX5_two 103 = .ok (.iinc 3 1, 3) := by decide +kernel
theorem dX5_two_106 : decode cX5_two 106 = .ok (.goto (-81), 3) := by decide +kernel
theorem dX5_two_109 : decode cX5_two 109 = .ok (.bipush (-4), 2) := by decide +kernel
theorem dX5_two_111 : decode cX5_two 111 = .ok (.ireturn, 1) := by decide +kernel
theorem dX5_gcd_0 : decode cX5_gcd 0 = .ok (.lload_n 0, 1) := by decide +kernel
theorem dX5_gcd_1 : decode cX5_gcd 1 = .ok (.lstore 4, 2) := by decide +kernel
theorem dX5_gcd_3 : decode cX5_gcd 3 = .ok (.lload_n 2, 1) := by decide +kernel
theorem dX5_gcd_4 : decode cX5_gcd 4 = .ok (.lstore 6, 2) := by decide +kernel
theorem dX5_gcd_6 : decode cX5_gcd 6 = .ok (.lload 6, 2) := by decide +kernel
theorem dX5_gcd_8 : decode cX5_gcd 8 = .ok (.lconst 0, 1) := by decide +kernel
theorem dX5_gcd_9 : decode cX5_gcd 9 = .ok (.lcmp, 1) := by decide +kernel
theorem dX5_gcd_10 : decode cX5_gcd 10 = .ok (.ifCond .eq 21, 3) := by decide +kernel
theorem dX5_gcd_13 : decode cX5_gcd 13 = .ok (.lload 4, 2) := by decide +kernel
theorem dX5_gcd_15 : decode cX5_gcd 15 = .ok (.lload 6, 2) := by decide +kernel
theorem dX5_gcd_17 : decode cX5_gcd 17 = .ok (.lrem, 1) := by decide +kernel
theorem dX5_gcd_18 : decode cX5_gcd 18 = .ok (.lstore 8, 2) := by decide +kernel
theorem dX5_gcd_20 : decode cX5_gcd 20 = .ok (.lload 6, 2) := by decide +kernel
theorem dX5_gcd_22 : decode cX5_gcd 22 = .ok (.lstore 4, 2) := by decide +kernel
theorem dX5_gcd_24 : decode cX5_gcd 24 = .ok (.lload 8, 2) := by decide +kernel
theorem dX5_gcd_26 : decode cX5_gcd 26 = .ok (.lstore 6, 2) := by decide +kernel
theorem dX5_gcd_28 : decode cX5_gcd 28 = .ok (.goto (-22), 3) := by decide +kernel
theorem dX5_gcd_31 : decode cX5_gcd 31 = .ok (.lload 4, 2) := by decide +kernel
theorem dX5_gcd_33 : decode cX5_gcd 33 = .ok (.lreturn, 1) := by decide +kernel
theorem dX5_partOf_0 : decode cX5_partOf 0 = .ok (.lload_n 0, 1) := by decide +kernel
theorem dX5_partOf_1 : decode cX5_partOf 1 = .ok (.lconst 0, 1) := by decide +kernel
theorem dX5_partOf_2 : decode cX5_partOf 2 = .ok (.lcmp, 1) := by decide +kernel
theorem dX5_partOf_3 : decode cX5_partOf 3 = .ok (.ifCond .ne 7, 3) := by decide +kernel
theorem dX5_partOf_6 : decode cX5_partOf 6 = .ok (.iload 4, 2) := by decide +kernel
theorem dX5_partOf_8 : decode cX5_partOf 8 = .ok (.i2l, 1) := by decide +kernel
theorem dX5_partOf_9 : decode cX5_partOf 9 = .ok (.lreturn, 1) := by decide +kernel
theorem dX5_partOf_10 : decode cX5_partOf 10 = .ok (.iload 4, 2) := by decide +kernel
theorem dX5_partOf_12 : decode cX5_partOf 12 = .ok (.ifCond .ne 7, 3) := by decide +kernel
theorem dX5_partOf_15 : decode cX5_partOf 15 = .ok (.lload_n 0, 1) := by decide +kernel
theorem dX5_partOf_16 : decode cX5_partOf 16 = .ok (.goto 4, 3) := by decide +kernel
theorem dX5_partOf_19 : decode cX5_partOf 19 = .ok (.lload_n 2, 1) := by decide +kernel
theorem dX5_partOf_20 : decode cX5_partOf 20 = .ok (.lload_n 0, 1) := by decide +kernel
theorem dX5_partOf_21 : decode cX5_partOf 21 = .ok (.lload_n 2, 1) := by decide +kernel
theorem dX5_partOf_22 : decode cX5_partOf 22 = .ok (.invokestatic 187, 3) := by decide +kernel
theorem dX5_partOf_25 : decode cX5_partOf 25 = .ok (.ldiv, 1) := by decide +kernel
theorem dX5_partOf_26 : decode cX5_partOf 26 = .ok (.lreturn, 1) := by decide +kernel
theorem dX5_storm_0 : decode cX5_storm 0 = .ok (.iload_n 1, 1) := by decide +kernel
theorem dX5_storm_1 : decode cX5_storm 1 = .ok (.invokestatic 61, 3) := by decide +kernel
theorem dX5_storm_4 : decode cX5_storm 4 = .ok (.ifCond .eq 33, 3) := by decide +kernel
theorem dX5_storm_7 : decode cX5_storm 7 = .ok (.iload_n 2, 1) := by decide +kernel
theorem dX5_storm_8 : decode cX5_storm 8 = .ok (.iconst 0, 1) := by decide +kernel
theorem dX5_storm_9 : decode cX5_storm 9 = .ok (.bipush 7, 2) := by decide +kernel
theorem dX5_storm_11 : decode cX5_storm 11 = .ok (.invokestatic 43, 3) := by decide +kernel
theorem dX5_storm_14 : decode cX5_storm 14 = .ok (.ifCond .eq 23, 3) := by decide +kernel
theorem dX5_storm_17 : decode cX5_storm 17 = .ok (.iload_n 3, 1) := by decide +kernel
theorem dX5_storm_18 : decode cX5_storm 18 = .ok (.iconst 2, 1) := by decide +kernel
theorem dX5_storm_19 : decode cX5_storm 19 = .ok (.bipush 20, 2) := by decide +kernel
theorem dX5_storm_21 : decode cX5_storm 21 = .ok (.invokestatic 43, 3) := by decide +kernel
theorem dX5_storm_24 : decode cX5_storm 24 = .ok (.ifCond .eq 13, 3) := by decide +kernel
theorem dX5_storm_27 : decode cX5_storm 27 = .ok (.iload 4, 2) := by decide +kernel
theorem dX5_storm_29 : decode cX5_storm 29 = .ok (.iconst 0, 1) := by decide +kernel
theorem dX5_storm_30 : decode cX5_storm 30 = .ok (.iconst 1, 1) := by decide +kernel
theorem dX5_storm_31 : decode cX5_storm 31 = .ok (.invokestatic 43, 3) := by decide +kernel
theorem dX5_storm_34 : decode cX5_storm 34 = .ok (.ifCond .ne 7, 3) := by decide +kernel
theorem dX5_storm_37 : decode cX5_storm 37 = .ok (.ldc2_w 191, 3) := by decide +kernel
theorem dX5_storm_40 : decode cX5_storm 40 = .ok (.lreturn, 1) := by decide +kernel
theorem dX5_storm_41 : decode cX5_storm 41 = .ok (.lconst 0, 1) := by decide +kernel
theorem dX5_storm_42 : decode cX5_storm 42 = .ok (.lstore 5, 2) := by decide +kernel
theorem dX5_storm_44 : decode cX5_storm 44 = .ok (.lconst 1, 1) := by decide +kernel
theorem dX5_storm_45 : decode cX5_storm 45 = .ok (.lstore 7, 2) := by decide +kernel
theorem dX5_storm_47 : decode cX5_storm 47 = .ok (.iconst 0, 1) := by decide +kernel
theorem dX5_storm_48 : decode cX5_storm 48 = .ok (.istore 9, 2) := by decide +kernel
theorem dX5_storm_50 : decode cX5_storm 50 = .ok (.iload 9, 2) := by decide +kernel
theorem dX5_storm_52 : decode cX5_storm 52 = .ok (.iload_n 2, 1) := by decide +kernel
theorem dX5_storm_53 : decode cX5_storm 53 = .ok (.if_icmp .ge 16, 3) := by decide +kernel
theorem dX5_storm_56 : decode cX5_storm 56 = .ok (.lload 7, 2) := by decide +kernel
theorem dX5_storm_58 : decode cX5_storm 58 = .ok (.iload_n 3, 1) := by decide +kernel
theorem dX5_storm_59 : decode cX5_storm 59 = .ok (.i2l, 1) := by decide +kernel
theorem dX5_storm_60 : decode cX5_storm 60 = .ok (.lmul, 1) := by decide +kernel
theorem dX5_storm_61 : decode cX5_storm 61 = .ok (.lstore 7, 2) := by decide +kernel
theorem dX5_storm_63 : decode cX5_storm 63 = .ok (.iinc 9 1, 3) := by decide +kernel
theorem dX5_storm_66 : decode cX5_storm 66 = .ok (.goto (-16), 3) := by decide +kernel
theorem dX5_storm_69 : decode cX5_storm 69 = .ok (.iconst 0, 1) := by decide +kernel
theorem dX5_storm_70 : decode cX5_storm 70 = .ok (.istore 9, 2) := by decide +kernel
theorem dX5_storm_72 : decode cX5_storm 72 = .ok (.iload 9, 2) := by decide +kernel
theorem dX5_storm_74 : decode cX5_storm 74 = .ok (.iconst 1, 1) := by decide +kernel
theorem dX5_storm_75 : decode cX5_storm 75 = .ok (.iload_n 2, 1) := by decide +kernel
theorem dX5_storm_76 : decode cX5_storm 76 = .ok (.ishl, 1) := by decide +kernel
theorem dX5_storm_77 : decode cX5_storm 77 = .ok (.if_icmp .ge 111, 3) := by decide +kernel
theorem dX5_storm_80 : decode cX5_storm 80 = .ok (.lconst 1, 1) := by decide +kernel
theorem dX5_storm_81 : decode cX5_storm 81 = .ok (.lstore 10, 2) := by decide +kernel
theorem dX5_storm_83 : decode cX5_storm 83 = .ok (.aload_n 0, 1) := by decide +kernel
theorem dX5_storm_84 : decode cX5_storm 84 = .ok (.getfield 9, 3) := by decide +kernel
theorem dX5_storm_87 : decode cX5_storm 87 = .ok (.aload_n 0, 1) := by decide +kernel
theorem dX5_storm_88 : decode cX5_storm 88 = .ok (.getfield 13, 3) := by decide +kernel
theorem dX5_storm_91 : decode cX5_storm 91 = .ok (.invokestatic 140, 3) := by decide +kernel
theorem dX5_storm_94 : decode cX5_storm 94 = .ok (.iconst 0, 1) := by decide +kernel
theorem dX5_storm_95 : decode cX5_storm 95 = .ok (.istore 12, 2) := by decide +kernel
theorem dX5_storm_97 : decode cX5_storm 97 = .ok (.iload 12, 2) := by decide +kernel
theorem dX5_storm_99 : decode cX5_storm 99 = .ok (.iload_n 2, 1) := by decide +kernel
theorem dX5_storm_100 : decode cX5_storm 100 = .ok (.if_icmp .ge 60, 3) := by decide +kernel
theorem dX5_storm_103 : decode cX5_storm 103 = .ok (.lload 10, 2) := by decide +kernel
theorem dX5_storm_105 : decode cX5_storm 105 = .ok (.iload 9, 2) := by decide +kernel
theorem dX5_storm_107 : decode cX5_storm 107 = .ok (.iload 12, 2) := by decide +kernel
theorem dX5_storm_109 : decode cX5_storm 109 = .ok (.invokestatic 69, 3) := by decide +kernel
theorem dX5_storm_112 : decode cX5_storm 112 = .ok (.ifCond .eq 7, 3) := by decide +kernel
theorem dX5_storm_115 : decode cX5_storm 115 = .ok (.lconst 1, 1) := by decide +kernel
theorem dX5_storm_116 : decode cX5_storm 116 = .ok (.goto 7, 3) := by decide +kernel
theorem dX5_storm_119 : decode cX5_storm 119 = .ok (.iload_n 3, 1) := by decide +kernel
theorem dX5_storm_120 : decode cX5_storm 120 = .ok (.iconst 1, 1) := by decide +kernel
theorem dX5_storm_121 : decode cX5_storm 121 = .ok (.isub, 1) := by decide +kernel
theorem dX5_storm_122 : decode cX5_storm 122 = .ok (.i2l, 1) := by decide +kernel
theorem dX5_storm_123 : decode cX5_storm 123 = .ok (.lmul, 1) := by decide +kernel
theorem dX5_storm_124 : decode cX5_storm 124 = .ok (.lstore 10, 2) := by decide +kernel
theorem dX5_storm_126 : decode cX5_storm 126 = .ok (.aload_n 0, 1) := by decide +kernel
theorem dX5_storm_127 : decode cX5_storm 127 = .ok (.getfield 13, 3) := by decide +kernel
theorem dX5_storm_130 : decode cX5_storm 130 = .ok (.iload 9, 2) := by decide +kernel
theorem dX5_storm_132 : decode cX5_storm 132 = .ok (.iload 12, 2) := by decide +kernel
theorem dX5_storm_134 : decode cX5_storm 134 = .ok (.invokestatic 69, 3) := by decide +kernel
theorem dX5_storm_137 : decode cX5_storm 137 = .ok (.ifCond .eq 8, 3) := by decide +kernel
theorem dX5_storm_140 : decode cX5_storm 140 = .ok (.bipush 9, 2) := by decide +kernel
theorem dX5_storm_142 : decode cX5_storm 142 = .ok (.goto 9, 3) := by decide +kernel
theorem dX5_storm_145 : decode cX5_storm 145 = .ok (.aload_n 0, 1) := by decide +kernel
theorem dX5_storm_146 : decode cX5_storm 146 = .ok (.getfield 13, 3) := by decide +kernel
theorem dX5_storm_149 : decode cX5_storm 149 = .ok (.iconst 2, 1) := by decide +kernel
theorem dX5_storm_150 : decode cX5_storm 150 = .ok (.iaload, 1) := by decide +kernel
theorem dX5_storm_151 : decode cX5_storm 151 = .ok (.invokestatic 96, 3) := by decide +kernel
theorem dX5_storm_154 : decode cX5_storm 154 = .ok (.iinc 12 1, 3) := by decide +kernel
theorem dX5_storm_157 : decode cX5_storm 157 = .ok (.goto (-60), 3) := by decide +kernel
theorem dX5_storm_160 : decode cX5_storm 160 = .ok (.lload 5, 2) := by decide +kernel
theorem dX5_storm_162 : decode cX5_storm 162 = .ok (.aload_n 0, 1) := by decide +kernel
theorem dX5_storm_163 : decode cX5_storm 163 = .ok (.getfield 13, 3) := by decide +kernel
theorem dX5_storm_166 : decode cX5_storm 166 = .ok (.iload_n 1, 1) := by decide +kernel
theorem dX5_storm_167 : decode cX5_storm 167 = .ok (.invokestatic 51, 3) := by decide +kernel
theorem dX5_storm_170 : decode cX5_storm 170 = .ok (.ifCond .ne 8, 3) := by decide +kernel
theorem dX5_storm_173 : decode cX5_storm 173 = .ok (.lload 10, 2) := by decide +kernel
theorem dX5_storm_175 : decode cX5_storm 175 = .ok (.goto 4, 3) := by decide +kernel
theorem dX5_storm_178 : decode cX5_storm 178 = .ok (.lconst 0, 1) := by decide +kernel
theorem dX5_storm_179 : decode cX5_storm 179 = .ok (.ladd, 1) := by decide +kernel
theorem dX5_storm_180 : decode cX5_storm 180 = .ok (.lstore 5, 2) := by decide +kernel
theorem dX5_storm_182 : decode cX5_storm 182 = .ok (.iinc 9 1, 3) := by decide +kernel
theorem dX5_storm_185 : decode cX5_storm 185 = .ok (.goto (-113), 3) := by decide +kernel
theorem dX5_storm_188 : decode cX5_storm 188 = .ok (.lload 5, 2) := by decide +kernel
theorem dX5_storm_190 : decode cX5_storm 190 = .ok (.lload 7, 2) := by decide +kernel
theorem dX5_storm_192 : decode cX5_storm 192 = .ok (.iload 4, 2) := by decide +kernel
theorem dX5_storm_194 : decode cX5_storm 194 = .ok (.invokestatic 193, 3) := by decide +kernel
theorem dX5_storm_197 : decode cX5_storm 197 = .ok (.lreturn, 1) := by decide +kernel
theorem dX5_sumOf_0 : decode cX5_sumOf 0 = .ok (.iconst 0, 1) := by decide +kernel
theorem dX5_sumOf_1 : decode cX5_sumOf 1 = .ok (.istore_n 2, 1) := by decide +kernel
theorem dX5_sumOf_2 : decode cX5_sumOf 2 = .ok (.iconst 0, 1) := by decide +kernel
theorem dX5_sumOf_3 : decode cX5_sumOf 3 = .ok (.istore_n 3, 1) := by decide +kernel
theorem dX5_sumOf_4 : decode cX5_sumOf 4 = .ok (.iload_n 3, 1) := by decide +kernel
theorem dX5_sumOf_5 : decode cX5_sumOf 5 = .ok (.bipush 10, 2) := by decide +kernel
theorem dX5_sumOf_7 : decode cX5_sumOf 7 = .ok (.if_icmp .ge 20, 3) := by decide +kernel
theorem dX5_sumOf_10 : decode cX5_sumOf 10 = .ok (.iload_n 2, 1) := by decide +kernel
theorem dX5_sumOf_11 : decode cX5_sumOf 11 = .ok (.aload_n 0, 1) := by decide +kernel
theorem dX5_sumOf_12 : decode cX5_sumOf 12 = .ok (.getfield 9, 3) := by decide +kernel
theorem dX5_sumOf_15 : decode cX5_sumOf 15 = .ok (.iload_n 1, 1) := by decide +kernel
theorem dX5_sumOf_16 : decode cX5_sumOf 16 = .ok (.iload_n 3, 1) := by decide +kernel
theorem dX5_sumOf_17 : decode cX5_sumOf 17 = .ok (.iadd, 1) := by decide +kernel
theorem dX5_sumOf_18 : decode cX5_sumOf 18 = .ok (.iaload, 1) := by decide +kernel
theorem dX5_sumOf_19 : decode cX5_sumOf 19 = .ok (.iadd, 1) := by decide +kernel
theorem dX5_sumOf_20 : decode cX5_sumOf 20 = .ok (.istore_n 2, 1) := by decide +kernel
theorem dX5_sumOf_21 : decode cX5_sumOf 21 = .ok (.iinc 3 1, 3) := by decide +kernel
theorem dX5_sumOf_24 : decode cX5_sumOf 24 = .ok (.goto (-20), 3) := by decide +kernel
theorem dX5_sumOf_27 : decode cX5_sumOf 27 = .ok (.iload_n 2, 1) := by decide +kernel
theorem dX5_sumOf_28 : decode cX5_sumOf 28 = .ok (.ireturn, 1) := by decide +kernel
theorem dX5_mean_0 : decode cX5_mean 0 = .ok (.iload_n 1, 1) := by decide +kernel
theorem dX5_mean_1 : decode cX5_mean 1 = .ok (.iconst 0, 1) := by decide +kernel
theorem dX5_mean_2 : decode cX5_mean 2 = .ok (.iconst 1, 1) := by decide +kernel
theorem dX5_mean_3 : decode cX5_mean 3 = .ok (.invokestatic 43, 3) := by decide +kernel
theorem dX5_mean_6 : decode cX5_mean 6 = .ok (.ifCond .eq 19, 3) := by decide +kernel
theorem dX5_mean_9 : decode cX5_mean 9 = .ok (.aload_n 0, 1) := by decide +kernel
theorem dX5_mean_10 : decode cX5_mean 10 = .ok (.iconst 5, 1) := by decide +kernel
theorem dX5_mean_11 : decode cX5_mean 11 = .ok (.invokevirtual 197, 3) := by decide +kernel
theorem dX5_mean_14 : decode cX5_mean 14 = .ok (.i2l, 1) := by decide +kernel
theorem dX5_mean_15 : decode cX5_mean 15 = .ok (.ldc2_w 200, 3) := by decide +kernel
theorem dX5_mean_18 : decode cX5_mean 18 = .ok (.iload_n 1, 1) := by decide +kernel
theorem dX5_mean_19 : decode cX5_mean 19 = .ok (.invokestatic 193, 3) := by decide +kernel
theorem dX5_mean_22 : decode cX5_mean 22 = .ok (.goto 6, 3) := by decide +kernel
theorem dX5_mean_25 : decode cX5_mean 25 = .ok (.ldc2_w 191, 3) := by decide +kernel
theorem dX5_mean_28 : decode cX5_mean 28 = .ok (.lreturn, 1) := by decide +kernel
theorem dX5_forged_0 : decode cX5_forged 0 = .ok (.aload_n 0, 1) := by decide +kernel
theorem dX5_forged_1 : decode cX5_forged 1 = .ok (.iload_n 1, 1) := by decide +kernel
theorem dX5_forged_2 : decode cX5_forged 2 = .ok (.iconst (-1), 1) := by decide +kernel
theorem dX5_forged_3 : decode cX5_forged 3 = .ok (.invokevirtual 133, 3) := by decide +kernel
theorem dX5_forged_6 : decode cX5_forged 6 = .ok (.istore_n 2, 1) := by decide +kernel
theorem dX5_forged_7 : decode cX5_forged 7 = .ok (.iload_n 2, 1) := by decide +kernel
theorem dX5_forged_8 : decode cX5_forged 8 = .ok (.ifCond .eq 5, 3) := by decide +kernel
theorem dX5_forged_11 : decode cX5_forged 11 = .ok (.iload_n 2, 1) := by decide +kernel
theorem dX5_forged_12 : decode cX5_forged 12 = .ok (.ireturn, 1) := by decide +kernel
theorem dX5_forged_13 : decode cX5_forged 13 = .ok (.iconst 0, 1) := by decide +kernel
theorem dX5_forged_14 : decode cX5_forged 14 = .ok (.istore_n 3, 1) := by decide +kernel
theorem dX5_forged_15 : decode cX5_forged 15 = .ok (.iload_n 3, 1) := by decide +kernel
theorem dX5_forged_16 : decode cX5_forged 16 = .ok (.aload_n 0, 1) := by decide +kernel
theorem dX5_forged_17 : decode cX5_forged 17 = .ok (.getfield 37, 3) := by decide +kernel
theorem dX5_forged_20 : decode cX5_forged 20 = .ok (.iload_n 1, 1) := by decide +kernel
theorem dX5_forged_21 : decode cX5_forged 21 = .ok (.iaload, 1) := by decide +kernel
theorem dX5_forged_22 : decode cX5_forged 22 = .ok (.if_icmp .ge 44, 3) := by decide +kernel
theorem dX5_forged_25 : decode cX5_forged 25 = .ok (.iload_n 3, 1) := by decide +kernel
theorem dX5_forged_26 : decode cX5_forged 26 = .ok (.invokestatic 61, 3) := by decide +kernel
theorem dX5_forged_29 : decode cX5_forged 29 = .ok (.ifCond .eq 29, 3) := by decide +kernel
theorem dX5_forged_32 : decode cX5_forged 32 = .ok (.aload_n 0, 1) := by decide +kernel
theorem dX5_forged_33 : decode cX5_forged 33 = .ok (.getfield 40, 3) := by decide +kernel
theorem dX5_forged_36 : decode cX5_forged 36 = .ok (.bipush 100, 2) := by decide +kernel
theorem dX5_forged_38 : decode cX5_forged 38 = .ok (.iload_n 1, 1) := by decide +kernel
theorem dX5_forged_39 : decode cX5_forged 39 = .ok (.imul, 1) := by decide +kernel
theorem dX5_forged_40 : decode cX5_forged 40 = .ok (.iload_n 3, 1) := by decide +kernel
theorem dX5_forged_41 : decode cX5_forged 41 = .ok (.iadd, 1) := by decide +kernel
theorem dX5_forged_42 : decode cX5_forged 42 = .ok (.iaload, 1) := by decide +kernel
theorem dX5_forged_43 : decode cX5_forged 43 = .ok (.iconst 0, 1) := by decide +kernel
theorem dX5_forged_44 : decode cX5_forged 44 = .ok (.aload_n 0, 1) := by decide +kernel
theorem dX5_forged_45 : decode cX5_forged 45 = .ok (.getfield 9, 3) := by decide +kernel
theorem dX5_forged_48 : decode cX5_forged 48 = .ok (.iconst 5, 1) := by decide +kernel
theorem dX5_forged_49 : decode cX5_forged 49 = .ok (.iload_n 3, 1) := by decide +kernel
theorem dX5_forged_50 : decode cX5_forged 50 = .ok (.iadd, 1) := by decide +kernel
theorem dX5_forged_51 : decode cX5_forged 51 = .ok (.iaload, 1) := by decide +kernel
theorem dX5_forged_52 : decode cX5_forged 52 = .ok (.invokestatic 43, 3) := by decide +kernel
theorem dX5_forged_55 : decode cX5_forged 55 = .ok (.ifCond .ne 5, 3) := by decide +kernel
theorem dX5_forged_58 : decode cX5_forged 58 = .ok (.iload_n 3, 1) := by decide +kernel
theorem dX5_forged_59 : decode cX5_forged 59 = .ok (.ireturn, 1) := by decide +kernel
theorem dX5_forged_60 : decode cX5_forged 60 = .ok (.iinc 3 1, 3) := by decide +kernel
theorem dX5_forged_63 : decode cX5_forged 63 = .ok (.goto (-48), 3) := by decide +kernel
theorem dX5_forged_66 : decode cX5_forged 66 = .ok (.bipush (-4), 2) := by decide +kernel
theorem dX5_forged_68 : decode cX5_forged 68 = .ok (.ireturn, 1) := by decide +kernel
theorem dX5_judge_0 : decode cX5_judge 0 = .ok (.aload_n 0, 1) := by decide +kernel
theorem dX5_judge_1 : decode cX5_judge 1 = .ok (.iload_n 1, 1) := by decide +kernel
theorem dX5_judge_2 : decode cX5_judge 2 = .ok (.iconst (-1), 1) := by decide +kernel
theorem dX5_judge_3 : decode cX5_judge 3 = .ok (.invokevirtual 133, 3) := by decide +kernel
theorem dX5_judge_6 : decode cX5_judge 6 = .ok (.istore_n 2, 1) := by decide +kernel
theorem dX5_judge_7 : decode cX5_judge 7 = .ok (.iload_n 2, 1) := by decide +kernel
theorem dX5_judge_8 : decode cX5_judge 8 = .ok (.ifCond .eq 5, 3) := by decide +kernel
theorem dX5_judge_11 : decode cX5_judge 11 = .ok (.iload_n 2, 1) := by decide +kernel
theorem dX5_judge_12 : decode cX5_judge 12 = .ok (.ireturn, 1) := by decide +kernel
theorem dX5_judge_13 : decode cX5_judge 13 = .ok (.aload_n 0, 1) := by decide +kernel
theorem dX5_judge_14 : decode cX5_judge 14 = .ok (.getfield 9, 3) := by decide +kernel
theorem dX5_judge_17 : decode cX5_judge 17 = .ok (.aload_n 0, 1) := by decide +kernel
theorem dX5_judge_18 : decode cX5_judge 18 = .ok (.getfield 13, 3) := by decide +kernel
theorem dX5_judge_21 : decode cX5_judge 21 = .ok (.invokestatic 140, 3) := by decide +kernel
theorem dX5_judge_24 : decode cX5_judge 24 = .ok (.iconst 0, 1) := by decide +kernel
theorem dX5_judge_25 : decode cX5_judge 25 = .ok (.istore_n 3, 1) := by decide +kernel
theorem dX5_judge_26 : decode cX5_judge 26 = .ok (.iload_n 3, 1) := by decide +kernel
theorem dX5_judge_27 : decode cX5_judge 27 = .ok (.aload_n 0, 1) := by decide +kernel
theorem dX5_judge_28 : decode cX5_judge 28 = .ok (.getfield 37, 3) := by decide +kernel
theorem dX5_judge_31 : decode cX5_judge 31 = .ok (.iload_n 1, 1) := by decide +kernel
theorem dX5_judge_32 : decode cX5_judge 32 = .ok (.iaload, 1) := by decide +kernel
theorem dX5_judge_33 : decode cX5_judge 33 = .ok (.if_icmp .ge 59, 3) := by decide +kernel
theorem dX5_judge_36 : decode cX5_judge 36 = .ok (.aload_n 0, 1) := by decide +kernel
theorem dX5_judge_37 : decode cX5_judge 37 = .ok (.getfield 40, 3) := by decide +kernel
theorem dX5_judge_40 : decode cX5_judge 40 = .ok (.bipush 100, 2) := by decide +kernel
theorem dX5_judge_42 : decode cX5_judge 42 = .ok (.iload_n 1, 1) := by decide +kernel
theorem dX5_judge_43 : decode cX5_judge 43 = .ok (.imul, 1) := by decide +kernel
theorem dX5_judge_44 : decode cX5_judge 44 = .ok (.iload_n 3, 1) := by decide +kernel
theorem dX5_judge_45 : decode cX5_judge 45 = .ok (.iadd, 1) := by decide +kernel
theorem dX5_judge_46 : decode cX5_judge 46 = .ok (.iaload, 1) := by decide +kernel
theorem dX5_judge_47 : decode cX5_judge 47 = .ok (.istore 4, 2) := by decide +kernel
theorem dX5_judge_49 : decode cX5_judge 49 = .ok (.iload 4, 2) := by decide +kernel
theorem dX5_judge_51 : decode cX5_judge 51 = .ok (.aload_n 0, 1) := by decide +kernel
theorem dX5_judge_52 : decode cX5_judge 52 = .ok (.getfield 34, 3) := by decide +kernel
theorem dX5_judge_55 : decode cX5_judge 55 = .ok (.iload_n 1, 1) := by decide +kernel
theorem dX5_judge_56 : decode cX5_judge 56 = .ok (.iaload, 1) := by decide +kernel
theorem dX5_judge_57 : decode cX5_judge 57 = .ok (.invokestatic 177, 3) := by decide +kernel
theorem dX5_judge_60 : decode cX5_judge 60 = .ok (.if_icmp .eq 18, 3) := by decide +kernel
theorem dX5_judge_63 : decode cX5_judge 63 = .ok (.iload 4, 2) := by decide +kernel
theorem dX5_judge_65 : decode cX5_judge 65 = .ok (.aload_n 0, 1) := by decide +kernel
theorem dX5_judge_66 : decode cX5_judge 66 = .ok (.getfield 13, 3) := by decide +kernel
theorem dX5_judge_69 : decode cX5_judge 69 = .ok (.iconst (-1), 1) := by decide +kernel
theorem dX5_judge_70 : decode cX5_judge 70 = .ok (.invokestatic 152, 3) := by decide +kernel
theorem dX5_judge_73 : decode cX5_judge 73 = .ok (.if_icmp .eq 5, 3) := by decide +kernel
theorem dX5_judge_76 : decode cX5_judge 76 = .ok (.iload_n 3, 1) := by decide +kernel
theorem dX5_judge_77 : decode cX5_judge 77 = .ok (.ireturn, 1) := by decide +kernel
theorem dX5_judge_78 : decode cX5_judge 78 = .ok (.aload_n 0, 1) := by decide +kernel
theorem dX5_judge_79 : decode cX5_judge 79 = .ok (.getfield 13, 3) := by decide +kernel
theorem dX5_judge_82 : decode cX5_judge 82 = .ok (.iconst 1, 1) := by decide +kernel
theorem dX5_judge_83 : decode cX5_judge 83 = .ok (.invokestatic 130, 3) := by decide +kernel
theorem dX5_judge_86 : decode cX5_judge 86 = .ok (.iinc 3 1, 3) := by decide +kernel
theorem dX5_judge_89 : decode cX5_judge 89 = .ok (.goto (-63), 3) := by decide +kernel
theorem dX5_judge_92 : decode cX5_judge 92 = .ok (.bipush (-4), 2) := by decide +kernel
theorem dX5_judge_94 : decode cX5_judge 94 = .ok (.ireturn, 1) := by decide +kernel
theorem dX5_drawn_0 : decode cX5_drawn 0 = .ok (.aload_n 0, 1) := by decide +kernel
theorem dX5_drawn_1 : decode cX5_drawn 1 = .ok (.aload_n 0, 1) := by decide +kernel
theorem dX5_drawn_2 : decode cX5_drawn 2 = .ok (.getfield 202, 3) := by decide +kernel
theorem dX5_drawn_5 : decode cX5_drawn 5 = .ok (.ldc 205, 2) := by decide +kernel
theorem dX5_drawn_7 : decode cX5_drawn 7 = .ok (.imul, 1) := by decide +kernel
theorem dX5_drawn_8 : decode cX5_drawn 8 = .ok (.sipush 12345, 3) := by decide +kernel
theorem dX5_drawn_11 : decode cX5_drawn 11 = .ok (.iadd, 1) := by decide +kernel
theorem dX5_drawn_12 : decode cX5_drawn 12 = .ok (.putfield 202, 3) := by decide +kernel
theorem dX5_drawn_15 : decode cX5_drawn 15 = .ok (.aload_n 0, 1) := by decide +kernel
theorem dX5_drawn_16 : decode cX5_drawn 16 = .ok (.getfield 202, 3) := by decide +kernel
theorem dX5_drawn_19 : decode cX5_drawn 19 = .ok (.ldc 206, 2) := by decide +kernel
theorem dX5_drawn_21 : decode cX5_drawn 21 = .ok (.iand, 1) := by decide +kernel
theorem dX5_drawn_22 : decode cX5_drawn 22 = .ok (.ldc 207, 2) := by decide +kernel
theorem dX5_drawn_24 : decode cX5_drawn 24 = .ok (.idiv, 1) := by decide +kernel
theorem dX5_drawn_25 : decode cX5_drawn 25 = .ok (.iload_n 1, 1) := by decide +kernel
theorem dX5_drawn_26 : decode cX5_drawn 26 = .ok (.irem, 1) := by decide +kernel
theorem dX5_drawn_27 : decode cX5_drawn 27 = .ok (.ireturn, 1) := by decide +kernel
theorem dX5_deserts_0 : decode cX5_deserts 0 = .ok (.iload_n 1, 1) := by decide +kernel
theorem dX5_deserts_1 : decode cX5_deserts 1 = .ok (.iconst 1, 1) := by decide +kernel
theorem dX5_deserts_2 : decode cX5_deserts 2 = .ok (.bipush 20, 2) := by decide +kernel
theorem dX5_deserts_4 : decode cX5_deserts 4 = .ok (.invokestatic 43, 3) := by decide +kernel
theorem dX5_deserts_7 : decode cX5_deserts 7 = .ok (.ifCond .eq 12, 3) := by decide +kernel
theorem dX5_deserts_10 : decode cX5_deserts 10 = .ok (.iload_n 3, 1) := by decide +kernel
theorem dX5_deserts_11 : decode cX5_deserts 11 = .ok (.iconst 0, 1) := by decide +kernel
theorem dX5_deserts_12 : decode cX5_deserts 12 = .ok (.iconst 1, 1) := by decide +kernel
theorem dX5_deserts_13 : decode cX5_deserts 13 = .ok (.invokestatic 43, 3) := by decide +kernel
theorem dX5_deserts_16 : decode cX5_deserts 16 = .ok (.ifCond .ne 5, 3) := by decide +kernel
theorem dX5_deserts_19 : decode cX5_deserts 19 = .ok (.iconst (-1), 1) := by decide +kernel
theorem dX5_deserts_20 : decode cX5_deserts 20 = .ok (.ireturn, 1) := by decide +kernel
theorem dX5_deserts_21 : decode cX5_deserts 21 = .ok (.aload_n 0, 1) := by decide +kernel
theorem dX5_deserts_22 : decode cX5_deserts 22 = .ok (.iload_n 2, 1) := by decide +kernel
theorem dX5_deserts_23 : decode cX5_deserts 23 = .ok (.putfield 202, 3) := by decide +kernel
theorem dX5_deserts_26 : decode cX5_deserts 26 = .ok (.iconst 0, 1) := by decide +kernel
theorem dX5_deserts_27 : decode cX5_deserts 27 = .ok (.istore 4, 2) := by decide +kernel
theorem dX5_deserts_29 : decode cX5_deserts 29 = .ok (.iconst 0, 1) := by decide +kernel
theorem dX5_deserts_30 : decode cX5_deserts 30 = .ok (.istore 5, 2) := by decide +kernel
theorem dX5_deserts_32 : decode cX5_deserts 32 = .ok (.iload 5, 2) := by decide +kernel
theorem dX5_deserts_34 : decode cX5_deserts 34 = .ok (.iload_n 1, 1) := by decide +kernel
theorem dX5_deserts_35 : decode cX5_deserts 35 = .ok (.if_icmp .ge 100, 3) := by decide +kernel
theorem dX5_deserts_38 : decode cX5_deserts 38 = .ok (.aload_n 0, 1) := by decide +kernel
theorem dX5_deserts_39 : decode cX5_deserts 39 = .ok (.getfield 9, 3) := by decide +kernel
theorem dX5_deserts_42 : decode cX5_deserts 42 = .ok (.aload_n 0, 1) := by decide +kernel
theorem dX5_deserts_43 : decode cX5_deserts 43 = .ok (.getfield 13, 3) := by decide +kernel
theorem dX5_deserts_46 : decode cX5_deserts 46 = .ok (.invokestatic 140, 3) := by decide +kernel
theorem dX5_deserts_49 : decode cX5_deserts 49 = .ok (.iconst 0, 1) := by decide +kernel
theorem dX5_deserts_50 : decode cX5_deserts 50 = .ok (.istore 6, 2) := by decide +kernel
theorem dX5_deserts_52 : decode cX5_deserts 52 = .ok (.iload 6, 2) := by decide +kernel
theorem dX5_deserts_54 : decode cX5_deserts 54 = .ok (.bipush 10, 2) := by decide +kernel
theorem dX5_deserts_56 : decode cX5_deserts 56 = .ok (.if_icmp .ge 25, 3) := by decide +kernel
theorem dX5_deserts_59 : decode cX5_deserts 59 = .ok (.aload_n 0, 1) := by decide +kernel
theorem dX5_deserts_60 : decode cX5_deserts 60 = .ok (.getfield 13, 3) := by decide +kernel
theorem dX5_deserts_63 : decode cX5_deserts 63 = .ok (.iload 6, 2) := by decide +kernel
theorem dX5_deserts_65 : decode cX5_deserts 65 = .ok (.aload_n 0, 1) := by decide +kernel
theorem dX5_deserts_66 : decode cX5_deserts 66 = .ok (.sipush 200, 3) := by decide +kernel
theorem dX5_deserts_69 : decode cX5_deserts 69 = .ok (.invokevirtual 208, 3) := by decide +kernel
theorem dX5_deserts_72 : decode cX5_deserts 72 = .ok (.invokestatic 120, 3) := by decide +kernel
theorem dX5_deserts_75 : decode cX5_deserts 75 = .ok (.iinc 6 1, 3) := by decide +kernel
theorem dX5_deserts_78 : decode cX5_deserts 78 = .ok (.goto (-26), 3) := by decide +kernel
theorem dX5_deserts_81 : decode cX5_deserts 81 = .ok (.aload_n 0, 1) := by decide +kernel
theorem dX5_deserts_82 : decode cX5_deserts 82 = .ok (.getfield 13, 3) := by decide +kernel
theorem dX5_deserts_85 : decode cX5_deserts 85 = .ok (.bipush 10, 2) := by decide +kernel
theorem dX5_deserts_87 : decode cX5_deserts 87 = .ok (.invokestatic 130, 3) := by decide +kernel
theorem dX5_deserts_90 : decode cX5_deserts 90 = .ok (.iload 4, 2) := by decide +kernel
theorem dX5_deserts_92 : decode cX5_deserts 92 = .ok (.iload_n 3, 1) := by decide +kernel
theorem dX5_deserts_93 : decode cX5_deserts 93 = .ok (.ifCond .ne 16, 3) := by decide +kernel
theorem dX5_deserts_96 : decode cX5_deserts 96 = .ok (.aload_n 0, 1) := by decide +kernel
theorem dX5_deserts_97 : decode cX5_deserts 97 = .ok (.getfield 13, 3) := by decide +kernel
theorem dX5_deserts_100 : decode cX5_deserts 100 = .ok (.invokestatic 162, 3) := by decide +kernel
theorem dX5_deserts_103 : decode cX5_deserts 103 = .ok (.invokestatic 166, 3) := by decide +kernel
theorem dX5_deserts_106 : decode cX5_deserts 106 = .ok (.goto 20, 3) := by decide +kernel
theorem dX5_deserts_109 : decode cX5_deserts 109 = .ok (.aload_n 0, 1) := by decide +kernel
theorem dX5_deserts_110 : decode cX5_deserts 110 = .ok (.getfield 13, 3) := by decide +kernel
theorem dX5_deserts_113 : decode cX5_deserts 113 = .ok (.iconst (-1), 1) := by decide +kernel
theorem dX5_deserts_114 : decode cX5_deserts 114 = .ok (.invokestatic 152, 3) := by decide +kernel
theorem dX5_deserts_117 : decode cX5_deserts 117 = .ok (.aload_n 0, 1) := by decide +kernel
theorem dX5_deserts_118 : decode cX5_deserts 118 = .ok (.getfield 9, 3) := by decide +kernel
theorem dX5_deserts_121 : decode cX5_deserts 121 = .ok (.iconst (-1), 1) := by decide +kernel
theorem dX5_deserts_122 : decode cX5_deserts 122 = .ok (.invokestatic 152, 3) := by decide +kernel
theorem dX5_deserts_125 : decode cX5_deserts 125 = .ok (.isub, 1) := by decide +kernel
theorem dX5_deserts_126 : decode cX5_deserts 126 = .ok (.iadd, 1) := by decide +kernel
theorem dX5_deserts_127 : decode cX5_deserts 127 = .ok (.istore 4, 2) := by decide +kernel
theorem dX5_deserts_129 : decode cX5_deserts 129 = .ok (.iinc 5 1, 3) := by decide +kernel
theorem dX5_deserts_132 : decode cX5_deserts 132 = .ok (.goto (-100), 3) := by decide +kernel
theorem dX5_deserts_135 : decode cX5_deserts 135 = .ok (.iload 4, 2) := by decide +kernel
theorem dX5_deserts_137 : decode cX5_deserts 137 = .ok (.ireturn, 1) := by decide +kernel
theorem dX5_image_0 : decode cX5_image 0 = .ok (.aload_n 0, 1) := by decide +kernel
theorem dX5_image_1 : decode cX5_image 1 = .ok (.getfield 9, 3) := by decide +kernel
theorem dX5_image_4 : decode cX5_image 4 = .ok (.aload_n 0, 1) := by decide +kernel
theorem dX5_image_5 : decode cX5_image 5 = .ok (.getfield 16, 3) := by decide +kernel
theorem dX5_image_8 : decode cX5_image 8 = .ok (.invokestatic 140, 3) := by decide +kernel
theorem dX5_image_11 : decode cX5_image 11 = .ok (.aload_n 0, 1) := by decide +kernel
theorem dX5_image_12 : decode cX5_image 12 = .ok (.iconst 1, 1) := by decide +kernel
theorem dX5_image_13 : decode cX5_image 13 = .ok (.putfield 211, 3) := by decide +kernel
theorem dX5_image_16 : decode cX5_image 16 = .ok (.aload_n 0, 1) := by decide +kernel
theorem dX5_image_17 : decode cX5_image 17 = .ok (.getfield 9, 3) := by decide +kernel
theorem dX5_image_20 : decode cX5_image 20 = .ok (.iconst 1, 1) := by decide +kernel
theorem dX5_image_21 : decode cX5_image 21 = .ok (.iaload, 1) := by decide +kernel
theorem dX5_image_22 : decode cX5_image 22 = .ok (.ireturn, 1) := by decide +kernel
theorem dX5_restore_0 : decode cX5_restore 0 = .ok (.aload_n 0, 1) := by decide +kernel
theorem dX5_restore_1 : decode cX5_restore 1 = .ok (.getfield 211, 3) := by decide +kernel
theorem dX5_restore_4 : decode cX5_restore 4 = .ok (.ifCond .ne 6, 3) := by decide +kernel
theorem dX5_restore_7 : decode cX5_restore 7 = .ok (.bipush (-3), 2) := by decide +kernel
theorem dX5_restore_9 : decode cX5_restore 9 = .ok (.ireturn, 1) := by decide +kernel
theorem dX5_restore_10 : decode cX5_restore 10 = .ok (.aload_n 0, 1) := by decide +kernel
theorem dX5_restore_11 : decode cX5_restore 11 = .ok (.getfield 16, 3) := by decide +kernel
theorem dX5_restore_14 : decode cX5_restore 14 = .ok (.aload_n 0, 1) := by decide +kernel
theorem dX5_restore_15 : decode cX5_restore 15 = .ok (.getfield 9, 3) := by decide +kernel
theorem dX5_restore_18 : decode cX5_restore 18 = .ok (.invokestatic 140, 3) := by decide +kernel
theorem dX5_restore_21 : decode cX5_restore 21 = .ok (.aload_n 0, 1) := by decide +kernel
theorem dX5_restore_22 : decode cX5_restore 22 = .ok (.getfield 9, 3) := by decide +kernel
theorem dX5_restore_25 : decode cX5_restore 25 = .ok (.iconst 1, 1) := by decide +kernel
theorem dX5_restore_26 : decode cX5_restore 26 = .ok (.iaload, 1) := by decide +kernel
theorem dX5_restore_27 : decode cX5_restore 27 = .ok (.ireturn, 1) := by decide +kernel
theorem dX5_count_0 : decode cX5_count 0 = .ok (.iconst 0, 1) := by decide +kernel
theorem dX5_count_1 : decode cX5_count 1 = .ok (.istore_n 2, 1) := by decide +kernel
theorem dX5_count_2 : decode cX5_count 2 = .ok (.iload_n 1, 1) := by decide +kernel
theorem dX5_count_3 : decode cX5_count 3 = .ok (.tableswitch 115 0 6 #[41, 41, 48, 54, 61, 70, 105], 41) := by decide +kernel
theorem dX5_count_44 : decode cX5_count 44 = .ok (.aload_n 0, 1) := by decide +kernel
theorem dX5_count_45 : decode cX5_count 45 = .ok (.getfield 9, 3) := by decide +kernel
theorem dX5_count_48 : decode cX5_count 48 = .ok (.iload_n 1, 1) := by decide +kernel
theorem dX5_count_49 : decode cX5_count 49 = .ok (.iaload, 1) := by decide +kernel
theorem dX5_count_50 : decode cX5_count 50 = .ok (.ireturn, 1) := by decide +kernel
theorem dX5_count_51 : decode cX5_count 51 = .ok (.aload_n 0, 1) := by decide +kernel
theorem dX5_count_52 : decode cX5_count 52 = .ok (.iconst 5, 1) := by decide +kernel
theorem dX5_count_53 : decode cX5_count 53 = .ok (.invokevirtual 197, 3) := by decide +kernel
theorem dX5_count_56 : decode cX5_count 56 = .ok (.ireturn, 1) := by decide +kernel
theorem dX5_count_57 : decode cX5_count 57 = .ok (.aload_n 0, 1) := by decide +kernel
theorem dX5_count_58 : decode cX5_count 58 = .ok (.bipush 15, 2) := by decide +kernel
theorem dX5_count_60 : decode cX5_count 60 = .ok (.invokevirtual 197, 3) := by decide +kernel
theorem dX5_count_63 : decode cX5_count 63 = .ok (.ireturn, 1) := by decide +kernel
theorem dX5_count_64 : decode cX5_count 64 = .ok (.aload_n 0, 1) := by decide +kernel
theorem dX5_count_65 : decode cX5_count 65 = .ok (.getfield 9, 3) := by decide +kernel
theorem dX5_count_68 : decode cX5_count 68 = .ok (.iconst (-1), 1) := by decide +kernel
theorem dX5_count_69 : decode cX5_count 69 = .ok (.invokestatic 152, 3) := by decide +kernel
theorem dX5_count_72 : decode cX5_count 72 = .ok (.ireturn, 1) := by decide +kernel
theorem dX5_count_73 : decode cX5_count 73 = .ok (.iconst 0, 1) := by decide +kernel
theorem dX5_count_74 : decode cX5_count 74 = .ok (.istore_n 3, 1) := by decide +kernel
theorem dX5_count_75 : decode cX5_count 75 = .ok (.iload_n 3, 1) := by decide +kernel
theorem dX5_count_76 : decode cX5_count 76 = .ok (.aload_n 0, 1) := by decide +kernel
theorem dX5_count_77 : decode cX5_count 77 = .ok (.getfield 9, 3) := by decide +kernel
theorem dX5_count_80 : decode cX5_count 80 = .ok (.iconst 0, 1) := by decide +kernel
theorem dX5_count_81 : decode cX5_count 81 = .ok (.iaload, 1) := by decide +kernel
theorem dX5_count_82 : decode cX5_count 82 = .ok (.if_icmp .ge 24, 3) := by decide +kernel
theorem dX5_count_85 : decode cX5_count 85 = .ok (.iload_n 2, 1) := by decide +kernel
theorem dX5_count_86 : decode cX5_count 86 = .ok (.aload_n 0, 1) := by decide +kernel
theorem dX5_count_87 : decode cX5_count 87 = .ok (.getfield 9, 3) := by decide +kernel
theorem dX5_count_90 : decode cX5_count 90 = .ok (.iload_n 3, 1) := by decide +kernel
theorem dX5_count_91 : decode cX5_count 91 = .ok (.iconst 5, 1) := by decide +kernel
theorem dX5_count_92 : decode cX5_count 92 = .ok (.invokestatic 47, 3) := by decide +kernel
theorem dX5_count_95 : decode cX5_count 95 = .ok (.iaload, 1) := by decide +kernel
theorem dX5_count_96 : decode cX5_count 96 = .ok (.iload_n 3, 1) := by decide +kernel
theorem dX5_count_97 : decode cX5_count 97 = .ok (.ishl, 1) := by decide +kernel
theorem dX5_count_98 : decode cX5_count 98 = .ok (.ior, 1) := by decide +kernel
theorem dX5_count_99 : decode cX5_count 99 = .ok (.istore_n 2, 1) := by decide +kernel
theorem dX5_count_100 : decode cX5_count 100 = .ok (.iinc 3 1, 3) := by decide +kernel
theorem dX5_count_103 : decode cX5_count 103 = .ok (.goto (-28), 3) := by decide +kernel
theorem dX5_count_106 : decode cX5_count 106 = .ok (.iload_n 2, 1) := by decide +kernel
theorem dX5_count_107 : decode cX5_count 107 = .ok (.ireturn, 1) := by decide +kernel
theorem dX5_count_108 : decode cX5_count 108 = .ok (.aload_n 0, 1) := by decide +kernel
theorem dX5_count_109 : decode cX5_count 109 = .ok (.getfield 9, 3) := by decide +kernel
theorem dX5_count_112 : decode cX5_count 112 = .ok (.iconst 2, 1) := by decide +kernel
theorem dX5_count_113 : decode cX5_count 113 = .ok (.iaload, 1) := by decide +kernel
theorem dX5_count_114 : decode cX5_count 114 = .ok (.bipush 9, 2) := by decide +kernel
theorem dX5_count_116 : decode cX5_count 116 = .ok (.iadd, 1) := by decide +kernel
theorem dX5_count_117 : decode cX5_count 117 = .ok (.ireturn, 1) := by decide +kernel
theorem dX5_count_118 : decode cX5_count 118 = .ok (.iconst (-1), 1) := by decide +kernel
theorem dX5_count_119 : decode cX5_count 119 = .ok (.ireturn, 1) := by decide +kernel
theorem dX5_thrown_0 : decode cX5_thrown 0 = .ok (.aload_n 0, 1) := by decide +kernel
theorem dX5_thrown_1 : decode cX5_thrown 1 = .ok (.getfield 215, 3) := by decide +kernel
theorem dX5_thrown_4 : decode cX5_thrown 4 = .ok (.ireturn, 1) := by decide +kernel
theorem dX5_isShelf_0 : decode cX5_isShelf 0 = .ok (.iload_n 0, 1) := by decide +kernel
theorem dX5_isShelf_1 : decode cX5_isShelf 1 = .ok (.iconst 0, 1) := by decide +kernel
theorem dX5_isShelf_2 : decode cX5_isShelf 2 = .ok (.bipush 7, 2) := by decide +kernel
theorem dX5_isShelf_4 : decode cX5_isShelf 4 = .ok (.invokestatic 43, 3) := by decide +kernel
theorem dX5_isShelf_7 : decode cX5_isShelf 7 = .ok (.ireturn, 1) := by decide +kernel
theorem dX5_wrongRow_0 : decode cX5_wrongRow 0 = .ok (.iload_n 1, 1) := by decide +kernel
theorem dX5_wrongRow_1 : decode cX5_wrongRow 1 = .ok (.invokestatic 218, 3) := by decide +kernel
theorem dX5_wrongRow_4 : decode cX5_wrongRow 4 = .ok (.ifCond .ne 7, 3) := by decide +kernel
theorem dX5_wrongRow_7 : decode cX5_wrongRow 7 = .ok (.iconst (-1), 1) := by decide +kernel
theorem dX5_wrongRow_8 : decode cX5_wrongRow 8 = .ok (.goto 47, 3) := by decide +kernel
theorem dX5_wrongRow_11 : decode cX5_wrongRow 11 = .ok (.aload_n 0, 1) := by decide +kernel
theorem dX5_wrongRow_12 : decode cX5_wrongRow 12 = .ok (.getfield 25, 3) := by decide +kernel
theorem dX5_wrongRow_15 : decode cX5_wrongRow 15 = .ok (.iload_n 1, 1) := by decide +kernel
theorem dX5_wrongRow_16 : decode cX5_wrongRow 16 = .ok (.iaload, 1) := by decide +kernel
theorem dX5_wrongRow_17 : decode cX5_wrongRow 17 = .ok (.ifCond .ne 8, 3) := by decide +kernel
theorem dX5_wrongRow_20 : decode cX5_wrongRow 20 = .ok (.bipush (-11), 2) := by decide +kernel
theorem dX5_wrongRow_22 : decode cX5_wrongRow 22 = .ok (.goto 33, 3) := by decide +kernel
theorem dX5_wrongRow_25 : decode cX5_wrongRow 25 = .ok (.aload_n 0, 1) := by decide +kernel
theorem dX5_wrongRow_26 : decode cX5_wrongRow 26 = .ok (.getfield 25, 3) := by decide +kernel
theorem dX5_wrongRow_29 : decode cX5_wrongRow 29 = .ok (.iload_n 1, 1) := by decide +kernel
theorem dX5_wrongRow_30 : decode cX5_wrongRow 30 = .ok (.iaload, 1) := by decide +kernel
theorem dX5_wrongRow_31 : decode cX5_wrongRow 31 = .ok (.iconst 2, 1) := by decide +kernel
theorem dX5_wrongRow_32 : decode cX5_wrongRow 32 = .ok (.if_icmp .ne 17, 3) := by decide +kernel
theorem dX5_wrongRow_35 : decode cX5_wrongRow 35 = .ok (.iload_n 2, 1) := by decide +kernel
theorem dX5_wrongRow_36 : decode cX5_wrongRow 36 = .ok (.ifCond .lt 18, 3) := by decide +kernel
theorem dX5_wrongRow_39 : decode cX5_wrongRow 39 = .ok (.aload_n 0, 1) := by decide +kernel
theorem dX5_wrongRow_40 : decode cX5_wrongRow 40 = .ok (.getfield 34, 3) := by decide +kernel
theorem dX5_wrongRow_43 : decode cX5_wrongRow 43 = .ok (.iload_n 1, 1) := by decide +kernel
theorem dX5_wrongRow_44 : decode cX5_wrongRow 44 = .ok (.iaload, 1) := by decide +kernel
theorem dX5_wrongRow_45 : decode cX5_wrongRow 45 = .ok (.iload_n 2, 1) := by decide +kernel
theorem dX5_wrongRow_46 : decode cX5_wrongRow 46 = .ok (.if_icmp .eq 8, 3) := by decide +kernel
theorem dX5_wrongRow_49 : decode cX5_wrongRow 49 = .ok (.bipush (-12), 2) := by decide +kernel
theorem dX5_wrongRow_51 : decode cX5_wrongRow 51 = .ok (.goto 4, 3) := by decide +kernel
theorem dX5_wrongRow_54 : decode cX5_wrongRow 54 = .ok (.iconst 0, 1) := by decide +kernel
theorem dX5_wrongRow_55 : decode cX5_wrongRow 55 = .ok (.ireturn, 1) := by decide +kernel
theorem dX5_wrongKept_0 : decode cX5_wrongKept 0 = .ok (.iload_n 1, 1) := by decide +kernel
theorem dX5_wrongKept_1 : decode cX5_wrongKept 1 = .ok (.invokestatic 218, 3) := by decide +kernel
theorem dX5_wrongKept_4 : decode cX5_wrongKept 4 = .ok (.ifCond .ne 7, 3) := by decide +kernel
theorem dX5_wrongKept_7 : decode cX5_wrongKept 7 = .ok (.iconst (-1), 1) := by decide +kernel
theorem dX5_wrongKept_8 : decode cX5_wrongKept 8 = .ok (.goto 33, 3) := by decide +kernel
theorem dX5_wrongKept_11 : decode cX5_wrongKept 11 = .ok (.aload_n 0, 1) := by decide +kernel
theorem dX5_wrongKept_12 : decode cX5_wrongKept 12 = .ok (.getfield 25, 3) := by decide +kernel
theorem dX5_wrongKept_15 : decode cX5_wrongKept 15 = .ok (.iload_n 1, 1) := by decide +kernel
theorem dX5_wrongKept_16 : decode cX5_wrongKept 16 = .ok (.iaload, 1) := by decide +kernel
theorem dX5_wrongKept_17 : decode cX5_wrongKept 17 = .ok (.ifCond .ne 8, 3) := by decide +kernel
theorem dX5_wrongKept_20 : decode cX5_wrongKept 20 = .ok (.bipush (-11), 2) := by decide +kernel
theorem dX5_wrongKept_22 : decode cX5_wrongKept 22 = .ok (.goto 19, 3) := by decide +kernel
theorem dX5_wrongKept_25 : decode cX5_wrongKept 25 = .ok (.aload_n 0, 1) := by decide +kernel
theorem dX5_wrongKept_26 : decode cX5_wrongKept 26 = .ok (.getfield 25, 3) := by decide +kernel
theorem dX5_wrongKept_29 : decode cX5_wrongKept 29 = .ok (.iload_n 1, 1) := by decide +kernel
theorem dX5_wrongKept_30 : decode cX5_wrongKept 30 = .ok (.iaload, 1) := by decide +kernel
theorem dX5_wrongKept_31 : decode cX5_wrongKept 31 = .ok (.iconst 2, 1) := by decide +kernel
theorem dX5_wrongKept_32 : decode cX5_wrongKept 32 = .ok (.if_icmp .ne 8, 3) := by decide +kernel
theorem dX5_wrongKept_35 : decode cX5_wrongKept 35 = .ok (.bipush (-12), 2) := by decide +kernel
theorem dX5_wrongKept_37 : decode cX5_wrongKept 37 = .ok (.goto 4, 3) := by decide +kernel
theorem dX5_wrongKept_40 : decode cX5_wrongKept 40 = .ok (.iconst 0, 1) := by decide +kernel
theorem dX5_wrongKept_41 : decode cX5_wrongKept 41 = .ok (.ireturn, 1) := by decide +kernel
theorem dX5_keep_0 : decode cX5_keep 0 = .ok (.iload_n 1, 1) := by decide +kernel
theorem dX5_keep_1 : decode cX5_keep 1 = .ok (.invokestatic 218, 3) := by decide +kernel
theorem dX5_keep_4 : decode cX5_keep 4 = .ok (.ifCond .eq 38, 3) := by decide +kernel
theorem dX5_keep_7 : decode cX5_keep 7 = .ok (.iload_n 2, 1) := by decide +kernel
theorem dX5_keep_8 : decode cX5_keep 8 = .ok (.iconst 0, 1) := by decide +kernel
theorem dX5_keep_9 : decode cX5_keep 9 = .ok (.iconst 1, 1) := by decide +kernel
theorem dX5_keep_10 : decode cX5_keep 10 = .ok (.invokestatic 43, 3) := by decide +kernel
theorem dX5_keep_13 : decode cX5_keep 13 = .ok (.ifCond .eq 29, 3) := by decide +kernel
theorem dX5_keep_16 : decode cX5_keep 16 = .ok (.iload_n 2, 1) := by decide +kernel
theorem dX5_keep_17 : decode cX5_keep 17 = .ok (.iconst 1, 1) := by decide +kernel
theorem dX5_keep_18 : decode cX5_keep 18 = .ok (.if_icmp .ne 26, 3) := by decide +kernel
theorem dX5_keep_21 : decode cX5_keep 21 = .ok (.iload_n 3, 1) := by decide +kernel
theorem dX5_keep_22 : decode cX5_keep 22 = .ok (.iconst 0, 1) := by decide +kernel
theorem dX5_keep_23 : decode cX5_keep 23 = .ok (.bipush 7, 2) := by decide +kernel
theorem dX5_keep_25 : decode cX5_keep 25 = .ok (.invokestatic 43, 3) := by decide +kernel
theorem dX5_keep_28 : decode cX5_keep 28 = .ok (.ifCond .eq 14, 3) := by decide +kernel
theorem dX5_keep_31 : decode cX5_keep 31 = .ok (.iload 4, 2) := by decide +kernel
theorem dX5_keep_33 : decode cX5_keep 33 = .ok (.iconst 0, 1) := by decide +kernel
theorem dX5_keep_34 : decode cX5_keep 34 = .ok (.bipush 9, 2) := by decide +kernel
theorem dX5_keep_36 : decode cX5_keep 36 = .ok (.invokestatic 43, 3) := by decide +kernel
theorem dX5_keep_39 : decode cX5_keep 39 = .ok (.ifCond .ne 5, 3) := by decide +kernel
theorem dX5_keep_42 : decode cX5_keep 42 = .ok (.iconst (-1), 1) := by decide +kernel
theorem dX5_keep_43 : decode cX5_keep 43 = .ok (.ireturn, 1) := by decide +kernel
theorem dX5_keep_44 : decode cX5_keep 44 = .ok (.aload_n 0, 1) := by decide +kernel
theorem dX5_keep_45 : decode cX5_keep 45 = .ok (.getfield 25, 3) := by decide +kernel
theorem dX5_keep_48 : decode cX5_keep 48 = .ok (.iload_n 1, 1) := by decide +kernel
theorem dX5_keep_49 : decode cX5_keep 49 = .ok (.iload_n 2, 1) := by decide +kernel
theorem dX5_keep_50 : decode cX5_keep 50 = .ok (.iastore, 1) := by decide +kernel
theorem dX5_keep_51 : decode cX5_keep 51 = .ok (.aload_n 0, 1) := by decide +kernel
theorem dX5_keep_52 : decode cX5_keep 52 = .ok (.getfield 28, 3) := by decide +kernel
theorem dX5_keep_55 : decode cX5_keep 55 = .ok (.iload_n 1, 1) := by decide +kernel
theorem dX5_keep_56 : decode cX5_keep 56 = .ok (.iload_n 3, 1) := by decide +kernel
theorem dX5_keep_57 : decode cX5_keep 57 = .ok (.iastore, 1) := by decide +kernel
theorem dX5_keep_58 : decode cX5_keep 58 = .ok (.aload_n 0, 1) := by decide +kernel
theorem dX5_keep_59 : decode cX5_keep 59 = .ok (.getfield 31, 3) := by decide +kernel
theorem dX5_keep_62 : decode cX5_keep 62 = .ok (.iload_n 1, 1) := by decide +kernel
theorem dX5_keep_63 : decode cX5_keep 63 = .ok (.iload 4, 2) := by decide +kernel
theorem dX5_keep_65 : decode cX5_keep 65 = .ok (.iastore, 1) := by decide +kernel
theorem dX5_keep_66 : decode cX5_keep 66 = .ok (.iconst 0, 1) := by decide +kernel
theorem dX5_keep_67 : decode cX5_keep 67 = .ok (.ireturn, 1) := by decide +kernel
theorem dX5_row_0 : decode cX5_row 0 = .ok (.iload_n 1, 1) := by decide +kernel
theorem dX5_row_1 : decode cX5_row 1 = .ok (.invokestatic 218, 3) := by decide +kernel
theorem dX5_row_4 : decode cX5_row 4 = .ok (.ifCond .eq 18, 3) := by decide +kernel
theorem dX5_row_7 : decode cX5_row 7 = .ok (.iload_n 2, 1) := by decide +kernel
theorem dX5_row_8 : decode cX5_row 8 = .ok (.iconst 0, 1) := by decide +kernel
theorem dX5_row_9 : decode cX5_row 9 = .ok (.iconst 2, 1) := by decide +kernel
theorem dX5_row_10 : decode cX5_row 10 = .ok (.invokestatic 43, 3) := by decide +kernel
theorem dX5_row_13 : decode cX5_row 13 = .ok (.ifCond .eq 9, 3) := by decide +kernel
theorem dX5_row_16 : decode cX5_row 16 = .ok (.iload_n 3, 1) := by decide +kernel
theorem dX5_row_17 : decode cX5_row 17 = .ok (.bipush 100, 2) := by decide +kernel
theorem dX5_row_19 : decode cX5_row 19 = .ok (.if_icmp .le 5, 3) := by decide +kernel
theorem dX5_row_22 : decode cX5_row 22 = .ok (.iconst (-1), 1) := by decide +kernel
theorem dX5_row_23 : decode cX5_row 23 = .ok (.ireturn, 1) := by decide +kernel
theorem dX5_row_24 : decode cX5_row 24 = .ok (.iload_n 3, 1) := by decide +kernel
theorem dX5_row_25 : decode cX5_row 25 = .ok (.ifCond .ge 6, 3) := by decide +kernel
theorem dX5_row_28 : decode cX5_row 28 = .ok (.bipush (-14), 2) := by decide +kernel
theorem dX5_row_30 : decode cX5_row 30 = .ok (.ireturn, 1) := by decide +kernel
theorem dX5_row_31 : decode cX5_row 31 = .ok (.aload_n 0, 1) := by decide +kernel
theorem dX5_row_32 : decode cX5_row 32 = .ok (.getfield 25, 3) := by decide +kernel
theorem dX5_row_35 : decode cX5_row 35 = .ok (.iload_n 1, 1) := by decide +kernel
theorem dX5_row_36 : decode cX5_row 36 = .ok (.iconst 2, 1) := by decide +kernel
theorem dX5_row_37 : decode cX5_row 37 = .ok (.iastore, 1) := by decide +kernel
theorem dX5_row_38 : decode cX5_row 38 = .ok (.aload_n 0, 1) := by decide +kernel
theorem dX5_row_39 : decode cX5_row 39 = .ok (.getfield 34, 3) := by decide +kernel
theorem dX5_row_42 : decode cX5_row 42 = .ok (.iload_n 1, 1) := by decide +kernel
theorem dX5_row_43 : decode cX5_row 43 = .ok (.iload_n 2, 1) := by decide +kernel
theorem dX5_row_44 : decode cX5_row 44 = .ok (.iastore, 1) := by decide +kernel
theorem dX5_row_45 : decode cX5_row 45 = .ok (.aload_n 0, 1) := by decide +kernel
theorem dX5_row_46 : decode cX5_row 46 = .ok (.getfield 37, 3) := by decide +kernel
theorem dX5_row_49 : decode cX5_row 49 = .ok (.iload_n 1, 1) := by decide +kernel
theorem dX5_row_50 : decode cX5_row 50 = .ok (.iload_n 3, 1) := by decide +kernel
theorem dX5_row_51 : decode cX5_row 51 = .ok (.iastore, 1) := by decide +kernel
theorem dX5_row_52 : decode cX5_row 52 = .ok (.iconst 0, 1) := by decide +kernel
theorem dX5_row_53 : decode cX5_row 53 = .ok (.istore 4, 2) := by decide +kernel
theorem dX5_row_55 : decode cX5_row 55 = .ok (.iload 4, 2) := by decide +kernel
theorem dX5_row_57 : decode cX5_row 57 = .ok (.bipush 100, 2) := by decide +kernel
theorem dX5_row_59 : decode cX5_row 59 = .ok (.if_icmp .ge 22, 3) := by decide +kernel
theorem dX5_row_62 : decode cX5_row 62 = .ok (.aload_n 0, 1) := by decide +kernel
theorem dX5_row_63 : decode cX5_row 63 = .ok (.getfield 40, 3) := by decide +kernel
theorem dX5_row_66 : decode cX5_row 66 = .ok (.bipush 100, 2) := by decide +kernel
theorem dX5_row_68 : decode cX5_row 68 = .ok (.iload_n 1, 1) := by decide +kernel
theorem dX5_row_69 : decode cX5_row 69 = .ok (.imul, 1) := by decide +kernel
theorem dX5_row_70 : decode cX5_row 70 = .ok (.iload 4, 2) := by decide +kernel
theorem dX5_row_72 : decode cX5_row 72 = .ok (.iadd, 1) := by decide +kernel
theorem dX5_row_73 : decode cX5_row 73 = .ok (.iconst 0, 1) := by decide +kernel
theorem dX5_row_74 : decode cX5_row 74 = .ok (.iastore, 1) := by decide +kernel
theorem dX5_row_75 : decode cX5_row 75 = .ok (.iinc 4 1, 3) := by decide +kernel
theorem dX5_row_78 : decode cX5_row 78 = .ok (.goto (-23), 3) := by decide +kernel
theorem dX5_row_81 : decode cX5_row 81 = .ok (.iconst 0, 1) := by decide +kernel
theorem dX5_row_82 : decode cX5_row 82 = .ok (.ireturn, 1) := by decide +kernel
theorem dX5_put_0 : decode cX5_put 0 = .ok (.aload_n 0, 1) := by decide +kernel
theorem dX5_put_1 : decode cX5_put 1 = .ok (.iload_n 1, 1) := by decide +kernel
theorem dX5_put_2 : decode cX5_put 2 = .ok (.iconst (-1), 1) := by decide +kernel
theorem dX5_put_3 : decode cX5_put 3 = .ok (.invokevirtual 133, 3) := by decide +kernel
theorem dX5_put_6 : decode cX5_put 6 = .ok (.istore 4, 2) := by decide +kernel
theorem dX5_put_8 : decode cX5_put 8 = .ok (.iload 4, 2) := by decide +kernel
theorem dX5_put_10 : decode cX5_put 10 = .ok (.ifCond .eq 6, 3) := by decide +kernel
theorem dX5_put_13 : decode cX5_put 13 = .ok (.iload 4, 2) := by decide +kernel
theorem dX5_put_15 : decode cX5_put 15 = .ok (.ireturn, 1) := by decide +kernel
theorem dX5_put_16 : decode cX5_put 16 = .ok (.iload_n 2, 1) := by decide +kernel
theorem dX5_put_17 : decode cX5_put 17 = .ok (.iconst 0, 1) := by decide +kernel
theorem dX5_put_18 : decode cX5_put 18 = .ok (.aload_n 0, 1) := by decide +kernel
theorem dX5_put_19 : decode cX5_put 19 = .ok (.getfield 37, 3) := by decide +kernel
theorem dX5_put_22 : decode cX5_put 22 = .ok (.iload_n 1, 1) := by decide +kernel
theorem dX5_put_23 : decode cX5_put 23 = .ok (.iaload, 1) := by decide +kernel
theorem dX5_put_24 : decode cX5_put 24 = .ok (.iconst 1, 1) := by decide +kernel
theorem dX5_put_25 : decode cX5_put 25 = .ok (.isub, 1) := by decide +kernel
theorem dX5_put_26 : decode cX5_put 26 = .ok (.invokestatic 43, 3) := by decide +kernel
theorem dX5_put_29 : decode cX5_put 29 = .ok (.ifCond .ne 6, 3) := by decide +kernel
theorem dX5_put_32 : decode cX5_put 32 = .ok (.bipush (-13), 2) := by decide +kernel
theorem dX5_put_34 : decode cX5_put 34 = .ok (.ireturn, 1) := by decide +kernel
theorem dX5_put_35 : decode cX5_put 35 = .ok (.aload_n 0, 1) := by decide +kernel
theorem dX5_put_36 : decode cX5_put 36 = .ok (.getfield 40, 3) := by decide +kernel
theorem dX5_put_39 : decode cX5_put 39 = .ok (.bipush 100, 2) := by decide +kernel
theorem dX5_put_41 : decode cX5_put 41 = .ok (.iload_n 1, 1) := by decide +kernel
theorem dX5_put_42 : decode cX5_put 42 = .ok (.imul, 1) := by decide +kernel
theorem dX5_put_43 : decode cX5_put 43 = .ok (.iload_n 2, 1) := by decide +kernel
theorem dX5_put_44 : decode cX5_put 44 = .ok (.iadd, 1) := by decide +kernel
theorem dX5_put_45 : decode cX5_put 45 = .ok (.aload_n 0, 1) := by decide +kernel
theorem dX5_put_46 : decode cX5_put 46 = .ok (.getfield 34, 3) := by decide +kernel
theorem dX5_put_49 : decode cX5_put 49 = .ok (.iload_n 1, 1) := by decide +kernel
theorem dX5_put_50 : decode cX5_put 50 = .ok (.iaload, 1) := by decide +kernel
theorem dX5_put_51 : decode cX5_put 51 = .ok (.ifCond .ne 8, 3) := by decide +kernel
theorem dX5_put_54 : decode cX5_put 54 = .ok (.iload_n 3, 1) := by decide +kernel
theorem dX5_put_55 : decode cX5_put 55 = .ok (.i2b, 1) := by decide +kernel
theorem dX5_put_56 : decode cX5_put 56 = .ok (.goto 19, 3) := by decide +kernel
theorem dX5_put_59 : decode cX5_put 59 = .ok (.aload_n 0, 1) := by decide +kernel
theorem dX5_put_60 : decode cX5_put 60 = .ok (.getfield 34, 3) := by decide +kernel
theorem dX5_put_63 : decode cX5_put 63 = .ok (.iload_n 1, 1) := by decide +kernel
theorem dX5_put_64 : decode cX5_put 64 = .ok (.iaload, 1) := by decide +kernel
theorem dX5_put_65 : decode cX5_put 65 = .ok (.iconst 1, 1) := by decide +kernel
theorem dX5_put_66 : decode cX5_put 66 = .ok (.if_icmp .ne 8, 3) := by decide +kernel
theorem dX5_put_69 : decode cX5_put 69 = .ok (.iload_n 3, 1) := by decide +kernel
theorem dX5_put_70 : decode cX5_put 70 = .ok (.i2s, 1) := by decide +kernel
theorem dX5_put_71 : decode cX5_put 71 = .ok (.goto 4, 3) := by decide +kernel
theorem dX5_put_74 : decode cX5_put 74 = .ok (.iload_n 3, 1) := by decide +kernel
theorem dX5_put_75 : decode cX5_put 75 = .ok (.iastore, 1) := by decide +kernel
theorem dX5_put_76 : decode cX5_put 76 = .ok (.iconst 0, 1) := by decide +kernel
theorem dX5_put_77 : decode cX5_put 77 = .ok (.ireturn, 1) := by decide +kernel
theorem dX5_element_0 : decode cX5_element 0 = .ok (.aload_n 0, 1) := by decide +kernel
theorem dX5_element_1 : decode cX5_element 1 = .ok (.iload_n 1, 1) := by decide +kernel
theorem dX5_element_2 : decode cX5_element 2 = .ok (.invokestatic 218, 3) := by decide +kernel
theorem dX5_element_5 : decode cX5_element 5 = .ok (.ifCond .ne 7, 3) := by decide +kernel
theorem dX5_element_8 : decode cX5_element 8 = .ok (.iconst 1, 1) := by decide +kernel
theorem dX5_element_9 : decode cX5_element 9 = .ok (.goto 34, 3) := by decide +kernel
theorem dX5_element_12 : decode cX5_element 12 = .ok (.aload_n 0, 1) := by decide +kernel
theorem dX5_element_13 : decode cX5_element 13 = .ok (.getfield 25, 3) := by decide +kernel
theorem dX5_element_16 : decode cX5_element 16 = .ok (.iload_n 1, 1) := by decide +kernel
theorem dX5_element_17 : decode cX5_element 17 = .ok (.iaload, 1) := by decide +kernel
theorem dX5_element_18 : decode cX5_element 18 = .ok (.iconst 2, 1) := by decide +kernel
theorem dX5_element_19 : decode cX5_element 19 = .ok (.if_icmp .ne 19, 3) := by decide +kernel
theorem dX5_element_22 : decode cX5_element 22 = .ok (.iload_n 2, 1) := by decide +kernel
theorem dX5_element_23 : decode cX5_element 23 = .ok (.iconst 0, 1) := by decide +kernel
theorem dX5_element_24 : decode cX5_element 24 = .ok (.aload_n 0, 1) := by decide +kernel
theorem dX5_element_25 : decode cX5_element 25 = .ok (.getfield 37, 3) := by decide +kernel
theorem dX5_element_28 : decode cX5_element 28 = .ok (.iload_n 1, 1) := by decide +kernel
theorem dX5_element_29 : decode cX5_element 29 = .ok (.iaload, 1) := by decide +kernel
theorem dX5_element_30 : decode cX5_element 30 = .ok (.iconst 1, 1) := by decide +kernel
theorem dX5_element_31 : decode cX5_element 31 = .ok (.isub, 1) := by decide +kernel
theorem dX5_element_32 : decode cX5_element 32 = .ok (.invokestatic 43, 3) := by decide +kernel
theorem dX5_element_35 : decode cX5_element 35 = .ok (.ifCond .ne 7, 3) := by decide +kernel
theorem dX5_element_38 : decode cX5_element 38 = .ok (.iconst 2, 1) := by decide +kernel
theorem dX5_element_39 : decode cX5_element 39 = .ok (.goto 4, 3) := by decide +kernel
theorem dX5_element_42 : decode cX5_element 42 = .ok (.iconst 0, 1) := by decide +kernel
theorem dX5_element_43 : decode cX5_element 43 = .ok (.putfield 215, 3) := by decide +kernel
theorem dX5_element_46 : decode cX5_element 46 = .ok (.aload_n 0, 1) := by decide +kernel
theorem dX5_element_47 : decode cX5_element 47 = .ok (.getfield 215, 3) := by decide +kernel
theorem dX5_element_50 : decode cX5_element 50 = .ok (.ifCond .ne 18, 3) := by decide +kernel
theorem dX5_element_53 : decode cX5_element 53 = .ok (.aload_n 0, 1) := by decide +kernel
theorem dX5_element_54 : decode cX5_element 54 = .ok (.getfield 40, 3) := by decide +kernel
theorem dX5_element_57 : decode cX5_element 57 = .ok (.bipush 100, 2) := by decide +kernel
theorem dX5_element_59 : decode cX5_element 59 = .ok (.iload_n 1, 1) := by decide +kernel
theorem dX5_element_60 : decode cX5_element 60 = .ok (.imul, 1) := by decide +kernel
theorem dX5_element_61 : decode cX5_element 61 = .ok (.iload_n 2, 1) := by decide +kernel
theorem dX5_element_62 : decode cX5_element 62 = .ok (.iadd, 1) := by decide +kernel
theorem dX5_element_63 : decode cX5_element 63 = .ok (.iaload, 1) := by decide +kernel
theorem dX5_element_64 : decode cX5_element 64 = .ok (.i2l, 1) := by decide +kernel
theorem dX5_element_65 : decode cX5_element 65 = .ok (.goto 4, 3) := by decide +kernel
theorem dX5_element_68 : decode cX5_element 68 = .ok (.lconst 0, 1) := by decide +kernel
theorem dX5_element_69 : decode cX5_element 69 = .ok (.lreturn, 1) := by decide +kernel
theorem dX5_copy_0 : decode cX5_copy 0 = .ok (.iload_n 1, 1) := by decide +kernel
theorem dX5_copy_1 : decode cX5_copy 1 = .ok (.invokestatic 218, 3) := by decide +kernel
theorem dX5_copy_4 : decode cX5_copy 4 = .ok (.ifCond .eq 10, 3) := by decide +kernel
theorem dX5_copy_7 : decode cX5_copy 7 = .ok (.iload_n 3, 1) := by decide +kernel
theorem dX5_copy_8 : decode cX5_copy 8 = .ok (.invokestatic 218, 3) := by decide +kernel
theorem dX5_copy_11 : decode cX5_copy 11 = .ok (.ifCond .ne 5, 3) := by decide +kernel
theorem dX5_copy_14 : decode cX5_copy 14 = .ok (.iconst (-1), 1) := by decide +kernel
theorem dX5_copy_15 : decode cX5_copy 15 = .ok (.ireturn, 1) := by decide +kernel
theorem dX5_copy_16 : decode cX5_copy 16 = .ok (.aload_n 0, 1) := by decide +kernel
theorem dX5_copy_17 : decode cX5_copy 17 = .ok (.getfield 25, 3) := by decide +kernel
theorem dX5_copy_20 : decode cX5_copy 20 = .ok (.iload_n 1, 1) := by decide +kernel
theorem dX5_copy_21 : decode cX5_copy 21 = .ok (.iaload, 1) := by decide +kernel
theorem dX5_copy_22 : decode cX5_copy 22 = .ok (.ifCond .eq 12, 3) := by decide +kernel
theorem dX5_copy_25 : decode cX5_copy 25 = .ok (.aload_n 0, 1) := by decide +kernel
theorem dX5_copy_26 : decode cX5_copy 26 = .ok (.getfield 25, 3) := by decide +kernel
theorem dX5_copy_29 : decode cX5_copy 29 = .ok (.iload_n 3, 1) := by decide +kernel
theorem dX5_copy_30 : decode cX5_copy 30 = .ok (.iaload, 1) := by decide +kernel
theorem dX5_copy_31 : decode cX5_copy 31 = .ok (.ifCond .ne 6, 3) := by decide +kernel
theorem dX5_copy_34 : decode cX5_copy 34 = .ok (.bipush (-11), 2) := by decide +kernel
theorem dX5_copy_36 : decode cX5_copy 36 = .ok (.ireturn, 1) := by decide +kernel
theorem dX5_copy_37 : decode cX5_copy 37 = .ok (.aload_n 0, 1) := by decide +kernel
theorem dX5_copy_38 : decode cX5_copy 38 = .ok (.getfield 25, 3) := by decide +kernel
theorem dX5_copy_41 : decode cX5_copy 41 = .ok (.iload_n 1, 1) := by decide +kernel
theorem dX5_copy_42 : decode cX5_copy 42 = .ok (.iaload, 1) := by decide +kernel
theorem dX5_copy_43 : decode cX5_copy 43 = .ok (.iconst 2, 1) := by decide +kernel
theorem dX5_copy_44 : decode cX5_copy 44 = .ok (.if_icmp .ne 28, 3) := by decide +kernel
theorem dX5_copy_47 : decode cX5_copy 47 = .ok (.aload_n 0, 1) := by decide +kernel
theorem dX5_copy_48 : decode cX5_copy 48 = .ok (.getfield 25, 3) := by decide +kernel
theorem dX5_copy_51 : decode cX5_copy 51 = .ok (.iload_n 3, 1) := by decide +kernel
theorem dX5_copy_52 : decode cX5_copy 52 = .ok (.iaload, 1) := by decide +kernel
theorem dX5_copy_53 : decode cX5_copy 53 = .ok (.iconst 2, 1) := by decide +kernel
theorem dX5_copy_54 : decode cX5_copy 54 = .ok (.if_icmp .ne 18, 3) := by decide +kernel
theorem dX5_copy_57 : decode cX5_copy 57 = .ok (.aload_n 0, 1) := by decide +kernel
theorem dX5_copy_58 : decode cX5_copy 58 = .ok (.getfield 34, 3) := by decide +kernel
theorem dX5_copy_61 : decode cX5_copy 61 = .ok (.iload_n 1, 1) := by decide +kernel
theorem dX5_copy_62 : decode cX5_copy 62 = .ok (.iaload, 1) := by decide +kernel
theorem dX5_copy_63 : decode cX5_copy 63 = .ok (.aload_n 0, 1) := by decide +kernel
theorem dX5_copy_64 : decode cX5_copy 64 = .ok (.getfield 34, 3) := by decide +kernel
theorem dX5_copy_67 : decode cX5_copy 67 = .ok (.iload_n 3, 1) := by decide +kernel
theorem dX5_copy_68 : decode cX5_copy 68 = .ok (.iaload, 1) := by decide +kernel
theorem dX5_copy_69 : decode cX5_copy 69 = .ok (.if_icmp .eq 6, 3) := by decide +kernel
theorem dX5_copy_72 : decode cX5_copy 72 = .ok (.bipush (-12), 2) := by decide +kernel
theorem dX5_copy_74 : decode cX5_copy 74 = .ok (.ireturn, 1) := by decide +kernel
theorem dX5_copy_75 : decode cX5_copy 75 = .ok (.iload 5, 2) := by decide +kernel
theorem dX5_copy_77 : decode cX5_copy 77 = .ok (.ifCond .lt 39, 3) := by decide +kernel
theorem dX5_copy_80 : decode cX5_copy 80 = .ok (.iload_n 2, 1) := by decide +kernel
theorem dX5_copy_81 : decode cX5_copy 81 = .ok (.ifCond .lt 35, 3) := by decide +kernel
theorem dX5_copy_84 : decode cX5_copy 84 = .ok (.iload 4, 2) := by decide +kernel
theorem dX5_copy_86 : decode cX5_copy 86 = .ok (.ifCond .lt 30, 3) := by decide +kernel
theorem dX5_copy_89 : decode cX5_copy 89 = .ok (.iload 5, 2) := by decide +kernel
theorem dX5_copy_91 : decode cX5_copy 91 = .ok (.aload_n 0, 1) := by decide +kernel
theorem dX5_copy_92 : decode cX5_copy 92 = .ok (.getfield 37, 3) := by decide +kernel
theorem dX5_copy_95 : decode cX5_copy 95 = .ok (.iload_n 1, 1) := by decide +kernel
theorem dX5_copy_96 : decode cX5_copy 96 = .ok (.iaload, 1) := by decide +kernel
theorem dX5_copy_97 : decode cX5_copy 97 = .ok (.iload_n 2, 1) := by decide +kernel
theorem dX5_copy_98 : decode cX5_copy 98 = .ok (.isub, 1) := by decide +kernel
theorem dX5_copy_99 : decode cX5_copy 99 = .ok (.if_icmp .gt 17, 3) := by decide +kernel
theorem dX5_copy_102 : decode cX5_copy 102 = .ok (.iload 5, 2) := by decide +kernel
theorem dX5_copy_104 : decode cX5_copy 104 = .ok (.aload_n 0, 1) := by decide +kernel
theorem dX5_copy_105 : decode cX5_copy 105 = .ok (.getfield 37, 3) := by decide +kernel
theorem dX5_copy_108 : decode cX5_copy 108 = .ok (.iload_n 3, 1) := by decide +kernel
theorem dX5_copy_109 : decode cX5_copy 109 = .ok (.iaload, 1) := by decide +kernel
theorem dX5_copy_110 : decode cX5_copy 110 = .ok (.iload 4, 2) := by decide +kernel
theorem dX5_copy_112 : decode cX5_copy 112 = .ok (.isub, 1) := by decide +kernel
theorem dX5_copy_113 : decode cX5_copy 113 = .ok (.if_icmp .le 6, 3) := by decide +kernel
theorem dX5_copy_116 : decode cX5_copy 116 = .ok (.bipush (-13), 2) := by decide +kernel
theorem dX5_copy_118 : decode cX5_copy 118 = .ok (.ireturn, 1) := by decide +kernel
theorem dX5_copy_119 : decode cX5_copy 119 = .ok (.iconst 0, 1) := by decide +kernel
theorem dX5_copy_120 : decode cX5_copy 120 = .ok (.istore 6, 2) := by decide +kernel
theorem dX5_copy_122 : decode cX5_copy 122 = .ok (.iload 6, 2) := by decide +kernel
theorem dX5_copy_124 : decode cX5_copy 124 = .ok (.iload 5, 2) := by decide +kernel
theorem dX5_copy_126 : decode cX5_copy 126 = .ok (.if_icmp .ge 58, 3) := by decide +kernel
theorem dX5_copy_129 : decode cX5_copy 129 = .ok (.iload_n 2, 1) := by decide +kernel
theorem dX5_copy_130 : decode cX5_copy 130 = .ok (.iload 4, 2) := by decide +kernel
theorem dX5_copy_132 : decode cX5_copy 132 = .ok (.if_icmp .le 8, 3) := by decide +kernel
theorem dX5_copy_135 : decode cX5_copy 135 = .ok (.iload 6, 2) := by decide +kernel
theorem dX5_copy_137 : decode cX5_copy 137 = .ok (.goto 10, 3) := by decide +kernel
theorem dX5_copy_140 : decode cX5_copy 140 = .ok (.iload 5, 2) := by decide +kernel
theorem dX5_copy_142 : decode cX5_copy 142 = .ok (.iconst 1, 1) := by decide +kernel
theorem dX5_copy_143 : decode cX5_copy 143 = .ok (.isub, 1) := by decide +kernel
theorem dX5_copy_144 : decode cX5_copy 144 = .ok (.iload 6, 2) := by decide +kernel
theorem dX5_copy_146 : decode cX5_copy 146 = .ok (.isub, 1) := by decide +kernel
theorem dX5_copy_147 : decode cX5_copy 147 = .ok (.istore 7, 2) := by decide +kernel
theorem dX5_copy_149 : decode cX5_copy 149 = .ok (.aload_n 0, 1) := by decide +kernel
theorem dX5_copy_150 : decode cX5_copy 150 = .ok (.getfield 40, 3) := by decide +kernel
theorem dX5_copy_153 : decode cX5_copy 153 = .ok (.bipush 100, 2) := by decide +kernel
theorem dX5_copy_155 : decode cX5_copy 155 = .ok (.iload_n 3, 1) := by decide +kernel
theorem dX5_copy_156 : decode cX5_copy 156 = .ok (.imul, 1) := by decide +kernel
theorem dX5_copy_157 : decode cX5_copy 157 = .ok (.iload 4, 2) := by decide +kernel
theorem dX5_copy_159 : decode cX5_copy 159 = .ok (.iadd, 1) := by decide +kernel
theorem dX5_copy_160 : decode cX5_copy 160 = .ok (.iload 7, 2) := by decide +kernel
theorem dX5_copy_162 : decode cX5_copy 162 = .ok (.iadd, 1) := by decide +kernel
theorem dX5_copy_163 : decode cX5_copy 163 = .ok (.aload_n 0, 1) := by decide +kernel
theorem dX5_copy_164 : decode cX5_copy 164 = .ok (.getfield 40, 3) := by decide +kernel
theorem dX5_copy_167 : decode cX5_copy 167 = .ok (.bipush 100, 2) := by decide +kernel
theorem dX5_copy_169 : decode cX5_copy 169 = .ok (.iload_n 1, 1) := by decide +kernel
theorem dX5_copy_170 : decode cX5_copy 170 = .ok (.imul, 1) := by decide +kernel
theorem dX5_copy_171 : decode cX5_copy 171 = .ok (.iload_n 2, 1) := by decide +kernel
theorem dX5_copy_172 : decode cX5_copy 172 = .ok (.iadd, 1) := by decide +kernel
theorem dX5_copy_173 : decode cX5_copy 173 = .ok (.iload 7, 2) := by decide +kernel
theorem dX5_copy_175 : decode cX5_copy 175 = .ok (.iadd, 1) := by decide +kernel
theorem dX5_copy_176 : decode cX5_copy 176 = .ok (.iaload, 1) := by decide +kernel
theorem dX5_copy_177 : decode cX5_copy 177 = .ok (.iastore, 1) := by decide +kernel
theorem dX5_copy_178 : decode cX5_copy 178 = .ok (.iinc 6 1, 3) := by decide +kernel
theorem dX5_copy_181 : decode cX5_copy 181 = .ok (.goto (-59), 3) := by decide +kernel
theorem dX5_copy_184 : decode cX5_copy 184 = .ok (.iload 5, 2) := by decide +kernel
theorem dX5_copy_186 : decode cX5_copy 186 = .ok (.ireturn, 1) := by decide +kernel
theorem dX5_costBy_0 : decode cX5_costBy 0 = .ok (.iload_n 0, 1) := by decide +kernel
theorem dX5_costBy_1 : decode cX5_costBy 1 = .ok (.tableswitch 55 1 6 #[39, 43, 45, 47, 49, 53], 39) := by decide +kernel
theorem dX5_costBy_40 : decode cX5_costBy 40 = .ok (.iconst 4, 1) := by decide +kernel
theorem dX5_costBy_41 : decode cX5_costBy 41 = .ok (.iload_n 1, 1) := by decide +kernel
theorem dX5_costBy_42 : decode cX5_costBy 42 = .ok (.iadd, 1) := by decide +kernel
theorem dX5_costBy_43 : decode cX5_costBy 43 = .ok (.ireturn, 1) := by decide +kernel
theorem dX5_costBy_44 : decode cX5_costBy 44 = .ok (.iconst 2, 1) := by decide +kernel
theorem dX5_costBy_45 : decode cX5_costBy 45 = .ok (.ireturn, 1) := by decide +kernel
theorem dX5_costBy_46 : decode cX5_costBy 46 = .ok (.iconst 3, 1) := by decide +kernel
theorem dX5_costBy_47 : decode cX5_costBy 47 = .ok (.ireturn, 1) := by decide +kernel
theorem dX5_costBy_48 : decode cX5_costBy 48 = .ok (.iconst 0, 1) := by decide +kernel
theorem dX5_costBy_49 : decode cX5_costBy 49 = .ok (.ireturn, 1) := by decide +kernel
theorem dX5_costBy_50 : decode cX5_costBy 50 = .ok (.iconst 2, 1) := by decide +kernel
theorem dX5_costBy_51 : decode cX5_costBy 51 = .ok (.iload_n 1, 1) := by decide +kernel
theorem dX5_costBy_52 : decode cX5_costBy 52 = .ok (.iadd, 1) := by decide +kernel
theorem dX5_costBy_53 : decode cX5_costBy 53 = .ok (.ireturn, 1) := by decide +kernel
theorem dX5_costBy_54 : decode cX5_costBy 54 = .ok (.iconst 1, 1) := by decide +kernel
theorem dX5_costBy_55 : decode cX5_costBy 55 = .ok (.ireturn, 1) := by decide +kernel
theorem dX5_costBy_56 : decode cX5_costBy 56 = .ok (.iconst 4, 1) := by decide +kernel
theorem dX5_costBy_57 : decode cX5_costBy 57 = .ok (.ireturn, 1) := by decide +kernel
theorem dX5_cost_0 : decode cX5_cost 0 = .ok (.aload_n 0, 1) := by decide +kernel
theorem dX5_cost_1 : decode cX5_cost 1 = .ok (.iload_n 1, 1) := by decide +kernel
theorem dX5_cost_2 : decode cX5_cost 2 = .ok (.invokevirtual 147, 3) := by decide +kernel
theorem dX5_cost_5 : decode cX5_cost 5 = .ok (.istore_n 2, 1) := by decide +kernel
theorem dX5_cost_6 : decode cX5_cost 6 = .ok (.iload_n 2, 1) := by decide +kernel
theorem dX5_cost_7 : decode cX5_cost 7 = .ok (.ifCond .eq 7, 3) := by decide +kernel
theorem dX5_cost_10 : decode cX5_cost 10 = .ok (.iload_n 2, 1) := by decide +kernel
theorem dX5_cost_11 : decode cX5_cost 11 = .ok (.goto 18, 3) := by decide +kernel
theorem dX5_cost_14 : decode cX5_cost 14 = .ok (.aload_n 0, 1) := by decide +kernel
theorem dX5_cost_15 : decode cX5_cost 15 = .ok (.getfield 28, 3) := by decide +kernel
theorem dX5_cost_18 : decode cX5_cost 18 = .ok (.iload_n 1, 1) := by decide +kernel
theorem dX5_cost_19 : decode cX5_cost 19 = .ok (.iaload, 1) := by decide +kernel
theorem dX5_cost_20 : decode cX5_cost 20 = .ok (.aload_n 0, 1) := by decide +kernel
theorem dX5_cost_21 : decode cX5_cost 21 = .ok (.getfield 31, 3) := by decide +kernel
theorem dX5_cost_24 : decode cX5_cost 24 = .ok (.iload_n 1, 1) := by decide +kernel
theorem dX5_cost_25 : decode cX5_cost 25 = .ok (.iaload, 1) := by decide +kernel
theorem dX5_cost_26 : decode cX5_cost 26 = .ok (.invokestatic 221, 3) := by decide +kernel
theorem dX5_cost_29 : decode cX5_cost 29 = .ok (.ireturn, 1) := by decide +kernel
theorem dX5_toss_0 : decode cX5_toss 0 = .ok (.aload_n 0, 1) := by decide +kernel
theorem dX5_toss_1 : decode cX5_toss 1 = .ok (.iload_n 1, 1) := by decide +kernel
theorem dX5_toss_2 : decode cX5_toss 2 = .ok (.invokevirtual 147, 3) := by decide +kernel
theorem dX5_toss_5 : decode cX5_toss 5 = .ok (.istore_n 2, 1) := by decide +kernel
theorem dX5_toss_6 : decode cX5_toss 6 = .ok (.iload_n 2, 1) := by decide +kernel
theorem dX5_toss_7 : decode cX5_toss 7 = .ok (.ifCond .eq 5, 3) := by decide +kernel
theorem dX5_toss_10 : decode cX5_toss 10 = .ok (.iload_n 2, 1) := by decide +kernel
theorem dX5_toss_11 : decode cX5_toss 11 = .ok (.ireturn, 1) := by decide +kernel
theorem dX5_toss_12 : decode cX5_toss 12 = .ok (.aload_n 0, 1) := by decide +kernel
theorem dX5_toss_13 : decode cX5_toss 13 = .ok (.getfield 28, 3) := by decide +kernel
theorem dX5_toss_16 : decode cX5_toss 16 = .ok (.iload_n 1, 1) := by decide +kernel
theorem dX5_toss_17 : decode cX5_toss 17 = .ok (.iaload, 1) := by decide +kernel
theorem dX5_toss_18 : decode cX5_toss 18 = .ok (.istore_n 3, 1) := by decide +kernel
theorem dX5_toss_19 : decode cX5_toss 19 = .ok (.aload_n 0, 1) := by decide +kernel
theorem dX5_toss_20 : decode cX5_toss 20 = .ok (.getfield 31, 3) := by decide +kernel
theorem dX5_toss_23 : decode cX5_toss 23 = .ok (.iload_n 1, 1) := by decide +kernel
theorem dX5_toss_24 : decode cX5_toss 24 = .ok (.iaload, 1) := by decide +kernel
theorem dX5_toss_25 : decode cX5_toss 25 = .ok (.istore 4, 2) := by decide +kernel
theorem dX5_toss_27 : decode cX5_toss 27 = .ok (.iload_n 3, 1) := by decide +kernel
theorem dX5_toss_28 : decode cX5_toss 28 = .ok (.iconst 3, 1) := by decide +kernel
theorem dX5_toss_29 : decode cX5_toss 29 = .ok (.if_icmp .eq 14, 3) := by decide +kernel
theorem dX5_toss_32 : decode cX5_toss 32 = .ok (.iload_n 3, 1) := by decide +kernel
theorem dX5_toss_33 : decode cX5_toss 33 = .ok (.bipush 6, 2) := by decide +kernel
theorem dX5_toss_35 : decode cX5_toss 35 = .ok (.if_icmp .eq 8, 3) := by decide +kernel
theorem dX5_toss_38 : decode cX5_toss 38 = .ok (.iload 4, 2) := by decide +kernel
theorem dX5_toss_40 : decode cX5_toss 40 = .ok (.ifCond .ne 6, 3) := by decide +kernel
theorem dX5_toss_43 : decode cX5_toss 43 = .ok (.bipush (-15), 2) := by decide +kernel
theorem dX5_toss_45 : decode cX5_toss 45 = .ok (.ireturn, 1) := by decide +kernel
theorem dX5_toss_46 : decode cX5_toss 46 = .ok (.iload_n 3, 1) := by decide +kernel
theorem dX5_toss_47 : decode cX5_toss 47 = .ok (.iconst 5, 1) := by decide +kernel
theorem dX5_toss_48 : decode cX5_toss 48 = .ok (.if_icmp .ne 16, 3) := by decide +kernel
theorem dX5_toss_51 : decode cX5_toss 51 = .ok (.sipush 200, 3) := by decide +kernel
theorem dX5_toss_54 : decode cX5_toss 54 = .ok (.iload_n 3, 1) := by decide +kernel
theorem dX5_toss_55 : decode cX5_toss 55 = .ok (.iload 4, 2) := by decide +kernel
theorem dX5_toss_57 : decode cX5_toss 57 = .ok (.invokestatic 221, 3) := by decide +kernel
theorem dX5_toss_60 : decode cX5_toss 60 = .ok (.iadd, 1) := by decide +kernel
theorem dX5_toss_61 : decode cX5_toss 61 = .ok (.goto 18, 3) := by decide +kernel
theorem dX5_toss_64 : decode cX5_toss 64 = .ok (.iload_n 3, 1) := by decide +kernel
theorem dX5_toss_65 : decode cX5_toss 65 = .ok (.iconst 2, 1) := by decide +kernel
theorem dX5_toss_66 : decode cX5_toss 66 = .ok (.if_icmp .ne 11, 3) := by decide +kernel
theorem dX5_toss_69 : decode cX5_toss 69 = .ok (.bipush 100, 2) := by decide +kernel
theorem dX5_toss_71 : decode cX5_toss 71 = .ok (.iload 4, 2) := by decide +kernel
theorem dX5_toss_73 : decode cX5_toss 73 = .ok (.iadd, 1) := by decide +kernel
theorem dX5_toss_74 : decode cX5_toss 74 = .ok (.goto 5, 3) := by decide +kernel
theorem dX5_toss_77 : decode cX5_toss 77 = .ok (.iload 4, 2) := by decide +kernel
theorem dX5_toss_79 : decode cX5_toss 79 = .ok (.ireturn, 1) := by decide +kernel
theorem dJ6_bitCount_0f7a4_0 : decode cJ6_bitCount_0f7a4 0 = .ok (.iload_n 0, 1) := by decide +kernel
theorem dJ6_bitCount_0f7a4_1 : decode cJ6_bitCount_0f7a4 1 = .ok (.iload_n 0, 1) := by decide +kernel
theorem dJ6_bitCount_0f7a4_2 : decode cJ6_bitCount_0f7a4 2 = .ok (.iconst 1, 1) := by decide +kernel
theorem dJ6_bitCount_0f7a4_3 : decode cJ6_bitCount_0f7a4 3 = .ok (.iushr, 1) := by decide +kernel
theorem dJ6_bitCount_0f7a4_4 : decode cJ6_bitCount_0f7a4 4 = .ok (.ldc_w 265, 3) := by decide +kernel
theorem dJ6_bitCount_0f7a4_7 : decode cJ6_bitCount_0f7a4 7 = .ok (.iand, 1) := by decide +kernel
theorem dJ6_bitCount_0f7a4_8 : decode cJ6_bitCount_0f7a4 8 = .ok (.isub, 1) := by decide +kernel
theorem dJ6_bitCount_0f7a4_9 : decode cJ6_bitCount_0f7a4 9 = .ok (.istore_n 0, 1) := by decide +kernel
theorem dJ6_bitCount_0f7a4_10 : decode cJ6_bitCount_0f7a4 10 = .ok (.iload_n 0, 1) := by decide +kernel
theorem dJ6_bitCount_0f7a4_11 : decode cJ6_bitCount_0f7a4 11 = .ok (.ldc_w 266, 3) := by decide +kernel
theorem dJ6_bitCount_0f7a4_14 : decode cJ6_bitCount_0f7a4 14 = .ok (.iand, 1) := by decide +kernel
theorem dJ6_bitCount_0f7a4_15 : decode cJ6_bitCount_0f7a4 15 = .ok (.iload_n 0, 1) := by decide +kernel
theorem dJ6_bitCount_0f7a4_16 : decode cJ6_bitCount_0f7a4 16 = .ok (.iconst 2, 1) := by decide +kernel
theorem dJ6_bitCount_0f7a4_17 : decode cJ6_bitCount_0f7a4 17 = .ok (.iushr, 1) := by decide +kernel
theorem dJ6_bitCount_0f7a4_18 : decode cJ6_bitCount_0f7a4 18 = .ok (.ldc_w 266, 3) := by decide +kernel
theorem dJ6_bitCount_0f7a4_21 : decode cJ6_bitCount_0f7a4 21 = .ok (.iand, 1) := by decide +kernel
theorem dJ6_bitCount_0f7a4_22 : decode cJ6_bitCount_0f7a4 22 = .ok (.iadd, 1) := by decide +kernel
theorem dJ6_bitCount_0f7a4_23 : decode cJ6_bitCount_0f7a4 23 = .ok (.istore_n 0, 1) := by decide +kernel
theorem dJ6_bitCount_0f7a4_24 : decode cJ6_bitCount_0f7a4 24 = .ok (.iload_n 0, 1) := by decide +kernel
theorem dJ6_bitCount_0f7a4_25 : decode cJ6_bitCount_0f7a4 25 = .ok (.iload_n 0, 1) := by decide +kernel
theorem dJ6_bitCount_0f7a4_26 : decode cJ6_bitCount_0f7a4 26 = .ok (.iconst 4, 1) := by decide +kernel
theorem dJ6_bitCount_0f7a4_27 : decode cJ6_bitCount_0f7a4 27 = .ok (.iushr, 1) := by decide +kernel
theorem dJ6_bitCount_0f7a4_28 : decode cJ6_bitCount_0f7a4 28 = .ok (.iadd, 1) := by decide +kernel
theorem dJ6_bitCount_0f7a4_29 : decode cJ6_bitCount_0f7a4 29 = .ok (.ldc_w 267, 3) := by decide +kernel
theorem dJ6_bitCount_0f7a4_32 : decode cJ6_bitCount_0f7a4 32 = .ok (.iand, 1) := by decide +kernel
theorem dJ6_bitCount_0f7a4_33 : decode cJ6_bitCount_0f7a4 33 = .ok (.istore_n 0, 1) := by decide +kernel
theorem dJ6_bitCount_0f7a4_34 : decode cJ6_bitCount_0f7a4 34 = .ok (.iload_n 0, 1) := by decide +kernel
theorem dJ6_bitCount_0f7a4_35 : decode cJ6_bitCount_0f7a4 35 = .ok (.iload_n 0, 1) := by decide +kernel
theorem dJ6_bitCount_0f7a4_36 : decode cJ6_bitCount_0f7a4 36 = .ok (.bipush 8, 2) := by decide +kernel
theorem dJ6_bitCount_0f7a4_38 : decode cJ6_bitCount_0f7a4 38 = .ok (.iushr, 1) := by decide +kernel
theorem dJ6_bitCount_0f7a4_39 : decode cJ6_bitCount_0f7a4 39 = .ok (.iadd, 1) := by decide +kernel
theorem dJ6_bitCount_0f7a4_40 : decode cJ6_bitCount_0f7a4 40 = .ok (.istore_n 0, 1) := by decide +kernel
theorem dJ6_bitCount_0f7a4_41 : decode cJ6_bitCount_0f7a4 41 = .ok (.iload_n 0, 1) := by decide +kernel
theorem dJ6_bitCount_0f7a4_42 : decode cJ6_bitCount_0f7a4 42 = .ok (.iload_n 0, 1) := by decide +kernel
theorem dJ6_bitCount_0f7a4_43 : decode cJ6_bitCount_0f7a4 43 = .ok (.bipush 16, 2) := by decide +kernel
theorem dJ6_bitCount_0f7a4_45 : decode cJ6_bitCount_0f7a4 45 = .ok (.iushr, 1) := by decide +kernel
theorem dJ6_bitCount_0f7a4_46 : decode cJ6_bitCount_0f7a4 46 = .ok (.iadd, 1) := by decide +kernel
theorem dJ6_bitCount_0f7a4_47 : decode cJ6_bitCount_0f7a4 47 = .ok (.istore_n 0, 1) := by decide +kernel
theorem dJ6_bitCount_0f7a4_48 : decode cJ6_bitCount_0f7a4 48 = .ok (.iload_n 0, 1) := by decide +kernel
theorem dJ6_bitCount_0f7a4_49 : decode cJ6_bitCount_0f7a4 49 = .ok (.bipush 63, 2) := by decide +kernel
theorem dJ6_bitCount_0f7a4_51 : decode cJ6_bitCount_0f7a4 51 = .ok (.iand, 1) := by decide +kernel
theorem dJ6_bitCount_0f7a4_52 : decode cJ6_bitCount_0f7a4 52 = .ok (.ireturn, 1) := by decide +kernel
theorem dJ9_abs_0f7a4_0 : decode cJ9_abs_0f7a4 0 = .ok (.iload_n 0, 1) := by decide +kernel
theorem dJ9_abs_0f7a4_1 : decode cJ9_abs_0f7a4 1 = .ok (.ifCond .ge 8, 3) := by decide +kernel
theorem dJ9_abs_0f7a4_4 : decode cJ9_abs_0f7a4 4 = .ok (.iload_n 0, 1) := by decide +kernel
theorem dJ9_abs_0f7a4_5 : decode cJ9_abs_0f7a4 5 = .ok (.ineg, 1) := by decide +kernel
theorem dJ9_abs_0f7a4_6 : decode cJ9_abs_0f7a4 6 = .ok (.goto 4, 3) := by decide +kernel
theorem dJ9_abs_0f7a4_9 : decode cJ9_abs_0f7a4 9 = .ok (.iload_n 0, 1) := by decide +kernel
theorem dJ9_abs_0f7a4_10 : decode cJ9_abs_0f7a4 10 = .ok (.ireturn, 1) := by decide +kernel
theorem dJ9_max_7cf53_0 : decode cJ9_max_7cf53 0 = .ok (.iload_n 0, 1) := by decide +kernel
theorem dJ9_max_7cf53_1 : decode cJ9_max_7cf53 1 = .ok (.iload_n 1, 1) := by decide +kernel
theorem dJ9_max_7cf53_2 : decode cJ9_max_7cf53 2 = .ok (.if_icmp .lt 7, 3) := by decide +kernel
theorem dJ9_max_7cf53_5 : decode cJ9_max_7cf53 5 = .ok (.iload_n 0, 1) := by decide +kernel
theorem dJ9_max_7cf53_6 : decode cJ9_max_7cf53 6 = .ok (.goto 4, 3) := by decide +kernel
theorem dJ9_max_7cf53_9 : decode cJ9_max_7cf53 9 = .ok (.iload_n 1, 1) := by decide +kernel
theorem dJ9_max_7cf53_10 : decode cJ9_max_7cf53 10 = .ok (.ireturn, 1) := by decide +kernel
theorem dJ9_min_7cf53_0 : decode cJ9_min_7cf53 0 = .ok (.iload_n 0, 1) := by decide +kernel
theorem dJ9_min_7cf53_1 : decode cJ9_min_7cf53 1 = .ok (.iload_n 1, 1) := by decide +kernel
theorem dJ9_min_7cf53_2 : decode cJ9_min_7cf53 2 = .ok (.if_icmp .gt 7, 3) := by decide +kernel
theorem dJ9_min_7cf53_5 : decode cJ9_min_7cf53 5 = .ok (.iload_n 0, 1) := by decide +kernel
theorem dJ9_min_7cf53_6 : decode cJ9_min_7cf53 6 = .ok (.goto 4, 3) := by decide +kernel
theorem dJ9_min_7cf53_9 : decode cJ9_min_7cf53 9 = .ok (.iload_n 1, 1) := by decide +kernel
theorem dJ9_min_7cf53_10 : decode cJ9_min_7cf53 10 = .ok (.ireturn, 1) := by decide +kernel
theorem dJ7_fill_53178_0 : decode cJ7_fill_53178 0 = .ok (.iconst 0, 1) := by decide +kernel
theorem dJ7_fill_53178_1 : decode cJ7_fill_53178 1 = .ok (.istore_n 2, 1) := by decide +kernel
theorem dJ7_fill_53178_2 : decode cJ7_fill_53178 2 = .ok (.aload_n 0, 1) := by decide +kernel
theorem dJ7_fill_53178_3 : decode cJ7_fill_53178 3 = .ok (.arraylength, 1) := by decide +kernel
theorem dJ7_fill_53178_4 : decode cJ7_fill_53178 4 = .ok (.istore_n 3, 1) := by decide +kernel
theorem dJ7_fill_53178_5 : decode cJ7_fill_53178 5 = .ok (.iload_n 2, 1) := by decide +kernel
theorem dJ7_fill_53178_6 : decode cJ7_fill_53178 6 = .ok (.iload_n 3, 1) := by decide +kernel
theorem dJ7_fill_53178_7 : decode cJ7_fill_53178 7 = .ok (.if_icmp .ge 13, 3) := by decide +kernel
theorem dJ7_fill_53178_10 : decode cJ7_fill_53178 10 = .ok (.aload_n 0, 1) := by decide +kernel
theorem dJ7_fill_53178_11 : decode cJ7_fill_53178 11 = .ok (.iload_n 2, 1) := by decide +kernel
theorem dJ7_fill_53178_12 : decode cJ7_fill_53178 12 = .ok (.iload_n 1, 1) := by decide +kernel
theorem dJ7_fill_53178_13 : decode cJ7_fill_53178 13 = .ok (.iastore, 1) := by decide +kernel
theorem dJ7_fill_53178_14 : decode cJ7_fill_53178 14 = .ok (.iinc 2 1, 3) := by decide +kernel
theorem dJ7_fill_53178_17 : decode cJ7_fill_53178 17 = .ok (.goto (-12), 3) := by decide +kernel
theorem dJ7_fill_53178_20 : decode cJ7_fill_53178 20 = .ok (.return_, 1) := by decide +kernel
