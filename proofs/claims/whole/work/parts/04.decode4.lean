theorem dX0_init_0 : decode cX0_init 0 = .ok (.aload_n 0, 1) := by decide +kernel
theorem dX0_init_1 : decode cX0_init 1 = .ok (.invokespecial 3, 3) := by decide +kernel
theorem dX0_init_4 : decode cX0_init 4 = .ok (.aload_n 0, 1) := by decide +kernel
theorem dX0_init_5 : decode cX0_init 5 = .ok (.bipush 10, 2) := by decide +kernel
theorem dX0_init_7 : decode cX0_init 7 = .ok (.anewarray 9, 3) := by decide +kernel
theorem dX0_init_10 : decode cX0_init 10 = .ok (.putfield 11, 3) := by decide +kernel
theorem dX0_init_13 : decode cX0_init 13 = .ok (.return_, 1) := by decide +kernel
theorem dX0_size_0 : decode cX0_size 0 = .ok (.aload_n 0, 1) := by decide +kernel
theorem dX0_size_1 : decode cX0_size 1 = .ok (.getfield 17, 3) := by decide +kernel
theorem dX0_size_4 : decode cX0_size 4 = .ok (.ireturn, 1) := by decide +kernel
theorem dX0_isFull_0 : decode cX0_isFull 0 = .ok (.aload_n 0, 1) := by decide +kernel
theorem dX0_isFull_1 : decode cX0_isFull 1 = .ok (.getfield 17, 3) := by decide +kernel
theorem dX0_isFull_4 : decode cX0_isFull 4 = .ok (.bipush 10, 2) := by decide +kernel
theorem dX0_isFull_6 : decode cX0_isFull 6 = .ok (.if_icmp .lt 7, 3) := by decide +kernel
theorem dX0_isFull_9 : decode cX0_isFull 9 = .ok (.iconst 1, 1) := by decide +kernel
theorem dX0_isFull_10 : decode cX0_isFull 10 = .ok (.goto 4, 3) := by decide +kernel
theorem dX0_isFull_13 : decode cX0_isFull 13 = .ok (.iconst 0, 1) := by decide +kernel
theorem dX0_isFull_14 : decode cX0_isFull 14 = .ok (.ireturn, 1) := by decide +kernel
theorem dX0_add_0 : decode cX0_add 0 = .ok (.aload_n 0, 1) := by decide +kernel
theorem dX0_add_1 : decode cX0_add 1 = .ok (.invokevirtual 21, 3) := by decide +kernel
theorem dX0_add_4 : decode cX0_add 4 = .ok (.ifCond .eq 6, 3) := by decide +kernel
theorem dX0_add_7 : decode cX0_add 7 = .ok (.bipush (-4), 2) := by decide +kernel
theorem dX0_add_9 : decode cX0_add 9 = .ok (.ireturn, 1) := by decide +kernel
theorem dX0_add_10 : decode cX0_add 10 = .ok (.aload_n 0, 1) := by decide +kernel
theorem dX0_add_11 : decode cX0_add 11 = .ok (.getfield 11, 3) := by decide +kernel
theorem dX0_add_14 : decode cX0_add 14 = .ok (.aload_n 0, 1) := by decide +kernel
theorem dX0_add_15 : decode cX0_add 15 = .ok (.getfield 17, 3) := by decide +kernel
theorem dX0_add_18 : decode cX0_add 18 = .ok (.aload_n 1, 1) := by decide +kernel
theorem dX0_add_19 : decode cX0_add 19 = .ok (.aastore, 1) := by decide +kernel
theorem dX0_add_20 : decode cX0_add 20 = .ok (.aload_n 0, 1) := by decide +kernel
theorem dX0_add_21 : decode cX0_add 21 = .ok (.dup, 1) := by decide +kernel
theorem dX0_add_22 : decode cX0_add 22 = .ok (.getfield 17, 3) := by decide +kernel
theorem dX0_add_25 : decode cX0_add 25 = .ok (.iconst 1, 1) := by decide +kernel
theorem dX0_add_26 : decode cX0_add 26 = .ok (.iadd, 1) := by decide +kernel
theorem dX0_add_27 : decode cX0_add 27 = .ok (.putfield 17, 3) := by decide +kernel
theorem dX0_add_30 : decode cX0_add 30 = .ok (.aload_n 0, 1) := by decide +kernel
theorem dX0_add_31 : decode cX0_add 31 = .ok (.getfield 17, 3) := by decide +kernel
theorem dX0_add_34 : decode cX0_add 34 = .ok (.iconst 1, 1) := by decide +kernel
theorem dX0_add_35 : decode cX0_add 35 = .ok (.isub, 1) := by decide +kernel
theorem dX0_add_36 : decode cX0_add 36 = .ok (.ireturn, 1) := by decide +kernel
theorem dX0_find_0 : decode cX0_find 0 = .ok (.iload_n 1, 1) := by decide +kernel
theorem dX0_find_1 : decode cX0_find 1 = .ok (.iconst 0, 1) := by decide +kernel
theorem dX0_find_2 : decode cX0_find 2 = .ok (.bipush 9, 2) := by decide +kernel
theorem dX0_find_4 : decode cX0_find 4 = .ok (.invokestatic 25, 3) := by decide +kernel
theorem dX0_find_7 : decode cX0_find 7 = .ok (.ifCond .eq 12, 3) := by decide +kernel
theorem dX0_find_10 : decode cX0_find 10 = .ok (.aload_n 0, 1) := by decide +kernel
theorem dX0_find_11 : decode cX0_find 11 = .ok (.getfield 11, 3) := by decide +kernel
theorem dX0_find_14 : decode cX0_find 14 = .ok (.iload_n 1, 1) := by decide +kernel
theorem dX0_find_15 : decode cX0_find 15 = .ok (.aaload, 1) := by decide +kernel
theorem dX0_find_16 : decode cX0_find 16 = .ok (.goto 4, 3) := by decide +kernel
theorem dX0_find_19 : decode cX0_find 19 = .ok (.aconst_null, 1) := by decide +kernel
theorem dX0_find_20 : decode cX0_find 20 = .ok (.areturn, 1) := by decide +kernel
theorem dX0_hasDay_0 : decode cX0_hasDay 0 = .ok (.iconst 0, 1) := by decide +kernel
theorem dX0_hasDay_1 : decode cX0_hasDay 1 = .ok (.istore_n 2, 1) := by decide +kernel
theorem dX0_hasDay_2 : decode cX0_hasDay 2 = .ok (.iload_n 2, 1) := by decide +kernel
theorem dX0_hasDay_3 : decode cX0_hasDay 3 = .ok (.aload_n 0, 1) := by decide +kernel
theorem dX0_hasDay_4 : decode cX0_hasDay 4 = .ok (.getfield 17, 3) := by decide +kernel
theorem dX0_hasDay_7 : decode cX0_hasDay 7 = .ok (.if_icmp .ge 29, 3) := by decide +kernel
theorem dX0_hasDay_10 : decode cX0_hasDay 10 = .ok (.aload_n 0, 1) := by decide +kernel
theorem dX0_hasDay_11 : decode cX0_hasDay 11 = .ok (.iload_n 2, 1) := by decide +kernel
theorem dX0_hasDay_12 : decode cX0_hasDay 12 = .ok (.invokevirtual 29, 3) := by decide +kernel
theorem dX0_hasDay_15 : decode cX0_hasDay 15 = .ok (.astore_n 3, 1) := by decide +kernel
theorem dX0_hasDay_16 : decode cX0_hasDay 16 = .ok (.aload_n 3, 1) := by decide +kernel
theorem dX0_hasDay_17 : decode cX0_hasDay 17 = .ok (.ifnull 13, 3) := by decide +kernel
theorem dX0_hasDay_20 : decode cX0_hasDay 20 = .ok (.aload_n 3, 1) := by decide +kernel
theorem dX0_hasDay_21 : decode cX0_hasDay 21 = .ok (.invokevirtual 33, 3) := by decide +kernel
theorem dX0_hasDay_24 : decode cX0_hasDay 24 = .ok (.iload_n 1, 1) := by decide +kernel
theorem dX0_hasDay_25 : decode cX0_hasDay 25 = .ok (.if_icmp .ne 5, 3) := by decide +kernel
theorem dX0_hasDay_28 : decode cX0_hasDay 28 = .ok (.iconst 1, 1) := by decide +kernel
theorem dX0_hasDay_29 : decode cX0_hasDay 29 = .ok (.ireturn, 1) := by decide +kernel
theorem dX0_hasDay_30 : decode cX0_hasDay 30 = .ok (.iinc 2 1, 3) := by decide +kernel
theorem dX0_hasDay_33 : decode cX0_hasDay 33 = .ok (.goto (-31), 3) := by decide +kernel
theorem dX0_hasDay_36 : decode cX0_hasDay 36 = .ok (.iconst 0, 1) := by decide +kernel
theorem dX0_hasDay_37 : decode cX0_hasDay 37 = .ok (.ireturn, 1) := by decide +kernel
theorem dX0_develop_0 : decode cX0_develop 0 = .ok (.iconst 0, 1) := by decide +kernel
theorem dX0_develop_1 : decode cX0_develop 1 = .ok (.istore_n 2, 1) := by decide +kernel
theorem dX0_develop_2 : decode cX0_develop 2 = .ok (.iload_n 2, 1) := by decide +kernel
theorem dX0_develop_3 : decode cX0_develop 3 = .ok (.aload_n 0, 1) := by decide +kernel
theorem dX0_develop_4 : decode cX0_develop 4 = .ok (.getfield 17, 3) := by decide +kernel
theorem dX0_develop_7 : decode cX0_develop 7 = .ok (.if_icmp .ge 24, 3) := by decide +kernel
theorem dX0_develop_10 : decode cX0_develop 10 = .ok (.aload_n 0, 1) := by decide +kernel
theorem dX0_develop_11 : decode cX0_develop 11 = .ok (.iload_n 2, 1) := by decide +kernel
theorem dX0_develop_12 : decode cX0_develop 12 = .ok (.invokevirtual 29, 3) := by decide +kernel
theorem dX0_develop_15 : decode cX0_develop 15 = .ok (.astore_n 3, 1) := by decide +kernel
theorem dX0_develop_16 : decode cX0_develop 16 = .ok (.aload_n 3, 1) := by decide +kernel
theorem dX0_develop_17 : decode cX0_develop 17 = .ok (.ifnull 8, 3) := by decide +kernel
theorem dX0_develop_20 : decode cX0_develop 20 = .ok (.aload_n 3, 1) := by decide +kernel
theorem dX0_develop_21 : decode cX0_develop 21 = .ok (.aload_n 1, 1) := by decide +kernel
theorem dX0_develop_22 : decode cX0_develop 22 = .ok (.invokevirtual 37, 3) := by decide +kernel
theorem dX0_develop_25 : decode cX0_develop 25 = .ok (.iinc 2 1, 3) := by decide +kernel
theorem dX0_develop_28 : decode cX0_develop 28 = .ok (.goto (-26), 3) := by decide +kernel
theorem dX0_develop_31 : decode cX0_develop 31 = .ok (.return_, 1) := by decide +kernel
theorem dX1_init_0 : decode cX1_init 0 = .ok (.aload_n 0, 1) := by decide +kernel
theorem dX1_init_1 : decode cX1_init 1 = .ok (.invokespecial 3, 3) := by decide +kernel
theorem dX1_init_4 : decode cX1_init 4 = .ok (.aload_n 0, 1) := by decide +kernel
theorem dX1_init_5 : decode cX1_init 5 = .ok (.bipush 9, 2) := by decide +kernel
theorem dX1_init_7 : decode cX1_init 7 = .ok (.newarray .int, 2) := by decide +kernel
theorem dX1_init_9 : decode cX1_init 9 = .ok (.putfield 11, 3) := by decide +kernel
theorem dX1_init_12 : decode cX1_init 12 = .ok (.return_, 1) := by decide +kernel
theorem dX1_known_0 : decode cX1_known 0 = .ok (.iload_n 1, 1) := by decide +kernel
theorem dX1_known_1 : decode cX1_known 1 = .ok (.ifCond .lt 18, 3) := by decide +kernel
theorem dX1_known_4 : decode cX1_known 4 = .ok (.iload_n 1, 1) := by decide +kernel
theorem dX1_known_5 : decode cX1_known 5 = .ok (.bipush 9, 2) := by decide +kernel
theorem dX1_known_7 : decode cX1_known 7 = .ok (.if_icmp .ge 12, 3) := by decide +kernel
theorem dX1_known_10 : decode cX1_known 10 = .ok (.aload_n 0, 1) := by decide +kernel
theorem dX1_known_11 : decode cX1_known 11 = .ok (.getfield 11, 3) := by decide +kernel
theorem dX1_known_14 : decode cX1_known 14 = .ok (.iload_n 1, 1) := by decide +kernel
theorem dX1_known_15 : decode cX1_known 15 = .ok (.iaload, 1) := by decide +kernel
theorem dX1_known_16 : decode cX1_known 16 = .ok (.goto 5, 3) := by decide +kernel
theorem dX1_known_19 : decode cX1_known 19 = .ok (.bipush (-6), 2) := by decide +kernel
theorem dX1_known_21 : decode cX1_known 21 = .ok (.ireturn, 1) := by decide +kernel
theorem dX1_learn_0 : decode cX1_learn 0 = .ok (.iconst 0, 1) := by decide +kernel
theorem dX1_learn_1 : decode cX1_learn 1 = .ok (.istore 4, 2) := by decide +kernel
theorem dX1_learn_3 : decode cX1_learn 3 = .ok (.iload 4, 2) := by decide +kernel
theorem dX1_learn_5 : decode cX1_learn 5 = .ok (.bipush 9, 2) := by decide +kernel
theorem dX1_learn_7 : decode cX1_learn 7 = .ok (.if_icmp .ge 18, 3) := by decide +kernel
theorem dX1_learn_10 : decode cX1_learn 10 = .ok (.aload_n 0, 1) := by decide +kernel
theorem dX1_learn_11 : decode cX1_learn 11 = .ok (.getfield 11, 3) := by decide +kernel
theorem dX1_learn_14 : decode cX1_learn 14 = .ok (.iload 4, 2) := by decide +kernel
theorem dX1_learn_16 : decode cX1_learn 16 = .ok (.bipush (-6), 2) := by decide +kernel
theorem dX1_learn_18 : decode cX1_learn 18 = .ok (.iastore, 1) := by decide +kernel
theorem dX1_learn_19 : decode cX1_learn 19 = .ok (.iinc 4 1, 3) := by decide +kernel
theorem dX1_learn_22 : decode cX1_learn 22 = .ok (.goto (-19), 3) := by decide +kernel
theorem dX1_learn_25 : decode cX1_learn 25 = .ok (.iconst 0, 1) := by decide +kernel
theorem dX1_learn_26 : decode cX1_learn 26 = .ok (.istore 4, 2) := by decide +kernel
theorem dX1_learn_28 : decode cX1_learn 28 = .ok (.iconst 0, 1) := by decide +kernel
theorem dX1_learn_29 : decode cX1_learn 29 = .ok (.istore 5, 2) := by decide +kernel
theorem dX1_learn_31 : decode cX1_learn 31 = .ok (.iconst 0, 1) := by decide +kernel
theorem dX1_learn_32 : decode cX1_learn 32 = .ok (.istore 6, 2) := by decide +kernel
theorem dX1_learn_34 : decode cX1_learn 34 = .ok (.iload 6, 2) := by decide +kernel
theorem dX1_learn_36 : decode cX1_learn 36 = .ok (.bipush 96, 2) := by decide +kernel
theorem dX1_learn_38 : decode cX1_learn 38 = .ok (.if_icmp .ge 62, 3) := by decide +kernel
theorem dX1_learn_41 : decode cX1_learn 41 = .ok (.aload_n 1, 1) := by decide +kernel
theorem dX1_learn_42 : decode cX1_learn 42 = .ok (.iload 6, 2) := by decide +kernel
theorem dX1_learn_44 : decode cX1_learn 44 = .ok (.bipush 12, 2) := by decide +kernel
theorem dX1_learn_46 : decode cX1_learn 46 = .ok (.irem, 1) := by decide +kernel
theorem dX1_learn_47 : decode cX1_learn 47 = .ok (.iload 6, 2) := by decide +kernel
theorem dX1_learn_49 : decode cX1_learn 49 = .ok (.bipush 12, 2) := by decide +kernel
theorem dX1_learn_51 : decode cX1_learn 51 = .ok (.idiv, 1) := by decide +kernel
theorem dX1_learn_52 : decode cX1_learn 52 = .ok (.invokevirtual 15, 3) := by decide +kernel
theorem dX1_learn_55 : decode cX1_learn 55 = .ok (.istore 7, 2) := by decide +kernel
theorem dX1_learn_57 : decode cX1_learn 57 = .ok (.aload_n 0, 1) := by decide +kernel
theorem dX1_learn_58 : decode cX1_learn 58 = .ok (.iload 6, 2) := by decide +kernel
theorem dX1_learn_60 : decode cX1_learn 60 = .ok (.iload 7, 2) := by decide +kernel
theorem dX1_learn_62 : decode cX1_learn 62 = .ok (.aload_n 1, 1) := by decide +kernel
theorem dX1_learn_63 : decode cX1_learn 63 = .ok (.aload_n 2, 1) := by decide +kernel
theorem dX1_learn_64 : decode cX1_learn 64 = .ok (.iload_n 3, 1) := by decide +kernel
theorem dX1_learn_65 : decode cX1_learn 65 = .ok (.invokevirtual 21, 3) := by decide +kernel
theorem dX1_learn_68 : decode cX1_learn 68 = .ok (.aload_n 0, 1) := by decide +kernel
theorem dX1_learn_69 : decode cX1_learn 69 = .ok (.getfield 25, 3) := by decide +kernel
theorem dX1_learn_72 : decode cX1_learn 72 = .ok (.ifCond .eq 6, 3) := by decide +kernel
theorem dX1_learn_75 : decode cX1_learn 75 = .ok (.iinc 4 1, 3) := by decide +kernel
theorem dX1_learn_78 : decode cX1_learn 78 = .ok (.aload_n 0, 1) := by decide +kernel
theorem dX1_learn_79 : decode cX1_learn 79 = .ok (.getfield 29, 3) := by decide +kernel
theorem dX1_learn_82 : decode cX1_learn 82 = .ok (.ifCond .ne 12, 3) := by decide +kernel
theorem dX1_learn_85 : decode cX1_learn 85 = .ok (.iload 7, 2) := by decide +kernel
theorem dX1_learn_87 : decode cX1_learn 87 = .ok (.iconst 5, 1) := by decide +kernel
theorem dX1_learn_88 : decode cX1_learn 88 = .ok (.if_icmp .gt 6, 3) := by decide +kernel
theorem dX1_learn_91 : decode cX1_learn 91 = .ok (.iconst 1, 1) := by decide +kernel
theorem dX1_learn_92 : decode cX1_learn 92 = .ok (.istore 5, 2) := by decide +kernel
theorem dX1_learn_94 : decode cX1_learn 94 = .ok (.iinc 6 1, 3) := by decide +kernel
theorem dX1_learn_97 : decode cX1_learn 97 = .ok (.goto (-63), 3) := by decide +kernel
theorem dX1_learn_100 : decode cX1_learn 100 = .ok (.aload_n 0, 1) := by decide +kernel
theorem dX1_learn_101 : decode cX1_learn 101 = .ok (.getfield 11, 3) := by decide +kernel
theorem dX1_learn_104 : decode cX1_learn 104 = .ok (.iconst 0, 1) := by decide +kernel
theorem dX1_learn_105 : decode cX1_learn 105 = .ok (.iload 4, 2) := by decide +kernel
theorem dX1_learn_107 : decode cX1_learn 107 = .ok (.iastore, 1) := by decide +kernel
theorem dX1_learn_108 : decode cX1_learn 108 = .ok (.iload 4, 2) := by decide +kernel
theorem dX1_learn_110 : decode cX1_learn 110 = .ok (.ifCond .le 25, 3) := by decide +kernel
theorem dX1_learn_113 : decode cX1_learn 113 = .ok (.aload_n 0, 1) := by decide +kernel
theorem dX1_learn_114 : decode cX1_learn 114 = .ok (.getfield 11, 3) := by decide +kernel
theorem dX1_learn_117 : decode cX1_learn 117 = .ok (.iconst 1, 1) := by decide +kernel
theorem dX1_learn_118 : decode cX1_learn 118 = .ok (.aload_n 1, 1) := by decide +kernel
theorem dX1_learn_119 : decode cX1_learn 119 = .ok (.iconst 5, 1) := by decide +kernel
theorem dX1_learn_120 : decode cX1_learn 120 = .ok (.invokevirtual 32, 3) := by decide +kernel
theorem dX1_learn_123 : decode cX1_learn 123 = .ok (.iastore, 1) := by decide +kernel
theorem dX1_learn_124 : decode cX1_learn 124 = .ok (.aload_n 0, 1) := by decide +kernel
theorem dX1_learn_125 : decode cX1_learn 125 = .ok (.getfield 11, 3) := by decide +kernel
theorem dX1_learn_128 : decode cX1_learn 128 = .ok (.iconst 2, 1) := by decide +kernel
theorem dX1_learn_129 : decode cX1_learn 129 = .ok (.aload_n 1, 1) := by decide +kernel
theorem dX1_learn_130 : decode cX1_learn 130 = .ok (.iconst 4, 1) := by decide +kernel
theorem dX1_learn_131 : decode cX1_learn 131 = .ok (.invokevirtual 32, 3) := by decide +kernel
theorem dX1_learn_134 : decode cX1_learn 134 = .ok (.iastore, 1) := by decide +kernel
theorem dX1_learn_135 : decode cX1_learn 135 = .ok (.iload 5, 2) := by decide +kernel
theorem dX1_learn_137 : decode cX1_learn 137 = .ok (.ifCond .ne 7, 3) := by decide +kernel
theorem dX1_learn_140 : decode cX1_learn 140 = .ok (.aload_n 0, 1) := by decide +kernel
theorem dX1_learn_141 : decode cX1_learn 141 = .ok (.invokevirtual 36, 3) := by decide +kernel
theorem dX1_learn_144 : decode cX1_learn 144 = .ok (.return_, 1) := by decide +kernel
theorem dX1_lookAt_0 : decode cX1_lookAt 0 = .ok (.aload_n 0, 1) := by decide +kernel
theorem dX1_lookAt_1 : decode cX1_lookAt 1 = .ok (.iconst 0, 1) := by decide +kernel
theorem dX1_lookAt_2 : decode cX1_lookAt 2 = .ok (.putfield 29, 3) := by decide +kernel
theorem dX1_lookAt_5 : decode cX1_lookAt 5 = .ok (.aload_n 0, 1) := by decide +kernel
theorem dX1_lookAt_6 : decode cX1_lookAt 6 = .ok (.iconst 0, 1) := by decide +kernel
theorem dX1_lookAt_7 : decode cX1_lookAt 7 = .ok (.putfield 25, 3) := by decide +kernel
theorem dX1_lookAt_10 : decode cX1_lookAt 10 = .ok (.iconst 0, 1) := by decide +kernel
theorem dX1_lookAt_11 : decode cX1_lookAt 11 = .ok (.istore 6, 2) := by decide +kernel
theorem dX1_lookAt_13 : decode cX1_lookAt 13 = .ok (.iload 6, 2) := by decide +kernel
theorem dX1_lookAt_15 : decode cX1_lookAt 15 = .ok (.aload 4, 2) := by decide +kernel
theorem dX1_lookAt_17 : decode cX1_lookAt 17 = .ok (.invokevirtual 39, 3) := by decide +kernel
theorem dX1_lookAt_20 : decode cX1_lookAt 20 = .ok (.if_icmp .ge 102, 3) := by decide +kernel
theorem dX1_lookAt_23 : decode cX1_lookAt 23 = .ok (.aload 4, 2) := by decide +kernel
theorem dX1_lookAt_25 : decode cX1_lookAt 25 = .ok (.iload 6, 2) := by decide +kernel
theorem dX1_lookAt_27 : decode cX1_lookAt 27 = .ok (.invokevirtual 45, 3) := by decide +kernel
theorem dX1_lookAt_30 : decode cX1_lookAt 30 = .ok (.astore 7, 2) := by decide +kernel
theorem dX1_lookAt_32 : decode cX1_lookAt 32 = .ok (.aload 7, 2) := by decide +kernel
theorem dX1_lookAt_34 : decode cX1_lookAt 34 = .ok (.ifnull 82, 3) := by decide +kernel
theorem dX1_lookAt_37 : decode cX1_lookAt 37 = .ok (.aload 7, 2) := by decide +kernel
theorem dX1_lookAt_39 : decode cX1_lookAt 39 = .ok (.invokevirtual 49, 3) := by decide +kernel
theorem dX1_lookAt_42 : decode cX1_lookAt 42 = .ok (.iload 5, 2) := by decide +kernel
theorem dX1_lookAt_44 : decode cX1_lookAt 44 = .ok (.if_icmp .le 6, 3) := by decide +kernel
theorem dX1_lookAt_47 : decode cX1_lookAt 47 = .ok (.goto 69, 3) := by decide +kernel
theorem dX1_lookAt_50 : decode cX1_lookAt 50 = .ok (.aload 7, 2) := by decide +kernel
theorem dX1_lookAt_52 : decode cX1_lookAt 52 = .ok (.iload_n 1, 1) := by decide +kernel
theorem dX1_lookAt_53 : decode cX1_lookAt 53 = .ok (.invokevirtual 54, 3) := by decide +kernel
theorem dX1_lookAt_56 : decode cX1_lookAt 56 = .ok (.istore 8, 2) := by decide +kernel
theorem dX1_lookAt_58 : decode cX1_lookAt 58 = .ok (.iload 8, 2) := by decide +kernel
theorem dX1_lookAt_60 : decode cX1_lookAt 60 = .ok (.bipush (-6), 2) := by decide +kernel
theorem dX1_lookAt_62 : decode cX1_lookAt 62 = .ok (.if_icmp .ne 6, 3) := by decide +kernel
theorem dX1_lookAt_65 : decode cX1_lookAt 65 = .ok (.goto 51, 3) := by decide +kernel
theorem dX1_lookAt_68 : decode cX1_lookAt 68 = .ok (.aload_n 0, 1) := by decide +kernel
theorem dX1_lookAt_69 : decode cX1_lookAt 69 = .ok (.iconst 1, 1) := by decide +kernel
theorem dX1_lookAt_70 : decode cX1_lookAt 70 = .ok (.putfield 29, 3) := by decide +kernel
theorem dX1_lookAt_73 : decode cX1_lookAt 73 = .ok (.iload 8, 2) := by decide +kernel
theorem dX1_lookAt_75 : decode cX1_lookAt 75 = .ok (.bipush 10, 2) := by decide +kernel
theorem dX1_lookAt_77 : decode cX1_lookAt 77 = .ok (.if_icmp .ge 6, 3) := by decide +kernel
theorem dX1_lookAt_80 : decode cX1_lookAt 80 = .ok (.goto 36, 3) := by decide +kernel
theorem dX1_lookAt_83 : decode cX1_lookAt 83 = .ok (.aload 7, 2) := by decide +kernel
theorem dX1_lookAt_85 : decode cX1_lookAt 85 = .ok (.iload_n 1, 1) := by decide +kernel
theorem dX1_lookAt_86 : decode cX1_lookAt 86 = .ok (.invokevirtual 57, 3) := by decide +kernel
theorem dX1_lookAt_89 : decode cX1_lookAt 89 = .ok (.aload_n 3, 1) := by decide +kernel
theorem dX1_lookAt_90 : decode cX1_lookAt 90 = .ok (.invokevirtual 60, 3) := by decide +kernel
theorem dX1_lookAt_93 : decode cX1_lookAt 93 = .ok (.if_icmp .ne 11, 3) := by decide +kernel
theorem dX1_lookAt_96 : decode cX1_lookAt 96 = .ok (.aload_n 0, 1) := by decide +kernel
theorem dX1_lookAt_97 : decode cX1_lookAt 97 = .ok (.iconst 1, 1) := by decide +kernel
theorem dX1_lookAt_98 : decode cX1_lookAt 98 = .ok (.putfield 25, 3) := by decide +kernel
theorem dX1_lookAt_101 : decode cX1_lookAt 101 = .ok (.goto 15, 3) := by decide +kernel
theorem dX1_lookAt_104 : decode cX1_lookAt 104 = .ok (.aload_n 0, 1) := by decide +kernel
theorem dX1_lookAt_105 : decode cX1_lookAt 105 = .ok (.iconst 3, 1) := by decide +kernel
theorem dX1_lookAt_106 : decode cX1_lookAt 106 = .ok (.iload 8, 2) := by decide +kernel
theorem dX1_lookAt_108 : decode cX1_lookAt 108 = .ok (.iadd, 1) := by decide +kernel
theorem dX1_lookAt_109 : decode cX1_lookAt 109 = .ok (.bipush 10, 2) := by decide +kernel
theorem dX1_lookAt_111 : decode cX1_lookAt 111 = .ok (.isub, 1) := by decide +kernel
theorem dX1_lookAt_112 : decode cX1_lookAt 112 = .ok (.iload_n 2, 1) := by decide +kernel
theorem dX1_lookAt_113 : decode cX1_lookAt 113 = .ok (.invokevirtual 63, 3) := by decide +kernel
theorem dX1_lookAt_116 : decode cX1_lookAt 116 = .ok (.iinc 6 1, 3) := by decide +kernel
theorem dX1_lookAt_119 : decode cX1_lookAt 119 = .ok (.goto (-106), 3) := by decide +kernel
theorem dX1_lookAt_122 : decode cX1_lookAt 122 = .ok (.return_, 1) := by decide +kernel
theorem dX1_comeNearer_0 : decode cX1_comeNearer 0 = .ok (.iload_n 1, 1) := by decide +kernel
theorem dX1_comeNearer_1 : decode cX1_comeNearer 1 = .ok (.iconst 3, 1) := by decide +kernel
theorem dX1_comeNearer_2 : decode cX1_comeNearer 2 = .ok (.if_icmp .lt 9, 3) := by decide +kernel
theorem dX1_comeNearer_5 : decode cX1_comeNearer 5 = .ok (.iload_n 1, 1) := by decide +kernel
theorem dX1_comeNearer_6 : decode cX1_comeNearer 6 = .ok (.bipush 9, 2) := by decide +kernel
theorem dX1_comeNearer_8 : decode cX1_comeNearer 8 = .ok (.if_icmp .lt 4, 3) := by decide +kernel
theorem dX1_comeNearer_11 : decode cX1_comeNearer 11 = .ok (.return_, 1) := by decide +kernel
theorem dX1_comeNearer_12 : decode cX1_comeNearer 12 = .ok (.aload_n 0, 1) := by decide +kernel
theorem dX1_comeNearer_13 : decode cX1_comeNearer 13 = .ok (.getfield 11, 3) := by decide +kernel
theorem dX1_comeNearer_16 : decode cX1_comeNearer 16 = .ok (.iload_n 1, 1) := by decide +kernel
theorem dX1_comeNearer_17 : decode cX1_comeNearer 17 = .ok (.iaload, 1) := by decide +kernel
theorem dX1_comeNearer_18 : decode cX1_comeNearer 18 = .ok (.bipush (-6), 2) := by decide +kernel
theorem dX1_comeNearer_20 : decode cX1_comeNearer 20 = .ok (.if_icmp .eq 13, 3) := by decide +kernel
theorem dX1_comeNearer_23 : decode cX1_comeNearer 23 = .ok (.iload_n 2, 1) := by decide +kernel
theorem dX1_comeNearer_24 : decode cX1_comeNearer 24 = .ok (.aload_n 0, 1) := by decide +kernel
theorem dX1_comeNearer_25 : decode cX1_comeNearer 25 = .ok (.getfield 11, 3) := by decide +kernel
theorem dX1_comeNearer_28 : decode cX1_comeNearer 28 = .ok (.iload_n 1, 1) := by decide +kernel
theorem dX1_comeNearer_29 : decode cX1_comeNearer 29 = .ok (.iaload, 1) := by decide +kernel
theorem dX1_comeNearer_30 : decode cX1_comeNearer 30 = .ok (.if_icmp .ge 10, 3) := by decide +kernel
theorem dX1_comeNearer_33 : decode cX1_comeNearer 33 = .ok (.aload_n 0, 1) := by decide +kernel
theorem dX1_comeNearer_34 : decode cX1_comeNearer 34 = .ok (.getfield 11, 3) := by decide +kernel
theorem dX1_comeNearer_37 : decode cX1_comeNearer 37 = .ok (.iload_n 1, 1) := by decide +kernel
theorem dX1_comeNearer_38 : decode cX1_comeNearer 38 = .ok (.iload_n 2, 1) := by decide +kernel
theorem dX1_comeNearer_39 : decode cX1_comeNearer 39 = .ok (.iastore, 1) := by decide +kernel
theorem dX1_comeNearer_40 : decode cX1_comeNearer 40 = .ok (.return_, 1) := by decide +kernel
theorem dX1_ruleOutTheRest_0 : decode cX1_ruleOutTheRest 0 = .ok (.iconst 3, 1) := by decide +kernel
theorem dX1_ruleOutTheRest_1 : decode cX1_ruleOutTheRest 1 = .ok (.istore_n 1, 1) := by decide +kernel
theorem dX1_ruleOutTheRest_2 : decode cX1_ruleOutTheRest 2 = .ok (.iload_n 1, 1) := by decide +kernel
theorem dX1_ruleOutTheRest_3 : decode cX1_ruleOutTheRest 3 = .ok (.bipush 9, 2) := by decide +kernel
theorem dX1_ruleOutTheRest_5 : decode cX1_ruleOutTheRest 5 = .ok (.if_icmp .ge 28, 3) := by decide +kernel
theorem dX1_ruleOutTheRest_8 : decode cX1_ruleOutTheRest 8 = .ok (.aload_n 0, 1) := by decide +kernel
theorem dX1_ruleOutTheRest_9 : decode cX1_ruleOutTheRest 9 = .ok (.getfield 11, 3) := by decide +kernel
theorem dX1_ruleOutTheRest_12 : decode cX1_ruleOutTheRest 12 = .ok (.iload_n 1, 1) := by decide +kernel
theorem dX1_ruleOutTheRest_13 : decode cX1_ruleOutTheRest 13 = .ok (.iaload, 1) := by decide +kernel
theorem dX1_ruleOutTheRest_14 : decode cX1_ruleOutTheRest 14 = .ok (.bipush (-6), 2) := by decide +kernel
theorem dX1_ruleOutTheRest_16 : decode cX1_ruleOutTheRest 16 = .ok (.if_icmp .ne 11, 3) := by decide +kernel
theorem dX1_ruleOutTheRest_19 : decode cX1_ruleOutTheRest 19 = .ok (.aload_n 0, 1) := by decide +kernel
theorem dX1_ruleOutTheRest_20 : decode cX1_ruleOutTheRest 20 = .ok (.getfield 11, 3) := by decide +kernel
theorem dX1_ruleOutTheRest_23 : decode cX1_ruleOutTheRest 23 = .ok (.iload_n 1, 1) := by decide +kernel
theorem dX1_ruleOutTheRest_24 : decode cX1_ruleOutTheRest 24 = .ok (.bipush 99, 2) := by decide +kernel
theorem dX1_ruleOutTheRest_26 : decode cX1_ruleOutTheRest 26 = .ok (.iastore, 1) := by decide +kernel
theorem dX1_ruleOutTheRest_27 : decode cX1_ruleOutTheRest 27 = .ok (.iinc 1 1, 3) := by decide +kernel
theorem dX1_ruleOutTheRest_30 : decode cX1_ruleOutTheRest 30 = .ok (.goto (-28), 3) := by decide +kernel
theorem dX1_ruleOutTheRest_33 : decode cX1_ruleOutTheRest 33 = .ok (.return_, 1) := by decide +kernel
theorem dX2_init_0 : decode cX2_init 0 = .ok (.aload_n 0, 1) := by decide +kernel
theorem dX2_init_1 : decode cX2_init 1 = .ok (.invokespecial 3, 3) := by decide +kernel
theorem dX2_init_4 : decode cX2_init 4 = .ok (.aload_n 0, 1) := by decide +kernel
theorem dX2_init_5 : decode cX2_init 5 = .ok (.bipush 8, 2) := by decide +kernel
theorem dX2_init_7 : decode cX2_init 7 = .ok (.newarray .int, 2) := by decide +kernel
theorem dX2_init_9 : decode cX2_init 9 = .ok (.putfield 11, 3) := by decide +kernel
theorem dX2_init_12 : decode cX2_init 12 = .ok (.aload_n 0, 1) := by decide +kernel
theorem dX2_init_13 : decode cX2_init 13 = .ok (.bipush 8, 2) := by decide +kernel
theorem dX2_init_15 : decode cX2_init 15 = .ok (.newarray .int, 2) := by decide +kernel
theorem dX2_init_17 : decode cX2_init 17 = .ok (.putfield 15, 3) := by decide +kernel
theorem dX2_init_20 : decode cX2_init 20 = .ok (.aload_n 0, 1) := by decide +kernel
theorem dX2_init_21 : decode cX2_init 21 = .ok (.bipush 8, 2) := by decide +kernel
theorem dX2_init_23 : decode cX2_init 23 = .ok (.newarray .int, 2) := by decide +kernel
theorem dX2_init_25 : decode cX2_init 25 = .ok (.putfield 18, 3) := by decide +kernel
theorem dX2_init_28 : decode cX2_init 28 = .ok (.aload_n 0, 1) := by decide +kernel
theorem dX2_init_29 : decode cX2_init 29 = .ok (.bipush 8, 2) := by decide +kernel
theorem dX2_init_31 : decode cX2_init 31 = .ok (.newarray .int, 2) := by decide +kernel
theorem dX2_init_33 : decode cX2_init 33 = .ok (.putfield 21, 3) := by decide +kernel
theorem dX2_init_36 : decode cX2_init 36 = .ok (.aload_n 0, 1) := by decide +kernel
theorem dX2_init_37 : decode cX2_init 37 = .ok (.sipush 256, 3) := by decide +kernel
theorem dX2_init_40 : decode cX2_init 40 = .ok (.newarray .long, 2) := by decide +kernel
theorem dX2_init_42 : decode cX2_init 42 = .ok (.putfield 24, 3) := by decide +kernel
theorem dX2_init_45 : decode cX2_init 45 = .ok (.aload_n 0, 1) := by decide +kernel
theorem dX2_init_46 : decode cX2_init 46 = .ok (.sipush 256, 3) := by decide +kernel
theorem dX2_init_49 : decode cX2_init 49 = .ok (.newarray .long, 2) := by decide +kernel
theorem dX2_init_51 : decode cX2_init 51 = .ok (.putfield 28, 3) := by decide +kernel
theorem dX2_init_54 : decode cX2_init 54 = .ok (.return_, 1) := by decide +kernel
theorem dX2_plan_0 : decode cX2_plan 0 = .ok (.iload_n 1, 1) := by decide +kernel
theorem dX2_plan_1 : decode cX2_plan 1 = .ok (.iconst 0, 1) := by decide +kernel
theorem dX2_plan_2 : decode cX2_plan 2 = .ok (.bipush 7, 2) := by decide +kernel
theorem dX2_plan_4 : decode cX2_plan 4 = .ok (.invokestatic 31, 3) := by decide +kernel
theorem dX2_plan_7 : decode cX2_plan 7 = .ok (.ifCond .ne 4, 3) := by decide +kernel
theorem dX2_plan_10 : decode cX2_plan 10 = .ok (.return_, 1) := by decide +kernel
theorem dX2_plan_11 : decode cX2_plan 11 = .ok (.aload_n 0, 1) := by decide +kernel
theorem dX2_plan_12 : decode cX2_plan 12 = .ok (.getfield 11, 3) := by decide +kernel
theorem dX2_plan_15 : decode cX2_plan 15 = .ok (.iload_n 1, 1) := by decide +kernel
theorem dX2_plan_16 : decode cX2_plan 16 = .ok (.iload_n 2, 1) := by decide +kernel
theorem dX2_plan_17 : decode cX2_plan 17 = .ok (.iastore, 1) := by decide +kernel
theorem dX2_plan_18 : decode cX2_plan 18 = .ok (.aload_n 0, 1) := by decide +kernel
theorem dX2_plan_19 : decode cX2_plan 19 = .ok (.getfield 15, 3) := by decide +kernel
theorem dX2_plan_22 : decode cX2_plan 22 = .ok (.iload_n 1, 1) := by decide +kernel
theorem dX2_plan_23 : decode cX2_plan 23 = .ok (.iload_n 3, 1) := by decide +kernel
theorem dX2_plan_24 : decode cX2_plan 24 = .ok (.iastore, 1) := by decide +kernel
theorem dX2_plan_25 : decode cX2_plan 25 = .ok (.aload_n 0, 1) := by decide +kernel
theorem dX2_plan_26 : decode cX2_plan 26 = .ok (.getfield 18, 3) := by decide +kernel
theorem dX2_plan_29 : decode cX2_plan 29 = .ok (.iload_n 1, 1) := by decide +kernel
theorem dX2_plan_30 : decode cX2_plan 30 = .ok (.iload 4, 2) := by decide +kernel
theorem dX2_plan_32 : decode cX2_plan 32 = .ok (.iastore, 1) := by decide +kernel
theorem dX2_plan_33 : decode cX2_plan 33 = .ok (.aload_n 0, 1) := by decide +kernel
theorem dX2_plan_34 : decode cX2_plan 34 = .ok (.getfield 21, 3) := by decide +kernel
theorem dX2_plan_37 : decode cX2_plan 37 = .ok (.iload_n 1, 1) := by decide +kernel
theorem dX2_plan_38 : decode cX2_plan 38 = .ok (.iload 5, 2) := by decide +kernel
theorem dX2_plan_40 : decode cX2_plan 40 = .ok (.iastore, 1) := by decide +kernel
theorem dX2_plan_41 : decode cX2_plan 41 = .ok (.return_, 1) := by decide +kernel
theorem dX2_weigh_0 : decode cX2_weigh 0 = .ok (.iconst 0, 1) := by decide +kernel
theorem dX2_weigh_1 : decode cX2_weigh 1 = .ok (.istore_n 2, 1) := by decide +kernel
theorem dX2_weigh_2 : decode cX2_weigh 2 = .ok (.iload_n 2, 1) := by decide +kernel
theorem dX2_weigh_3 : decode cX2_weigh 3 = .ok (.sipush 256, 3) := by decide +kernel
theorem dX2_weigh_6 : decode cX2_weigh 6 = .ok (.if_icmp .ge 16, 3) := by decide +kernel
theorem dX2_weigh_9 : decode cX2_weigh 9 = .ok (.aload_n 0, 1) := by decide +kernel
theorem dX2_weigh_10 : decode cX2_weigh 10 = .ok (.getfield 28, 3) := by decide +kernel
theorem dX2_weigh_13 : decode cX2_weigh 13 = .ok (.iload_n 2, 1) := by decide +kernel
theorem dX2_weigh_14 : decode cX2_weigh 14 = .ok (.lconst 0, 1) := by decide +kernel
theorem dX2_weigh_15 : decode cX2_weigh 15 = .ok (.lastore, 1) := by decide +kernel
theorem dX2_weigh_16 : decode cX2_weigh 16 = .ok (.iinc 2 1, 3) := by decide +kernel
theorem dX2_weigh_19 : decode cX2_weigh 19 = .ok (.goto (-17), 3) := by decide +kernel
theorem dX2_weigh_22 : decode cX2_weigh 22 = .ok (.iconst 0, 1) := by decide +kernel
theorem dX2_weigh_23 : decode cX2_weigh 23 = .ok (.istore_n 2, 1) := by decide +kernel
theorem dX2_weigh_24 : decode cX2_weigh 24 = .ok (.iload_n 2, 1) := by decide +kernel
theorem dX2_weigh_25 : decode cX2_weigh 25 = .ok (.aload_n 1, 1) := by decide +kernel
theorem dX2_weigh_26 : decode cX2_weigh 26 = .ok (.invokevirtual 35, 3) := by decide +kernel
theorem dX2_weigh_29 : decode cX2_weigh 29 = .ok (.if_icmp .ge 38, 3) := by decide +kernel
theorem dX2_weigh_32 : decode cX2_weigh 32 = .ok (.aload_n 1, 1) := by decide +kernel
theorem dX2_weigh_33 : decode cX2_weigh 33 = .ok (.iload_n 2, 1) := by decide +kernel
theorem dX2_weigh_34 : decode cX2_weigh 34 = .ok (.invokevirtual 41, 3) := by decide +kernel
theorem dX2_weigh_37 : decode cX2_weigh 37 = .ok (.astore_n 3, 1) := by decide +kernel
theorem dX2_weigh_38 : decode cX2_weigh 38 = .ok (.aload_n 3, 1) := by decide +kernel
theorem dX2_weigh_39 : decode cX2_weigh 39 = .ok (.ifnull 22, 3) := by decide +kernel
theorem dX2_weigh_42 : decode cX2_weigh 42 = .ok (.aload_n 3, 1) := by decide +kernel
theorem dX2_weigh_43 : decode cX2_weigh 43 = .ok (.bipush 10, 2) := by decide +kernel
theorem dX2_weigh_45 : decode cX2_weigh 45 = .ok (.invokevirtual 45, 3) := by decide +kernel
theorem dX2_weigh_48 : decode cX2_weigh 48 = .ok (.iconst 1, 1) := by decide +kernel
theorem dX2_weigh_49 : decode cX2_weigh 49 = .ok (.if_icmp .ne 12, 3) := by decide +kernel
theorem dX2_weigh_52 : decode cX2_weigh 52 = .ok (.aload_n 0, 1) := by decide +kernel
theorem dX2_weigh_53 : decode cX2_weigh 53 = .ok (.aload_n 3, 1) := by decide +kernel
theorem dX2_weigh_54 : decode cX2_weigh 54 = .ok (.iconst 0, 1) := by decide +kernel
theorem dX2_weigh_55 : decode cX2_weigh 55 = .ok (.invokevirtual 45, 3) := by decide +kernel
theorem dX2_weigh_58 : decode cX2_weigh 58 = .ok (.invokevirtual 51, 3) := by decide +kernel
theorem dX2_weigh_61 : decode cX2_weigh 61 = .ok (.iinc 2 1, 3) := by decide +kernel
theorem dX2_weigh_64 : decode cX2_weigh 64 = .ok (.goto (-40), 3) := by decide +kernel
theorem dX2_weigh_67 : decode cX2_weigh 67 = .ok (.return_, 1) := by decide +kernel
theorem dX2_weighColumn_0 : decode cX2_weighColumn 0 = .ok (.aload_n 0, 1) := by decide +kernel
theorem dX2_weighColumn_1 : decode cX2_weighColumn 1 = .ok (.getfield 24, 3) := by decide +kernel
theorem dX2_weighColumn_4 : decode cX2_weighColumn 4 = .ok (.iconst 0, 1) := by decide +kernel
theorem dX2_weighColumn_5 : decode cX2_weighColumn 5 = .ok (.ldc2_w 55, 3) := by decide +kernel
theorem dX2_weighColumn_8 : decode cX2_weighColumn 8 = .ok (.lastore, 1) := by decide +kernel
theorem dX2_weighColumn_9 : decode cX2_weighColumn 9 = .ok (.iconst 0, 1) := by decide +kernel
theorem dX2_weighColumn_10 : decode cX2_weighColumn 10 = .ok (.istore_n 2, 1) := by decide +kernel
theorem dX2_weighColumn_11 : decode cX2_weighColumn 11 = .ok (.iload_n 2, 1) := by decide +kernel
theorem dX2_weighColumn_12 : decode cX2_weighColumn 12 = .ok (.bipush 8, 2) := by decide +kernel
theorem dX2_weighColumn_14 : decode cX2_weighColumn 14 = .ok (.if_icmp .ge 85, 3) := by decide +kernel
theorem dX2_weighColumn_17 : decode cX2_weighColumn 17 = .ok (.iconst 1, 1) := by decide +kernel
theorem dX2_weighColumn_18 : decode cX2_weighColumn 18 = .ok (.iload_n 2, 1) := by decide +kernel
theorem dX2_weighColumn_19 : decode cX2_weighColumn 19 = .ok (.ishl, 1) := by decide +kernel
theorem dX2_weighColumn_20 : decode cX2_weighColumn 20 = .ok (.istore_n 3, 1) := by decide +kernel
theorem dX2_weighColumn_21 : decode cX2_weighColumn 21 = .ok (.aload_n 0, 1) := by decide +kernel
theorem dX2_weighColumn_22 : decode cX2_weighColumn 22 = .ok (.iload_n 2, 1) := by decide +kernel
theorem dX2_weighColumn_23 : decode cX2_weighColumn 23 = .ok (.iload_n 1, 1) := by decide +kernel
theorem dX2_weighColumn_24 : decode cX2_weighColumn 24 = .ok (.invokevirtual 57, 3) := by decide +kernel
theorem dX2_weighColumn_27 : decode cX2_weighColumn 27 = .ok (.istore 4, 2) := by decide +kernel
theorem dX2_weighColumn_29 : decode cX2_weighColumn 29 = .ok (.iconst 0, 1) := by decide +kernel
theorem dX2_weighColumn_30 : decode cX2_weighColumn 30 = .ok (.istore 5, 2) := by decide +kernel
theorem dX2_weighColumn_32 : decode cX2_weighColumn 32 = .ok (.iload 5, 2) := by decide +kernel
theorem dX2_weighColumn_34 : decode cX2_weighColumn 34 = .ok (.iload_n 3, 1) := by decide +kernel
theorem dX2_weighColumn_35 : decode cX2_weighColumn 35 = .ok (.if_icmp .ge 58, 3) := by decide +kernel
theorem dX2_weighColumn_38 : decode cX2_weighColumn 38 = .ok (.aload_n 0, 1) := by decide +kernel
theorem dX2_weighColumn_39 : decode cX2_weighColumn 39 = .ok (.getfield 24, 3) := by decide +kernel
theorem dX2_weighColumn_42 : decode cX2_weighColumn 42 = .ok (.iload_n 3, 1) := by decide +kernel
theorem dX2_weighColumn_43 : decode cX2_weighColumn 43 = .ok (.iload 5, 2) := by decide +kernel
theorem dX2_weighColumn_45 : decode cX2_weighColumn 45 = .ok (.iadd, 1) := by decide +kernel
theorem dX2_weighColumn_46 : decode cX2_weighColumn 46 = .ok (.aload_n 0, 1) := by decide +kernel
theorem dX2_weighColumn_47 : decode cX2_weighColumn 47 = .ok (.getfield 24, 3) := by decide +kernel
theorem dX2_weighColumn_50 : decode cX2_weighColumn 50 = .ok (.iload 5, 2) := by decide +kernel
theorem dX2_weighColumn_52 : decode cX2_weighColumn 52 = .ok (.laload, 1) := by decide +kernel
theorem dX2_weighColumn_53 : decode cX2_weighColumn 53 = .ok (.ldc2_w 61, 3) := by decide +kernel
theorem dX2_weighColumn_56 : decode cX2_weighColumn 56 = .ok (.ldiv, 1) := by decide +kernel
theorem dX2_weighColumn_57 : decode cX2_weighColumn 57 = .ok (.iload 4, 2) := by decide +kernel
theorem dX2_weighColumn_59 : decode cX2_weighColumn 59 = .ok (.i2l, 1) := by decide +kernel
theorem dX2_weighColumn_60 : decode cX2_weighColumn 60 = .ok (.lmul, 1) := by decide +kernel
theorem dX2_weighColumn_61 : decode cX2_weighColumn 61 = .ok (.lastore, 1) := by decide +kernel
theorem dX2_weighColumn_62 : decode cX2_weighColumn 62 = .ok (.aload_n 0, 1) := by decide +kernel
theorem dX2_weighColumn_63 : decode cX2_weighColumn 63 = .ok (.getfield 28, 3) := by decide +kernel
theorem dX2_weighColumn_66 : decode cX2_weighColumn 66 = .ok (.iload_n 3, 1) := by decide +kernel
theorem dX2_weighColumn_67 : decode cX2_weighColumn 67 = .ok (.iload 5, 2) := by decide +kernel
theorem dX2_weighColumn_69 : decode cX2_weighColumn 69 = .ok (.iadd, 1) := by decide +kernel
theorem dX2_weighColumn_70 : decode cX2_weighColumn 70 = .ok (.dup2, 1) := by decide +kernel
theorem dX2_weighColumn_71 : decode cX2_weighColumn 71 = .ok (.laload, 1) := by decide +kernel
theorem dX2_weighColumn_72 : decode cX2_weighColumn 72 = .ok (.ldc2_w 55, 3) := by decide +kernel
theorem dX2_weighColumn_75 : decode cX2_weighColumn 75 = .ok (.aload_n 0, 1) := by decide +kernel
theorem dX2_weighColumn_76 : decode cX2_weighColumn 76 = .ok (.getfield 24, 3) := by decide +kernel
theorem dX2_weighColumn_79 : decode cX2_weighColumn 79 = .ok (.iload_n 3, 1) := by decide +kernel
theorem dX2_weighColumn_80 : decode cX2_weighColumn 80 = .ok (.iload 5, 2) := by decide +kernel
theorem dX2_weighColumn_82 : decode cX2_weighColumn 82 = .ok (.iadd, 1) := by decide +kernel
theorem dX2_weighColumn_83 : decode cX2_weighColumn 83 = .ok (.laload, 1) := by decide +kernel
theorem dX2_weighColumn_84 : decode cX2_weighColumn 84 = .ok (.lsub, 1) := by decide +kernel
theorem dX2_weighColumn_85 : decode cX2_weighColumn 85 = .ok (.ladd, 1) := by decide +kernel
theorem dX2_weighColumn_86 : decode cX2_weighColumn 86 = .ok (.lastore, 1) := by decide +kernel
theorem dX2_weighColumn_87 : decode cX2_weighColumn 87 = .ok (.iinc 5 1, 3) := by decide +kernel
theorem dX2_weighColumn_90 : decode cX2_weighColumn 90 = .ok (.goto (-58), 3) := by decide +kernel
theorem dX2_weighColumn_93 : decode cX2_weighColumn 93 = .ok (.iinc 2 1, 3) := by decide +kernel
theorem dX2_weighColumn_96 : decode cX2_weighColumn 96 = .ok (.goto (-85), 3) := by decide +kernel
theorem dX2_weighColumn_99 : decode cX2_weighColumn 99 = .ok (.return_, 1) := by decide +kernel
theorem dX2_tenthsMissing_0 : decode cX2_tenthsMissing 0 = .ok (.iload_n 1, 1) := by decide +kernel
theorem dX2_tenthsMissing_1 : decode cX2_tenthsMissing 1 = .ok (.iconst 0, 1) := by decide +kernel
theorem dX2_tenthsMissing_2 : decode cX2_tenthsMissing 2 = .ok (.bipush 7, 2) := by decide +kernel
theorem dX2_tenthsMissing_4 : decode cX2_tenthsMissing 4 = .ok (.invokestatic 31, 3) := by decide +kernel
theorem dX2_tenthsMissing_7 : decode cX2_tenthsMissing 7 = .ok (.ifCond .eq 22, 3) := by decide +kernel
theorem dX2_tenthsMissing_10 : decode cX2_tenthsMissing 10 = .ok (.iload_n 2, 1) := by decide +kernel
theorem dX2_tenthsMissing_11 : decode cX2_tenthsMissing 11 = .ok (.aload_n 0, 1) := by decide +kernel
theorem dX2_tenthsMissing_12 : decode cX2_tenthsMissing 12 = .ok (.getfield 11, 3) := by decide +kernel
theorem dX2_tenthsMissing_15 : decode cX2_tenthsMissing 15 = .ok (.iload_n 1, 1) := by decide +kernel
theorem dX2_tenthsMissing_16 : decode cX2_tenthsMissing 16 = .ok (.iaload, 1) := by decide +kernel
theorem dX2_tenthsMissing_17 : decode cX2_tenthsMissing 17 = .ok (.aload_n 0, 1) := by decide +kernel
theorem dX2_tenthsMissing_18 : decode cX2_tenthsMissing 18 = .ok (.getfield 15, 3) := by decide +kernel
theorem dX2_tenthsMissing_21 : decode cX2_tenthsMissing 21 = .ok (.iload_n 1, 1) := by decide +kernel
theorem dX2_tenthsMissing_22 : decode cX2_tenthsMissing 22 = .ok (.iaload, 1) := by decide +kernel
theorem dX2_tenthsMissing_23 : decode cX2_tenthsMissing 23 = .ok (.invokestatic 31, 3) := by decide +kernel
theorem dX2_tenthsMissing_26 : decode cX2_tenthsMissing 26 = .ok (.ifCond .ne 6, 3) := by decide +kernel
theorem dX2_tenthsMissing_29 : decode cX2_tenthsMissing 29 = .ok (.bipush 10, 2) := by decide +kernel
theorem dX2_tenthsMissing_31 : decode cX2_tenthsMissing 31 = .ok (.ireturn, 1) := by decide +kernel
theorem dX2_tenthsMissing_32 : decode cX2_tenthsMissing 32 = .ok (.bipush 10, 2) := by decide +kernel
theorem dX2_tenthsMissing_34 : decode cX2_tenthsMissing 34 = .ok (.aload_n 0, 1) := by decide +kernel
theorem dX2_tenthsMissing_35 : decode cX2_tenthsMissing 35 = .ok (.getfield 18, 3) := by decide +kernel
theorem dX2_tenthsMissing_38 : decode cX2_tenthsMissing 38 = .ok (.iload_n 1, 1) := by decide +kernel
theorem dX2_tenthsMissing_39 : decode cX2_tenthsMissing 39 = .ok (.iaload, 1) := by decide +kernel
theorem dX2_tenthsMissing_40 : decode cX2_tenthsMissing 40 = .ok (.isub, 1) := by decide +kernel
theorem dX2_tenthsMissing_41 : decode cX2_tenthsMissing 41 = .ok (.ireturn, 1) := by decide +kernel
theorem dX2_weight_0 : decode cX2_weight 0 = .ok (.iload_n 1, 1) := by decide +kernel
theorem dX2_weight_1 : decode cX2_weight 1 = .ok (.iconst 0, 1) := by decide +kernel
theorem dX2_weight_2 : decode cX2_weight 2 = .ok (.sipush 255, 3) := by decide +kernel
theorem dX2_weight_5 : decode cX2_weight 5 = .ok (.invokestatic 31, 3) := by decide +kernel
theorem dX2_weight_8 : decode cX2_weight 8 = .ok (.ifCond .eq 12, 3) := by decide +kernel
theorem dX2_weight_11 : decode cX2_weight 11 = .ok (.aload_n 0, 1) := by decide +kernel
theorem dX2_weight_12 : decode cX2_weight 12 = .ok (.getfield 28, 3) := by decide +kernel
theorem dX2_weight_15 : decode cX2_weight 15 = .ok (.iload_n 1, 1) := by decide +kernel
theorem dX2_weight_16 : decode cX2_weight 16 = .ok (.laload, 1) := by decide +kernel
theorem dX2_weight_17 : decode cX2_weight 17 = .ok (.goto 4, 3) := by decide +kernel
theorem dX2_weight_20 : decode cX2_weight 20 = .ok (.lconst 0, 1) := by decide +kernel
theorem dX2_weight_21 : decode cX2_weight 21 = .ok (.lreturn, 1) := by decide +kernel
theorem dX2_riskOf_0 : decode cX2_riskOf 0 = .ok (.iconst 0, 1) := by decide +kernel
theorem dX2_riskOf_1 : decode cX2_riskOf 1 = .ok (.istore_n 2, 1) := by decide +kernel
theorem dX2_riskOf_2 : decode cX2_riskOf 2 = .ok (.iconst 0, 1) := by decide +kernel
theorem dX2_riskOf_3 : decode cX2_riskOf 3 = .ok (.istore_n 3, 1) := by decide +kernel
theorem dX2_riskOf_4 : decode cX2_riskOf 4 = .ok (.iload_n 3, 1) := by decide +kernel
theorem dX2_riskOf_5 : decode cX2_riskOf 5 = .ok (.bipush 8, 2) := by decide +kernel
theorem dX2_riskOf_7 : decode cX2_riskOf 7 = .ok (.if_icmp .ge 27, 3) := by decide +kernel
theorem dX2_riskOf_10 : decode cX2_riskOf 10 = .ok (.iload_n 1, 1) := by decide +kernel
theorem dX2_riskOf_11 : decode cX2_riskOf 11 = .ok (.iload_n 3, 1) := by decide +kernel
theorem dX2_riskOf_12 : decode cX2_riskOf 12 = .ok (.ishr, 1) := by decide +kernel
theorem dX2_riskOf_13 : decode cX2_riskOf 13 = .ok (.iconst 1, 1) := by decide +kernel
theorem dX2_riskOf_14 : decode cX2_riskOf 14 = .ok (.iand, 1) := by decide +kernel
theorem dX2_riskOf_15 : decode cX2_riskOf 15 = .ok (.iconst 1, 1) := by decide +kernel
theorem dX2_riskOf_16 : decode cX2_riskOf 16 = .ok (.if_icmp .ne 12, 3) := by decide +kernel
theorem dX2_riskOf_19 : decode cX2_riskOf 19 = .ok (.iload_n 2, 1) := by decide +kernel
theorem dX2_riskOf_20 : decode cX2_riskOf 20 = .ok (.aload_n 0, 1) := by decide +kernel
theorem dX2_riskOf_21 : decode cX2_riskOf 21 = .ok (.getfield 21, 3) := by decide +kernel
theorem dX2_riskOf_24 : decode cX2_riskOf 24 = .ok (.iload_n 3, 1) := by decide +kernel
theorem dX2_riskOf_25 : decode cX2_riskOf 25 = .ok (.iaload, 1) := by decide +kernel
theorem dX2_riskOf_26 : decode cX2_riskOf 26 = .ok (.iadd, 1) := by decide +kernel
theorem dX2_riskOf_27 : decode cX2_riskOf 27 = .ok (.istore_n 2, 1) := by decide +kernel
theorem dX2_riskOf_28 : decode cX2_riskOf 28 = .ok (.iinc 3 1, 3) := by decide +kernel
theorem dX2_riskOf_31 : decode cX2_riskOf 31 = .ok (.goto (-27), 3) := by decide +kernel
theorem dX2_riskOf_34 : decode cX2_riskOf 34 = .ok (.iload_n 2, 1) := by decide +kernel
theorem dX2_riskOf_35 : decode cX2_riskOf 35 = .ok (.ireturn, 1) := by decide +kernel
theorem dX2_choose_0 : decode cX2_choose 0 = .ok (.iconst 0, 1) := by decide +kernel
theorem dX2_choose_1 : decode cX2_choose 1 = .ok (.istore_n 2, 1) := by decide +kernel
theorem dX2_choose_2 : decode cX2_choose 2 = .ok (.iconst 0, 1) := by decide +kernel
theorem dX2_choose_3 : decode cX2_choose 3 = .ok (.istore_n 3, 1) := by decide +kernel
theorem dX2_choose_4 : decode cX2_choose 4 = .ok (.iconst 1, 1) := by decide +kernel
theorem dX2_choose_5 : decode cX2_choose 5 = .ok (.istore 4, 2) := by decide +kernel
theorem dX2_choose_7 : decode cX2_choose 7 = .ok (.iload 4, 2) := by decide +kernel
theorem dX2_choose_9 : decode cX2_choose 9 = .ok (.sipush 256, 3) := by decide +kernel
theorem dX2_choose_12 : decode cX2_choose 12 = .ok (.if_icmp .ge 68, 3) := by decide +kernel
theorem dX2_choose_15 : decode cX2_choose 15 = .ok (.aload_n 0, 1) := by decide +kernel
theorem dX2_choose_16 : decode cX2_choose 16 = .ok (.iload 4, 2) := by decide +kernel
theorem dX2_choose_18 : decode cX2_choose 18 = .ok (.invokevirtual 63, 3) := by decide +kernel
theorem dX2_choose_21 : decode cX2_choose 21 = .ok (.istore 5, 2) := by decide +kernel
theorem dX2_choose_23 : decode cX2_choose 23 = .ok (.iload 5, 2) := by decide +kernel
theorem dX2_choose_25 : decode cX2_choose 25 = .ok (.iload_n 1, 1) := by decide +kernel
theorem dX2_choose_26 : decode cX2_choose 26 = .ok (.if_icmp .le 6, 3) := by decide +kernel
theorem dX2_choose_29 : decode cX2_choose 29 = .ok (.goto 45, 3) := by decide +kernel
theorem dX2_choose_32 : decode cX2_choose 32 = .ok (.aload_n 0, 1) := by decide +kernel
theorem dX2_choose_33 : decode cX2_choose 33 = .ok (.getfield 28, 3) := by decide +kernel
theorem dX2_choose_36 : decode cX2_choose 36 = .ok (.iload 4, 2) := by decide +kernel
theorem dX2_choose_38 : decode cX2_choose 38 = .ok (.laload, 1) := by decide +kernel
theorem dX2_choose_39 : decode cX2_choose 39 = .ok (.aload_n 0, 1) := by decide +kernel
theorem dX2_choose_40 : decode cX2_choose 40 = .ok (.getfield 28, 3) := by decide +kernel
theorem dX2_choose_43 : decode cX2_choose 43 = .ok (.iload_n 2, 1) := by decide +kernel
theorem dX2_choose_44 : decode cX2_choose 44 = .ok (.laload, 1) := by decide +kernel
theorem dX2_choose_45 : decode cX2_choose 45 = .ok (.lsub, 1) := by decide +kernel
theorem dX2_choose_46 : decode cX2_choose 46 = .ok (.lstore 6, 2) := by decide +kernel
theorem dX2_choose_48 : decode cX2_choose 48 = .ok (.lload 6, 2) := by decide +kernel
theorem dX2_choose_50 : decode cX2_choose 50 = .ok (.lconst 0, 1) := by decide +kernel
theorem dX2_choose_51 : decode cX2_choose 51 = .ok (.lcmp, 1) := by decide +kernel
theorem dX2_choose_52 : decode cX2_choose 52 = .ok (.ifCond .gt 16, 3) := by decide +kernel
theorem dX2_choose_55 : decode cX2_choose 55 = .ok (.lload 6, 2) := by decide +kernel
theorem dX2_choose_57 : decode cX2_choose 57 = .ok (.lconst 0, 1) := by decide +kernel
theorem dX2_choose_58 : decode cX2_choose 58 = .ok (.lcmp, 1) := by decide +kernel
theorem dX2_choose_59 : decode cX2_choose 59 = .ok (.ifCond .ne 15, 3) := by decide +kernel
theorem dX2_choose_62 : decode cX2_choose 62 = .ok (.iload 5, 2) := by decide +kernel
theorem dX2_choose_64 : decode cX2_choose 64 = .ok (.iload_n 3, 1) := by decide +kernel
theorem dX2_choose_65 : decode cX2_choose 65 = .ok (.if_icmp .ge 9, 3) := by decide +kernel
theorem dX2_choose_68 : decode cX2_choose 68 = .ok (.iload 4, 2) := by decide +kernel
theorem dX2_choose_70 : decode cX2_choose 70 = .ok (.istore_n 2, 1) := by decide +kernel
theorem dX2_choose_71 : decode cX2_choose 71 = .ok (.iload 5, 2) := by decide +kernel
theorem dX2_choose_73 : decode cX2_choose 73 = .ok (.istore_n 3, 1) := by decide +kernel
theorem dX2_choose_74 : decode cX2_choose 74 = .ok (.iinc 4 1, 3) := by decide +kernel
theorem dX2_choose_77 : decode cX2_choose 77 = .ok (.goto (-70), 3) := by decide +kernel
theorem dX2_choose_80 : decode cX2_choose 80 = .ok (.iload_n 2, 1) := by decide +kernel
theorem dX2_choose_81 : decode cX2_choose 81 = .ok (.ireturn, 1) := by decide +kernel
theorem dX3_init_0 : decode cX3_init 0 = .ok (.aload_n 0, 1) := by decide +kernel
theorem dX3_init_1 : decode cX3_init 1 = .ok (.invokespecial 3, 3) := by decide +kernel
theorem dX3_init_4 : decode cX3_init 4 = .ok (.aload_n 0, 1) := by decide +kernel
theorem dX3_init_5 : decode cX3_init 5 = .ok (.bipush 12, 2) := by decide +kernel
theorem dX3_init_7 : decode cX3_init 7 = .ok (.anewarray 9, 3) := by decide +kernel
theorem dX3_init_10 : decode cX3_init 10 = .ok (.putfield 11, 3) := by decide +kernel
theorem dX3_init_13 : decode cX3_init 13 = .ok (.return_, 1) := by decide +kernel
theorem dX3_size_0 : decode cX3_size 0 = .ok (.aload_n 0, 1) := by decide +kernel
theorem dX3_size_1 : decode cX3_size 1 = .ok (.getfield 17, 3) := by decide +kernel
theorem dX3_size_4 : decode cX3_size 4 = .ok (.ireturn, 1) := by decide +kernel
theorem dX3_isFull_0 : decode cX3_isFull 0 = .ok (.aload_n 0, 1) := by decide +kernel
theorem dX3_isFull_1 : decode cX3_isFull 1 = .ok (.getfield 17, 3) := by decide +kernel
theorem dX3_isFull_4 : decode cX3_isFull 4 = .ok (.bipush 12, 2) := by decide +kernel
theorem dX3_isFull_6 : decode cX3_isFull 6 = .ok (.if_icmp .lt 7, 3) := by decide +kernel
theorem dX3_isFull_9 : decode cX3_isFull 9 = .ok (.iconst 1, 1) := by decide +kernel
theorem dX3_isFull_10 : decode cX3_isFull 10 = .ok (.goto 4, 3) := by decide +kernel
theorem dX3_isFull_13 : decode cX3_isFull 13 = .ok (.iconst 0, 1) := by decide +kernel
theorem dX3_isFull_14 : decode cX3_isFull 14 = .ok (.ireturn, 1) := by decide +kernel
theorem dX3_add_0 : decode cX3_add 0 = .ok (.aload_n 0, 1) := by decide +kernel
theorem dX3_add_1 : decode cX3_add 1 = .ok (.invokevirtual 21, 3) := by decide +kernel
theorem dX3_add_4 : decode cX3_add 4 = .ok (.ifCond .eq 6, 3) := by decide +kernel
theorem dX3_add_7 : decode cX3_add 7 = .ok (.bipush (-4), 2) := by decide +kernel
theorem dX3_add_9 : decode cX3_add 9 = .ok (.ireturn, 1) := by decide +kernel
theorem dX3_add_10 : decode cX3_add 10 = .ok (.aload_n 0, 1) := by decide +kernel
theorem dX3_add_11 : decode cX3_add 11 = .ok (.getfield 11, 3) := by decide +kernel
theorem dX3_add_14 : decode cX3_add 14 = .ok (.aload_n 0, 1) := by decide +kernel
theorem dX3_add_15 : decode cX3_add 15 = .ok (.getfield 17, 3) := by decide +kernel
theorem dX3_add_18 : decode cX3_add 18 = .ok (.new 9, 3) := by decide +kernel
theorem dX3_add_21 : decode cX3_add 21 = .ok (.dup, 1) := by decide +kernel
theorem dX3_add_22 : decode cX3_add 22 = .ok (.aload_n 0, 1) := by decide +kernel
theorem dX3_add_23 : decode cX3_add 23 = .ok (.getfield 17, 3) := by decide +kernel
theorem dX3_add_26 : decode cX3_add 26 = .ok (.aload_n 1, 1) := by decide +kernel
theorem dX3_add_27 : decode cX3_add 27 = .ok (.invokespecial 25, 3) := by decide +kernel
theorem dX3_add_30 : decode cX3_add 30 = .ok (.aastore, 1) := by decide +kernel
theorem dX3_add_31 : decode cX3_add 31 = .ok (.aload_n 0, 1) := by decide +kernel
theorem dX3_add_32 : decode cX3_add 32 = .ok (.dup, 1) := by decide +kernel
theorem dX3_add_33 : decode cX3_add 33 = .ok (.getfield 17, 3) := by decide +kernel
theorem dX3_add_36 : decode cX3_add 36 = .ok (.iconst 1, 1) := by decide +kernel
theorem dX3_add_37 : decode cX3_add 37 = .ok (.iadd, 1) := by decide +kernel
theorem dX3_add_38 : decode cX3_add 38 = .ok (.putfield 17, 3) := by decide +kernel
theorem dX3_add_41 : decode cX3_add 41 = .ok (.aload_n 0, 1) := by decide +kernel
theorem dX3_add_42 : decode cX3_add 42 = .ok (.getfield 17, 3) := by decide +kernel
theorem dX3_add_45 : decode cX3_add 45 = .ok (.iconst 1, 1) := by decide +kernel
theorem dX3_add_46 : decode cX3_add 46 = .ok (.isub, 1) := by decide +kernel
theorem dX3_add_47 : decode cX3_add 47 = .ok (.ireturn, 1) := by decide +kernel
theorem dX3_find_0 : decode cX3_find 0 = .ok (.iload_n 1, 1) := by decide +kernel
theorem dX3_find_1 : decode cX3_find 1 = .ok (.iconst 0, 1) := by decide +kernel
theorem dX3_find_2 : decode cX3_find 2 = .ok (.bipush 11, 2) := by decide +kernel
theorem dX3_find_4 : decode cX3_find 4 = .ok (.invokestatic 28, 3) := by decide +kernel
theorem dX3_find_7 : decode cX3_find 7 = .ok (.ifCond .eq 12, 3) := by decide +kernel
theorem dX3_find_10 : decode cX3_find 10 = .ok (.aload_n 0, 1) := by decide +kernel
theorem dX3_find_11 : decode cX3_find 11 = .ok (.getfield 11, 3) := by decide +kernel
theorem dX3_find_14 : decode cX3_find 14 = .ok (.iload_n 1, 1) := by decide +kernel
theorem dX3_find_15 : decode cX3_find 15 = .ok (.aaload, 1) := by decide +kernel
theorem dX3_find_16 : decode cX3_find 16 = .ok (.goto 4, 3) := by decide +kernel
theorem dX3_find_19 : decode cX3_find 19 = .ok (.aconst_null, 1) := by decide +kernel
theorem dX3_find_20 : decode cX3_find 20 = .ok (.areturn, 1) := by decide +kernel
theorem dX3_counting_0 : decode cX3_counting 0 = .ok (.aconst_null, 1) := by decide +kernel
theorem dX3_counting_1 : decode cX3_counting 1 = .ok (.astore_n 3, 1) := by decide +kernel
theorem dX3_counting_2 : decode cX3_counting 2 = .ok (.iconst 0, 1) := by decide +kernel
theorem dX3_counting_3 : decode cX3_counting 3 = .ok (.istore 4, 2) := by decide +kernel
theorem dX3_counting_5 : decode cX3_counting 5 = .ok (.iload 4, 2) := by decide +kernel
theorem dX3_counting_7 : decode cX3_counting 7 = .ok (.aload_n 0, 1) := by decide +kernel
theorem dX3_counting_8 : decode cX3_counting 8 = .ok (.getfield 17, 3) := by decide +kernel
theorem dX3_counting_11 : decode cX3_counting 11 = .ok (.if_icmp .ge 59, 3) := by decide +kernel
theorem dX3_counting_14 : decode cX3_counting 14 = .ok (.aload_n 0, 1) := by decide +kernel
theorem dX3_counting_15 : decode cX3_counting 15 = .ok (.iload 4, 2) := by decide +kernel
theorem dX3_counting_17 : decode cX3_counting 17 = .ok (.invokevirtual 32, 3) := by decide +kernel
theorem dX3_counting_20 : decode cX3_counting 20 = .ok (.astore 5, 2) := by decide +kernel
theorem dX3_counting_22 : decode cX3_counting 22 = .ok (.aload 5, 2) := by decide +kernel
theorem dX3_counting_24 : decode cX3_counting 24 = .ok (.ifnull 40, 3) := by decide +kernel
theorem dX3_counting_27 : decode cX3_counting 27 = .ok (.aload 5, 2) := by decide +kernel
theorem dX3_counting_29 : decode cX3_counting 29 = .ok (.iload_n 2, 1) := by decide +kernel
theorem dX3_counting_30 : decode cX3_counting 30 = .ok (.invokevirtual 36, 3) := by decide +kernel
theorem dX3_counting_33 : decode cX3_counting 33 = .ok (.ifCond .eq 31, 3) := by decide +kernel
theorem dX3_counting_36 : decode cX3_counting 36 = .ok (.aload 5, 2) := by decide +kernel
theorem dX3_counting_38 : decode cX3_counting 38 = .ok (.iload_n 1, 1) := by decide +kernel
theorem dX3_counting_39 : decode cX3_counting 39 = .ok (.bipush 12, 2) := by decide +kernel
theorem dX3_counting_41 : decode cX3_counting 41 = .ok (.irem, 1) := by decide +kernel
theorem dX3_counting_42 : decode cX3_counting 42 = .ok (.iload_n 1, 1) := by decide +kernel
theorem dX3_counting_43 : decode cX3_counting 43 = .ok (.bipush 12, 2) := by decide +kernel
theorem dX3_counting_45 : decode cX3_counting 45 = .ok (.idiv, 1) := by decide +kernel
theorem dX3_counting_46 : decode cX3_counting 46 = .ok (.invokevirtual 40, 3) := by decide +kernel
theorem dX3_counting_49 : decode cX3_counting 49 = .ok (.ifCond .eq 15, 3) := by decide +kernel
theorem dX3_counting_52 : decode cX3_counting 52 = .ok (.aload 5, 2) := by decide +kernel
theorem dX3_counting_54 : decode cX3_counting 54 = .ok (.aload_n 3, 1) := by decide +kernel
theorem dX3_counting_55 : decode cX3_counting 55 = .ok (.invokevirtual 44, 3) := by decide +kernel
theorem dX3_counting_58 : decode cX3_counting 58 = .ok (.ifCond .eq 6, 3) := by decide +kernel
theorem dX3_counting_61 : decode cX3_counting 61 = .ok (.aload 5, 2) := by decide +kernel
theorem dX3_counting_63 : decode cX3_counting 63 = .ok (.astore_n 3, 1) := by decide +kernel
theorem dX3_counting_64 : decode cX3_counting 64 = .ok (.iinc 4 1, 3) := by decide +kernel
theorem dX3_counting_67 : decode cX3_counting 67 = .ok (.goto (-62), 3) := by decide +kernel
theorem dX3_counting_70 : decode cX3_counting 70 = .ok (.aload_n 3, 1) := by decide +kernel
theorem dX3_counting_71 : decode cX3_counting 71 = .ok (.ifnonnull 8, 3) := by decide +kernel
theorem dX3_counting_74 : decode cX3_counting 74 = .ok (.bipush (-6), 2) := by decide +kernel
theorem dX3_counting_76 : decode cX3_counting 76 = .ok (.goto 7, 3) := by decide +kernel
theorem dX3_counting_79 : decode cX3_counting 79 = .ok (.aload_n 3, 1) := by decide +kernel
theorem dX3_counting_80 : decode cX3_counting 80 = .ok (.invokevirtual 48, 3) := by decide +kernel
theorem dX3_counting_83 : decode cX3_counting 83 = .ok (.ireturn, 1) := by decide +kernel
theorem dX3_fillCounting_0 : decode cX3_fillCounting 0 = .ok (.iconst 0, 1) := by decide +kernel
theorem dX3_fillCounting_1 : decode cX3_fillCounting 1 = .ok (.istore_n 3, 1) := by decide +kernel
theorem dX3_fillCounting_2 : decode cX3_fillCounting 2 = .ok (.iload_n 3, 1) := by decide +kernel
theorem dX3_fillCounting_3 : decode cX3_fillCounting 3 = .ok (.aload_n 1, 1) := by decide +kernel
theorem dX3_fillCounting_4 : decode cX3_fillCounting 4 = .ok (.arraylength, 1) := by decide +kernel
theorem dX3_fillCounting_5 : decode cX3_fillCounting 5 = .ok (.if_icmp .ge 14, 3) := by decide +kernel
theorem dX3_fillCounting_8 : decode cX3_fillCounting 8 = .ok (.aload_n 1, 1) := by decide +kernel
theorem dX3_fillCounting_9 : decode cX3_fillCounting 9 = .ok (.iload_n 3, 1) := by decide +kernel
theorem dX3_fillCounting_10 : decode cX3_fillCounting 10 = .ok (.bipush (-6), 2) := by decide +kernel
theorem dX3_fillCounting_12 : decode cX3_fillCounting 12 = .ok (.iastore, 1) := by decide +kernel
theorem dX3_fillCounting_13 : decode cX3_fillCounting 13 = .ok (.iinc 3 1, 3) := by decide +kernel
theorem dX3_fillCounting_16 : decode cX3_fillCounting 16 = .ok (.goto (-14), 3) := by decide +kernel
theorem dX3_fillCounting_19 : decode cX3_fillCounting 19 = .ok (.iconst 0, 1) := by decide +kernel
theorem dX3_fillCounting_20 : decode cX3_fillCounting 20 = .ok (.istore_n 3, 1) := by decide +kernel
theorem dX3_fillCounting_21 : decode cX3_fillCounting 21 = .ok (.iload_n 3, 1) := by decide +kernel
theorem dX3_fillCounting_22 : decode cX3_fillCounting 22 = .ok (.aload_n 0, 1) := by decide +kernel
theorem dX3_fillCounting_23 : decode cX3_fillCounting 23 = .ok (.getfield 17, 3) := by decide +kernel
theorem dX3_fillCounting_26 : decode cX3_fillCounting 26 = .ok (.if_icmp .ge 37, 3) := by decide +kernel
theorem dX3_fillCounting_29 : decode cX3_fillCounting 29 = .ok (.aload_n 0, 1) := by decide +kernel
theorem dX3_fillCounting_30 : decode cX3_fillCounting 30 = .ok (.iload_n 3, 1) := by decide +kernel
theorem dX3_fillCounting_31 : decode cX3_fillCounting 31 = .ok (.invokevirtual 32, 3) := by decide +kernel
theorem dX3_fillCounting_34 : decode cX3_fillCounting 34 = .ok (.astore 4, 2) := by decide +kernel
theorem dX3_fillCounting_36 : decode cX3_fillCounting 36 = .ok (.aload 4, 2) := by decide +kernel
theorem dX3_fillCounting_38 : decode cX3_fillCounting 38 = .ok (.ifnull 19, 3) := by decide +kernel
theorem dX3_fillCounting_41 : decode cX3_fillCounting 41 = .ok (.aload 4, 2) := by decide +kernel
theorem dX3_fillCounting_43 : decode cX3_fillCounting 43 = .ok (.iload_n 2, 1) := by decide +kernel
theorem dX3_fillCounting_44 : decode cX3_fillCounting 44 = .ok (.invokevirtual 36, 3) := by decide +kernel
theorem dX3_fillCounting_47 : decode cX3_fillCounting 47 = .ok (.ifCond .eq 10, 3) := by decide +kernel
theorem dX3_fillCounting_50 : decode cX3_fillCounting 50 = .ok (.aload_n 0, 1) := by decide +kernel
theorem dX3_fillCounting_51 : decode cX3_fillCounting 51 = .ok (.aload 4, 2) := by decide +kernel
theorem dX3_fillCounting_53 : decode cX3_fillCounting 53 = .ok (.aload_n 1, 1) := by decide +kernel
theorem dX3_fillCounting_54 : decode cX3_fillCounting 54 = .ok (.invokevirtual 52, 3) := by decide +kernel
theorem dX3_fillCounting_57 : decode cX3_fillCounting 57 = .ok (.iinc 3 1, 3) := by decide +kernel
theorem dX3_fillCounting_60 : decode cX3_fillCounting 60 = .ok (.goto (-39), 3) := by decide +kernel
theorem dX3_fillCounting_63 : decode cX3_fillCounting 63 = .ok (.return_, 1) := by decide +kernel
theorem dX3_lay_0 : decode cX3_lay 0 = .ok (.aload_n 1, 1) := by decide +kernel
theorem dX3_lay_1 : decode cX3_lay 1 = .ok (.iconst 2, 1) := by decide +kernel
theorem dX3_lay_2 : decode cX3_lay 2 = .ok (.invokevirtual 56, 3) := by decide +kernel
theorem dX3_lay_5 : decode cX3_lay 5 = .ok (.istore_n 3, 1) := by decide +kernel
theorem dX3_lay_6 : decode cX3_lay 6 = .ok (.iload_n 3, 1) := by decide +kernel
theorem dX3_lay_7 : decode cX3_lay 7 = .ok (.aload_n 1, 1) := by decide +kernel
theorem dX3_lay_8 : decode cX3_lay 8 = .ok (.iconst 3, 1) := by decide +kernel
theorem dX3_lay_9 : decode cX3_lay 9 = .ok (.invokevirtual 56, 3) := by decide +kernel
theorem dX3_lay_12 : decode cX3_lay 12 = .ok (.imul, 1) := by decide +kernel
theorem dX3_lay_13 : decode cX3_lay 13 = .ok (.istore 4, 2) := by decide +kernel
theorem dX3_lay_15 : decode cX3_lay 15 = .ok (.iload_n 3, 1) := by decide +kernel
theorem dX3_lay_16 : decode cX3_lay 16 = .ok (.iconst 1, 1) := by decide +kernel
theorem dX3_lay_17 : decode cX3_lay 17 = .ok (.if_icmp .ge 4, 3) := by decide +kernel
theorem dX3_lay_20 : decode cX3_lay 20 = .ok (.return_, 1) := by decide +kernel
theorem dX3_lay_21 : decode cX3_lay 21 = .ok (.iconst 0, 1) := by decide +kernel
theorem dX3_lay_22 : decode cX3_lay 22 = .ok (.istore 5, 2) := by decide +kernel
theorem dX3_lay_24 : decode cX3_lay 24 = .ok (.iload 5, 2) := by decide +kernel
theorem dX3_lay_26 : decode cX3_lay 26 = .ok (.iload 4, 2) := by decide +kernel
theorem dX3_lay_28 : decode cX3_lay 28 = .ok (.if_icmp .ge 69, 3) := by decide +kernel
theorem dX3_lay_31 : decode cX3_lay 31 = .ok (.aload_n 1, 1) := by decide +kernel
theorem dX3_lay_32 : decode cX3_lay 32 = .ok (.iconst 0, 1) := by decide +kernel
theorem dX3_lay_33 : decode cX3_lay 33 = .ok (.invokevirtual 56, 3) := by decide +kernel
theorem dX3_lay_36 : decode cX3_lay 36 = .ok (.iload 5, 2) := by decide +kernel
theorem dX3_lay_38 : decode cX3_lay 38 = .ok (.iload_n 3, 1) := by decide +kernel
theorem dX3_lay_39 : decode cX3_lay 39 = .ok (.irem, 1) := by decide +kernel
theorem dX3_lay_40 : decode cX3_lay 40 = .ok (.iadd, 1) := by decide +kernel
theorem dX3_lay_41 : decode cX3_lay 41 = .ok (.aload_n 1, 1) := by decide +kernel
theorem dX3_lay_42 : decode cX3_lay 42 = .ok (.iconst 1, 1) := by decide +kernel
theorem dX3_lay_43 : decode cX3_lay 43 = .ok (.invokevirtual 56, 3) := by decide +kernel
theorem dX3_lay_46 : decode cX3_lay 46 = .ok (.iload 5, 2) := by decide +kernel
theorem dX3_lay_48 : decode cX3_lay 48 = .ok (.iload_n 3, 1) := by decide +kernel
theorem dX3_lay_49 : decode cX3_lay 49 = .ok (.idiv, 1) := by decide +kernel
theorem dX3_lay_50 : decode cX3_lay 50 = .ok (.iadd, 1) := by decide +kernel
theorem dX3_lay_51 : decode cX3_lay 51 = .ok (.invokestatic 60, 3) := by decide +kernel
theorem dX3_lay_54 : decode cX3_lay 54 = .ok (.istore 6, 2) := by decide +kernel
theorem dX3_lay_56 : decode cX3_lay 56 = .ok (.iload 6, 2) := by decide +kernel
theorem dX3_lay_58 : decode cX3_lay 58 = .ok (.ifCond .lt 33, 3) := by decide +kernel
theorem dX3_lay_61 : decode cX3_lay 61 = .ok (.iload 6, 2) := by decide +kernel
theorem dX3_lay_63 : decode cX3_lay 63 = .ok (.aload_n 2, 1) := by decide +kernel
theorem dX3_lay_64 : decode cX3_lay 64 = .ok (.arraylength, 1) := by decide +kernel
theorem dX3_lay_65 : decode cX3_lay 65 = .ok (.if_icmp .ge 26, 3) := by decide +kernel
theorem dX3_lay_68 : decode cX3_lay 68 = .ok (.aload_n 1, 1) := by decide +kernel
theorem dX3_lay_69 : decode cX3_lay 69 = .ok (.aload_n 0, 1) := by decide +kernel
theorem dX3_lay_70 : decode cX3_lay 70 = .ok (.aload_n 2, 1) := by decide +kernel
theorem dX3_lay_71 : decode cX3_lay 71 = .ok (.iload 6, 2) := by decide +kernel
theorem dX3_lay_73 : decode cX3_lay 73 = .ok (.iaload, 1) := by decide +kernel
theorem dX3_lay_74 : decode cX3_lay 74 = .ok (.invokevirtual 32, 3) := by decide +kernel
theorem dX3_lay_77 : decode cX3_lay 77 = .ok (.invokevirtual 44, 3) := by decide +kernel
theorem dX3_lay_80 : decode cX3_lay 80 = .ok (.ifCond .eq 11, 3) := by decide +kernel
theorem dX3_lay_83 : decode cX3_lay 83 = .ok (.aload_n 2, 1) := by decide +kernel
theorem dX3_lay_84 : decode cX3_lay 84 = .ok (.iload 6, 2) := by decide +kernel
theorem dX3_lay_86 : decode cX3_lay 86 = .ok (.aload_n 1, 1) := by decide +kernel
theorem dX3_lay_87 : decode cX3_lay 87 = .ok (.invokevirtual 48, 3) := by decide +kernel
theorem dX3_lay_90 : decode cX3_lay 90 = .ok (.iastore, 1) := by decide +kernel
theorem dX3_lay_91 : decode cX3_lay 91 = .ok (.iinc 5 1, 3) := by decide +kernel
theorem dX3_lay_94 : decode cX3_lay 94 = .ok (.goto (-70), 3) := by decide +kernel
theorem dX3_lay_97 : decode cX3_lay 97 = .ok (.return_, 1) := by decide +kernel
theorem dX4_init_0 : decode cX4_init 0 = .ok (.aload_n 0, 1) := by decide +kernel
theorem dX4_init_1 : decode cX4_init 1 = .ok (.invokespecial 3, 3) := by decide +kernel
theorem dX4_init_4 : decode cX4_init 4 = .ok (.aload_n 0, 1) := by decide +kernel
theorem dX4_init_5 : decode cX4_init 5 = .ok (.bipush 96, 2) := by decide +kernel
theorem dX4_init_7 : decode cX4_init 7 = .ok (.newarray .int, 2) := by decide +kernel
theorem dX4_init_9 : decode cX4_init 9 = .ok (.putfield 9, 3) := by decide +kernel
theorem dX4_init_12 : decode cX4_init 12 = .ok (.return_, 1) := by decide +kernel
theorem dX4_cell_0 : decode cX4_cell 0 = .ok (.aload_n 0, 1) := by decide +kernel
theorem dX4_cell_1 : decode cX4_cell 1 = .ok (.getfield 15, 3) := by decide +kernel
theorem dX4_cell_4 : decode cX4_cell 4 = .ok (.ireturn, 1) := by decide +kernel
theorem dX4_most_0 : decode cX4_most 0 = .ok (.aload_n 0, 1) := by decide +kernel
theorem dX4_most_1 : decode cX4_most 1 = .ok (.getfield 19, 3) := by decide +kernel
theorem dX4_most_4 : decode cX4_most 4 = .ok (.ireturn, 1) := by decide +kernel
theorem dX4_draw_0 : decode cX4_draw 0 = .ok (.iconst 0, 1) := by decide +kernel
theorem dX4_draw_1 : decode cX4_draw 1 = .ok (.istore_n 3, 1) := by decide +kernel
theorem dX4_draw_2 : decode cX4_draw 2 = .ok (.iload_n 3, 1) := by decide +kernel
theorem dX4_draw_3 : decode cX4_draw 3 = .ok (.bipush 96, 2) := by decide +kernel
theorem dX4_draw_5 : decode cX4_draw 5 = .ok (.if_icmp .ge 16, 3) := by decide +kernel
theorem dX4_draw_8 : decode cX4_draw 8 = .ok (.aload_n 0, 1) := by decide +kernel
theorem dX4_draw_9 : decode cX4_draw 9 = .ok (.getfield 9, 3) := by decide +kernel
theorem dX4_draw_12 : decode cX4_draw 12 = .ok (.iload_n 3, 1) := by decide +kernel
theorem dX4_draw_13 : decode cX4_draw 13 = .ok (.iconst 0, 1) := by decide +kernel
theorem dX4_draw_14 : decode cX4_draw 14 = .ok (.iastore, 1) := by decide +kernel
theorem dX4_draw_15 : decode cX4_draw 15 = .ok (.iinc 3 1, 3) := by decide +kernel
theorem dX4_draw_18 : decode cX4_draw 18 = .ok (.goto (-16), 3) := by decide +kernel
theorem dX4_draw_21 : decode cX4_draw 21 = .ok (.iconst 0, 1) := by decide +kernel
theorem dX4_draw_22 : decode cX4_draw 22 = .ok (.istore_n 3, 1) := by decide +kernel
theorem dX4_draw_23 : decode cX4_draw 23 = .ok (.iload_n 3, 1) := by decide +kernel
theorem dX4_draw_24 : decode cX4_draw 24 = .ok (.aload_n 1, 1) := by decide +kernel
theorem dX4_draw_25 : decode cX4_draw 25 = .ok (.invokevirtual 22, 3) := by decide +kernel
theorem dX4_draw_28 : decode cX4_draw 28 = .ok (.if_icmp .ge 36, 3) := by decide +kernel
theorem dX4_draw_31 : decode cX4_draw 31 = .ok (.aload_n 1, 1) := by decide +kernel
theorem dX4_draw_32 : decode cX4_draw 32 = .ok (.iload_n 3, 1) := by decide +kernel
theorem dX4_draw_33 : decode cX4_draw 33 = .ok (.invokevirtual 28, 3) := by decide +kernel
theorem dX4_draw_36 : decode cX4_draw 36 = .ok (.astore 4, 2) := by decide +kernel
theorem dX4_draw_38 : decode cX4_draw 38 = .ok (.aload 4, 2) := by decide +kernel
theorem dX4_draw_40 : decode cX4_draw 40 = .ok (.ifnull 18, 3) := by decide +kernel
theorem dX4_draw_43 : decode cX4_draw 43 = .ok (.aload 4, 2) := by decide +kernel
theorem dX4_draw_45 : decode cX4_draw 45 = .ok (.iload_n 2, 1) := by decide +kernel
theorem dX4_draw_46 : decode cX4_draw 46 = .ok (.invokevirtual 32, 3) := by decide +kernel
theorem dX4_draw_49 : decode cX4_draw 49 = .ok (.ifCond .eq 9, 3) := by decide +kernel
theorem dX4_draw_52 : decode cX4_draw 52 = .ok (.aload_n 0, 1) := by decide +kernel
theorem dX4_draw_53 : decode cX4_draw 53 = .ok (.aload 4, 2) := by decide +kernel
theorem dX4_draw_55 : decode cX4_draw 55 = .ok (.invokevirtual 38, 3) := by decide +kernel
theorem dX4_draw_58 : decode cX4_draw 58 = .ok (.iinc 3 1, 3) := by decide +kernel
theorem dX4_draw_61 : decode cX4_draw 61 = .ok (.goto (-38), 3) := by decide +kernel
theorem dX4_draw_64 : decode cX4_draw 64 = .ok (.aload_n 0, 1) := by decide +kernel
theorem dX4_draw_65 : decode cX4_draw 65 = .ok (.bipush (-6), 2) := by decide +kernel
theorem dX4_draw_67 : decode cX4_draw 67 = .ok (.putfield 15, 3) := by decide +kernel
theorem dX4_draw_70 : decode cX4_draw 70 = .ok (.aload_n 0, 1) := by decide +kernel
theorem dX4_draw_71 : decode cX4_draw 71 = .ok (.iconst 0, 1) := by decide +kernel
theorem dX4_draw_72 : decode cX4_draw 72 = .ok (.putfield 19, 3) := by decide +kernel
theorem dX4_draw_75 : decode cX4_draw 75 = .ok (.iconst 0, 1) := by decide +kernel
theorem dX4_draw_76 : decode cX4_draw 76 = .ok (.istore_n 3, 1) := by decide +kernel
theorem dX4_draw_77 : decode cX4_draw 77 = .ok (.iload_n 3, 1) := by decide +kernel
theorem dX4_draw_78 : decode cX4_draw 78 = .ok (.bipush 96, 2) := by decide +kernel
theorem dX4_draw_80 : decode cX4_draw 80 = .ok (.if_icmp .ge 37, 3) := by decide +kernel
theorem dX4_draw_83 : decode cX4_draw 83 = .ok (.aload_n 0, 1) := by decide +kernel
theorem dX4_draw_84 : decode cX4_draw 84 = .ok (.getfield 9, 3) := by decide +kernel
theorem dX4_draw_87 : decode cX4_draw 87 = .ok (.iload_n 3, 1) := by decide +kernel
theorem dX4_draw_88 : decode cX4_draw 88 = .ok (.iaload, 1) := by decide +kernel
theorem dX4_draw_89 : decode cX4_draw 89 = .ok (.aload_n 0, 1) := by decide +kernel
theorem dX4_draw_90 : decode cX4_draw 90 = .ok (.getfield 19, 3) := by decide +kernel
theorem dX4_draw_93 : decode cX4_draw 93 = .ok (.if_icmp .le 18, 3) := by decide +kernel
theorem dX4_draw_96 : decode cX4_draw 96 = .ok (.aload_n 0, 1) := by decide +kernel
theorem dX4_draw_97 : decode cX4_draw 97 = .ok (.iload_n 3, 1) := by decide +kernel
theorem dX4_draw_98 : decode cX4_draw 98 = .ok (.putfield 15, 3) := by decide +kernel
theorem dX4_draw_101 : decode cX4_draw 101 = .ok (.aload_n 0, 1) := by decide +kernel
theorem dX4_draw_102 : decode cX4_draw 102 = .ok (.aload_n 0, 1) := by decide +kernel
theorem dX4_draw_103 : decode cX4_draw 103 = .ok (.getfield 9, 3) := by decide +kernel
theorem dX4_draw_106 : decode cX4_draw 106 = .ok (.iload_n 3, 1) := by decide +kernel
theorem dX4_draw_107 : decode cX4_draw 107 = .ok (.iaload, 1) := by decide +kernel
theorem dX4_draw_108 : decode cX4_draw 108 = .ok (.putfield 19, 3) := by decide +kernel
theorem dX4_draw_111 : decode cX4_draw 111 = .ok (.iinc 3 1, 3) := by decide +kernel
theorem dX4_draw_114 : decode cX4_draw 114 = .ok (.goto (-37), 3) := by decide +kernel
theorem dX4_draw_117 : decode cX4_draw 117 = .ok (.return_, 1) := by decide +kernel
theorem dX4_drawFrom_0 : decode cX4_drawFrom 0 = .ok (.aload_n 1, 1) := by decide +kernel
theorem dX4_drawFrom_1 : decode cX4_drawFrom 1 = .ok (.bipush 8, 2) := by decide +kernel
theorem dX4_drawFrom_3 : decode cX4_drawFrom 3 = .ok (.invokevirtual 42, 3) := by decide +kernel
theorem dX4_drawFrom_6 : decode cX4_drawFrom 6 = .ok (.istore_n 2, 1) := by decide +kernel
theorem dX4_drawFrom_7 : decode cX4_drawFrom 7 = .ok (.iload_n 2, 1) := by decide +kernel
theorem dX4_drawFrom_8 : decode cX4_drawFrom 8 = .ok (.iconst 0, 1) := by decide +kernel
theorem dX4_drawFrom_9 : decode cX4_drawFrom 9 = .ok (.bipush 7, 2) := by decide +kernel
theorem dX4_drawFrom_11 : decode cX4_drawFrom 11 = .ok (.invokestatic 46, 3) := by decide +kernel
theorem dX4_drawFrom_14 : decode cX4_drawFrom 14 = .ok (.ifCond .ne 4, 3) := by decide +kernel
theorem dX4_drawFrom_17 : decode cX4_drawFrom 17 = .ok (.return_, 1) := by decide +kernel
theorem dX4_drawFrom_18 : decode cX4_drawFrom 18 = .ok (.aload_n 1, 1) := by decide +kernel
theorem dX4_drawFrom_19 : decode cX4_drawFrom 19 = .ok (.iconst 0, 1) := by decide +kernel
theorem dX4_drawFrom_20 : decode cX4_drawFrom 20 = .ok (.invokevirtual 42, 3) := by decide +kernel
theorem dX4_drawFrom_23 : decode cX4_drawFrom 23 = .ok (.istore_n 3, 1) := by decide +kernel
theorem dX4_drawFrom_24 : decode cX4_drawFrom 24 = .ok (.aload_n 1, 1) := by decide +kernel
theorem dX4_drawFrom_25 : decode cX4_drawFrom 25 = .ok (.iconst 1, 1) := by decide +kernel
theorem dX4_drawFrom_26 : decode cX4_drawFrom 26 = .ok (.invokevirtual 42, 3) := by decide +kernel
theorem dX4_drawFrom_29 : decode cX4_drawFrom 29 = .ok (.istore 4, 2) := by decide +kernel
theorem dX4_drawFrom_31 : decode cX4_drawFrom 31 = .ok (.iconst 0, 1) := by decide +kernel
theorem dX4_drawFrom_32 : decode cX4_drawFrom 32 = .ok (.istore 5, 2) := by decide +kernel
theorem dX4_drawFrom_34 : decode cX4_drawFrom 34 = .ok (.iload 5, 2) := by decide +kernel
theorem dX4_drawFrom_36 : decode cX4_drawFrom 36 = .ok (.bipush 12, 2) := by decide +kernel
theorem dX4_drawFrom_38 : decode cX4_drawFrom 38 = .ok (.if_icmp .ge 61, 3) := by decide +kernel
theorem dX4_drawFrom_41 : decode cX4_drawFrom 41 = .ok (.iload_n 3, 1) := by decide +kernel
theorem dX4_drawFrom_42 : decode cX4_drawFrom 42 = .ok (.iload 4, 2) := by decide +kernel
theorem dX4_drawFrom_44 : decode cX4_drawFrom 44 = .ok (.invokestatic 50, 3) := by decide +kernel
theorem dX4_drawFrom_47 : decode cX4_drawFrom 47 = .ok (.ifCond .eq 52, 3) := by decide +kernel
theorem dX4_drawFrom_50 : decode cX4_drawFrom 50 = .ok (.aload_n 1, 1) := by decide +kernel
theorem dX4_drawFrom_51 : decode cX4_drawFrom 51 = .ok (.iload_n 3, 1) := by decide +kernel
theorem dX4_drawFrom_52 : decode cX4_drawFrom 52 = .ok (.iload 4, 2) := by decide +kernel
theorem dX4_drawFrom_54 : decode cX4_drawFrom 54 = .ok (.invokevirtual 54, 3) := by decide +kernel
theorem dX4_drawFrom_57 : decode cX4_drawFrom 57 = .ok (.ifCond .ne 18, 3) := by decide +kernel
theorem dX4_drawFrom_60 : decode cX4_drawFrom 60 = .ok (.aload_n 0, 1) := by decide +kernel
theorem dX4_drawFrom_61 : decode cX4_drawFrom 61 = .ok (.getfield 9, 3) := by decide +kernel
theorem dX4_drawFrom_64 : decode cX4_drawFrom 64 = .ok (.iload_n 3, 1) := by decide +kernel
theorem dX4_drawFrom_65 : decode cX4_drawFrom 65 = .ok (.iload 4, 2) := by decide +kernel
theorem dX4_drawFrom_67 : decode cX4_drawFrom 67 = .ok (.invokestatic 57, 3) := by decide +kernel
theorem dX4_drawFrom_70 : decode cX4_drawFrom 70 = .ok (.dup2, 1) := by decide +kernel
theorem dX4_drawFrom_71 : decode cX4_drawFrom 71 = .ok (.iaload, 1) := by decide +kernel
theorem dX4_drawFrom_72 : decode cX4_drawFrom 72 = .ok (.iconst 1, 1) := by decide +kernel
theorem dX4_drawFrom_73 : decode cX4_drawFrom 73 = .ok (.iadd, 1) := by decide +kernel
theorem dX4_drawFrom_74 : decode cX4_drawFrom 74 = .ok (.iastore, 1) := by decide +kernel
theorem dX4_drawFrom_75 : decode cX4_drawFrom 75 = .ok (.iload_n 3, 1) := by decide +kernel
theorem dX4_drawFrom_76 : decode cX4_drawFrom 76 = .ok (.getstatic 61, 3) := by decide +kernel
theorem dX4_drawFrom_79 : decode cX4_drawFrom 79 = .ok (.iload_n 2, 1) := by decide +kernel
theorem dX4_drawFrom_80 : decode cX4_drawFrom 80 = .ok (.iaload, 1) := by decide +kernel
theorem dX4_drawFrom_81 : decode cX4_drawFrom 81 = .ok (.iadd, 1) := by decide +kernel
theorem dX4_drawFrom_82 : decode cX4_drawFrom 82 = .ok (.istore_n 3, 1) := by decide +kernel
theorem dX4_drawFrom_83 : decode cX4_drawFrom 83 = .ok (.iload 4, 2) := by decide +kernel
theorem dX4_drawFrom_85 : decode cX4_drawFrom 85 = .ok (.getstatic 64, 3) := by decide +kernel
theorem dX4_drawFrom_88 : decode cX4_drawFrom 88 = .ok (.iload_n 2, 1) := by decide +kernel
theorem dX4_drawFrom_89 : decode cX4_drawFrom 89 = .ok (.iaload, 1) := by decide +kernel
theorem dX4_drawFrom_90 : decode cX4_drawFrom 90 = .ok (.iadd, 1) := by decide +kernel
theorem dX4_drawFrom_91 : decode cX4_drawFrom 91 = .ok (.istore 4, 2) := by decide +kernel
theorem dX4_drawFrom_93 : decode cX4_drawFrom 93 = .ok (.iinc 5 1, 3) := by decide +kernel
theorem dX4_drawFrom_96 : decode cX4_drawFrom 96 = .ok (.goto (-62), 3) := by decide +kernel
theorem dX4_drawFrom_99 : decode cX4_drawFrom 99 = .ok (.return_, 1) := by decide +kernel
theorem dX4_allMayCross_0 : decode cX4_allMayCross 0 = .ok (.iconst 0, 1) := by decide +kernel
theorem dX4_allMayCross_1 : decode cX4_allMayCross 1 = .ok (.istore_n 3, 1) := by decide +kernel
theorem dX4_allMayCross_2 : decode cX4_allMayCross 2 = .ok (.iload_n 3, 1) := by decide +kernel
theorem dX4_allMayCross_3 : decode cX4_allMayCross 3 = .ok (.aload_n 1, 1) := by decide +kernel
theorem dX4_allMayCross_4 : decode cX4_allMayCross 4 = .ok (.invokevirtual 22, 3) := by decide +kernel
theorem dX4_allMayCross_7 : decode cX4_allMayCross 7 = .ok (.if_icmp .ge 41, 3) := by decide +kernel
theorem dX4_allMayCross_10 : decode cX4_allMayCross 10 = .ok (.aload_n 1, 1) := by decide +kernel
theorem dX4_allMayCross_11 : decode cX4_allMayCross 11 = .ok (.iload_n 3, 1) := by decide +kernel
theorem dX4_allMayCross_12 : decode cX4_allMayCross 12 = .ok (.invokevirtual 28, 3) := by decide +kernel
theorem dX4_allMayCross_15 : decode cX4_allMayCross 15 = .ok (.astore 4, 2) := by decide +kernel
theorem dX4_allMayCross_17 : decode cX4_allMayCross 17 = .ok (.aload 4, 2) := by decide +kernel
theorem dX4_allMayCross_19 : decode cX4_allMayCross 19 = .ok (.ifnull 23, 3) := by decide +kernel
theorem dX4_allMayCross_22 : decode cX4_allMayCross 22 = .ok (.aload 4, 2) := by decide +kernel
theorem dX4_allMayCross_24 : decode cX4_allMayCross 24 = .ok (.iload_n 2, 1) := by decide +kernel
theorem dX4_allMayCross_25 : decode cX4_allMayCross 25 = .ok (.invokevirtual 32, 3) := by decide +kernel
theorem dX4_allMayCross_28 : decode cX4_allMayCross 28 = .ok (.ifCond .eq 14, 3) := by decide +kernel
theorem dX4_allMayCross_31 : decode cX4_allMayCross 31 = .ok (.aload_n 0, 1) := by decide +kernel
theorem dX4_allMayCross_32 : decode cX4_allMayCross 32 = .ok (.aload 4, 2) := by decide +kernel
theorem dX4_allMayCross_34 : decode cX4_allMayCross 34 = .ok (.invokevirtual 67, 3) := by decide +kernel
theorem dX4_allMayCross_37 : decode cX4_allMayCross 37 = .ok (.ifCond .ne 5, 3) := by decide +kernel
theorem dX4_allMayCross_40 : decode cX4_allMayCross 40 = .ok (.iconst 0, 1) := by decide +kernel
theorem dX4_allMayCross_41 : decode cX4_allMayCross 41 = .ok (.ireturn, 1) := by decide +kernel
theorem dX4_allMayCross_42 : decode cX4_allMayCross 42 = .ok (.iinc 3 1, 3) := by decide +kernel
theorem dX4_allMayCross_45 : decode cX4_allMayCross 45 = .ok (.goto (-43), 3) := by decide +kernel
theorem dX4_allMayCross_48 : decode cX4_allMayCross 48 = .ok (.iconst 1, 1) := by decide +kernel
theorem dX4_allMayCross_49 : decode cX4_allMayCross 49 = .ok (.ireturn, 1) := by decide +kernel
theorem dX4_mayCross_0 : decode cX4_mayCross 0 = .ok (.aload_n 0, 1) := by decide +kernel
theorem dX4_mayCross_1 : decode cX4_mayCross 1 = .ok (.getfield 15, 3) := by decide +kernel
theorem dX4_mayCross_4 : decode cX4_mayCross 4 = .ok (.bipush 12, 2) := by decide +kernel
theorem dX4_mayCross_6 : decode cX4_mayCross 6 = .ok (.irem, 1) := by decide +kernel
theorem dX4_mayCross_7 : decode cX4_mayCross 7 = .ok (.istore_n 2, 1) := by decide +kernel
theorem dX4_mayCross_8 : decode cX4_mayCross 8 = .ok (.aload_n 0, 1) := by decide +kernel
theorem dX4_mayCross_9 : decode cX4_mayCross 9 = .ok (.getfield 15, 3) := by decide +kernel
theorem dX4_mayCross_12 : decode cX4_mayCross 12 = .ok (.bipush 12, 2) := by decide +kernel
theorem dX4_mayCross_14 : decode cX4_mayCross 14 = .ok (.idiv, 1) := by decide +kernel
theorem dX4_mayCross_15 : decode cX4_mayCross 15 = .ok (.istore_n 3, 1) := by decide +kernel
theorem dX4_mayCross_16 : decode cX4_mayCross 16 = .ok (.iload_n 2, 1) := by decide +kernel
theorem dX4_mayCross_17 : decode cX4_mayCross 17 = .ok (.aload_n 1, 1) := by decide +kernel
theorem dX4_mayCross_18 : decode cX4_mayCross 18 = .ok (.iconst 0, 1) := by decide +kernel
theorem dX4_mayCross_19 : decode cX4_mayCross 19 = .ok (.invokevirtual 42, 3) := by decide +kernel
theorem dX4_mayCross_22 : decode cX4_mayCross 22 = .ok (.isub, 1) := by decide +kernel
theorem dX4_mayCross_23 : decode cX4_mayCross 23 = .ok (.invokestatic 71, 3) := by decide +kernel
theorem dX4_mayCross_26 : decode cX4_mayCross 26 = .ok (.istore 4, 2) := by decide +kernel
theorem dX4_mayCross_28 : decode cX4_mayCross 28 = .ok (.iload_n 3, 1) := by decide +kernel
theorem dX4_mayCross_29 : decode cX4_mayCross 29 = .ok (.aload_n 1, 1) := by decide +kernel
theorem dX4_mayCross_30 : decode cX4_mayCross 30 = .ok (.iconst 1, 1) := by decide +kernel
theorem dX4_mayCross_31 : decode cX4_mayCross 31 = .ok (.invokevirtual 42, 3) := by decide +kernel
theorem dX4_mayCross_34 : decode cX4_mayCross 34 = .ok (.isub, 1) := by decide +kernel
theorem dX4_mayCross_35 : decode cX4_mayCross 35 = .ok (.invokestatic 71, 3) := by decide +kernel
theorem dX4_mayCross_38 : decode cX4_mayCross 38 = .ok (.istore 5, 2) := by decide +kernel
theorem dX4_mayCross_40 : decode cX4_mayCross 40 = .ok (.aload_n 1, 1) := by decide +kernel
theorem dX4_mayCross_41 : decode cX4_mayCross 41 = .ok (.iload_n 2, 1) := by decide +kernel
theorem dX4_mayCross_42 : decode cX4_mayCross 42 = .ok (.iload_n 3, 1) := by decide +kernel
theorem dX4_mayCross_43 : decode cX4_mayCross 43 = .ok (.invokevirtual 54, 3) := by decide +kernel
theorem dX4_mayCross_46 : decode cX4_mayCross 46 = .ok (.ifCond .ne 24, 3) := by decide +kernel
theorem dX4_mayCross_49 : decode cX4_mayCross 49 = .ok (.iload 4, 2) := by decide +kernel
theorem dX4_mayCross_51 : decode cX4_mayCross 51 = .ok (.ifCond .eq 15, 3) := by decide +kernel
theorem dX4_mayCross_54 : decode cX4_mayCross 54 = .ok (.iload 5, 2) := by decide +kernel
theorem dX4_mayCross_56 : decode cX4_mayCross 56 = .ok (.ifCond .eq 10, 3) := by decide +kernel
theorem dX4_mayCross_59 : decode cX4_mayCross 59 = .ok (.iload 4, 2) := by decide +kernel
theorem dX4_mayCross_61 : decode cX4_mayCross 61 = .ok (.iload 5, 2) := by decide +kernel
theorem dX4_mayCross_63 : decode cX4_mayCross 63 = .ok (.if_icmp .ne 7, 3) := by decide +kernel
theorem dX4_mayCross_66 : decode cX4_mayCross 66 = .ok (.iconst 1, 1) := by decide +kernel
theorem dX4_mayCross_67 : decode cX4_mayCross 67 = .ok (.goto 4, 3) := by decide +kernel
theorem dX4_mayCross_70 : decode cX4_mayCross 70 = .ok (.iconst 0, 1) := by decide +kernel
theorem dX4_mayCross_71 : decode cX4_mayCross 71 = .ok (.ireturn, 1) := by decide +kernel
theorem dX4_lots_0 : decode cX4_lots 0 = .ok (.lconst 1, 1) := by decide +kernel
theorem dX4_lots_1 : decode cX4_lots 1 = .ok (.lstore_n 3, 1) := by decide +kernel
theorem dX4_lots_2 : decode cX4_lots 2 = .ok (.iconst 0, 1) := by decide +kernel
theorem dX4_lots_3 : decode cX4_lots 3 = .ok (.istore 5, 2) := by decide +kernel
theorem dX4_lots_5 : decode cX4_lots 5 = .ok (.iload 5, 2) := by decide +kernel
theorem dX4_lots_7 : decode cX4_lots 7 = .ok (.aload_n 1, 1) := by decide +kernel
theorem dX4_lots_8 : decode cX4_lots 8 = .ok (.invokevirtual 22, 3) := by decide +kernel
theorem dX4_lots_11 : decode cX4_lots 11 = .ok (.if_icmp .ge 37, 3) := by decide +kernel
theorem dX4_lots_14 : decode cX4_lots 14 = .ok (.aload_n 1, 1) := by decide +kernel
theorem dX4_lots_15 : decode cX4_lots 15 = .ok (.iload 5, 2) := by decide +kernel
theorem dX4_lots_17 : decode cX4_lots 17 = .ok (.invokevirtual 28, 3) := by decide +kernel
theorem dX4_lots_20 : decode cX4_lots 20 = .ok (.astore 6, 2) := by decide +kernel
theorem dX4_lots_22 : decode cX4_lots 22 = .ok (.aload 6, 2) := by decide +kernel
theorem dX4_lots_24 : decode cX4_lots 24 = .ok (.ifnull 18, 3) := by decide +kernel
theorem dX4_lots_27 : decode cX4_lots 27 = .ok (.aload 6, 2) := by decide +kernel
theorem dX4_lots_29 : decode cX4_lots 29 = .ok (.iload_n 2, 1) := by decide +kernel
theorem dX4_lots_30 : decode cX4_lots 30 = .ok (.invokevirtual 32, 3) := by decide +kernel
theorem dX4_lots_33 : decode cX4_lots 33 = .ok (.ifCond .eq 9, 3) := by decide +kernel
theorem dX4_lots_36 : decode cX4_lots 36 = .ok (.lload_n 3, 1) := by decide +kernel
theorem dX4_lots_37 : decode cX4_lots 37 = .ok (.ldc2_w 76, 3) := by decide +kernel
theorem dX4_lots_40 : decode cX4_lots 40 = .ok (.lmul, 1) := by decide +kernel
theorem dX4_lots_41 : decode cX4_lots 41 = .ok (.lstore_n 3, 1) := by decide +kernel
theorem dX4_lots_42 : decode cX4_lots 42 = .ok (.iinc 5 1, 3) := by decide +kernel
theorem dX4_lots_45 : decode cX4_lots 45 = .ok (.goto (-40), 3) := by decide +kernel
theorem dX4_lots_48 : decode cX4_lots 48 = .ok (.lload_n 3, 1) := by decide +kernel
theorem dX4_lots_49 : decode cX4_lots 49 = .ok (.lreturn, 1) := by decide +kernel
theorem dX5_init_0 : decode cX5_init 0 = .ok (.aload_n 0, 1) := by decide +kernel
theorem dX5_init_1 : decode cX5_init 1 = .ok (.invokespecial 3, 3) := by decide +kernel
theorem dX5_init_4 : decode cX5_init 4 = .ok (.aload_n 0, 1) := by decide +kernel
theorem dX5_init_5 : decode cX5_init 5 = .ok (.new 9, 3) := by decide +kernel
theorem dX5_init_8 : decode cX5_init 8 = .ok (.dup, 1) := by decide +kernel
theorem dX5_init_9 : decode cX5_init 9 = .ok (.invokespecial 11, 3) := by decide +kernel
theorem dX5_init_12 : decode cX5_init 12 = .ok (.putfield 12, 3) := by decide +kernel
theorem dX5_init_15 : decode cX5_init 15 = .ok (.aload_n 0, 1) := by decide +kernel
theorem dX5_init_16 : decode cX5_init 16 = .ok (.bipush 96, 2) := by decide +kernel
theorem dX5_init_18 : decode cX5_init 18 = .ok (.newarray .int, 2) := by decide +kernel
theorem dX5_init_20 : decode cX5_init 20 = .ok (.putfield 18, 3) := by decide +kernel
theorem dX5_init_23 : decode cX5_init 23 = .ok (.aload_n 0, 1) := by decide +kernel
theorem dX5_init_24 : decode cX5_init 24 = .ok (.bipush 96, 2) := by decide +kernel
theorem dX5_init_26 : decode cX5_init 26 = .ok (.newarray .int, 2) := by decide +kernel
theorem dX5_init_28 : decode cX5_init 28 = .ok (.putfield 22, 3) := by decide +kernel
theorem dX5_init_31 : decode cX5_init 31 = .ok (.aload_n 0, 1) := by decide +kernel
theorem dX5_init_32 : decode cX5_init 32 = .ok (.iload_n 1, 1) := by decide +kernel
theorem dX5_init_33 : decode cX5_init 33 = .ok (.putfield 25, 3) := by decide +kernel
theorem dX5_init_36 : decode cX5_init 36 = .ok (.aload_n 0, 1) := by decide +kernel
theorem dX5_init_37 : decode cX5_init 37 = .ok (.iload_n 2, 1) := by decide +kernel
theorem dX5_init_38 : decode cX5_init 38 = .ok (.putfield 29, 3) := by decide +kernel
theorem dX5_init_41 : decode cX5_init 41 = .ok (.aload_n 0, 1) := by decide +kernel
theorem dX5_init_42 : decode cX5_init 42 = .ok (.iload_n 3, 1) := by decide +kernel
theorem dX5_init_43 : decode cX5_init 43 = .ok (.putfield 32, 3) := by decide +kernel
theorem dX5_init_46 : decode cX5_init 46 = .ok (.aload_n 0, 1) := by decide +kernel
theorem dX5_init_47 : decode cX5_init 47 = .ok (.iload 4, 2) := by decide +kernel
theorem dX5_init_49 : decode cX5_init 49 = .ok (.putfield 35, 3) := by decide +kernel
theorem dX5_init_52 : decode cX5_init 52 = .ok (.aload_n 0, 1) := by decide +kernel
theorem dX5_init_53 : decode cX5_init 53 = .ok (.iload 5, 2) := by decide +kernel
theorem dX5_init_55 : decode cX5_init 55 = .ok (.putfield 38, 3) := by decide +kernel
theorem dX5_init_58 : decode cX5_init 58 = .ok (.return_, 1) := by decide +kernel
theorem dX5_develop_0 : decode cX5_develop 0 = .ok (.aload_n 1, 1) := by decide +kernel
theorem dX5_develop_1 : decode cX5_develop 1 = .ok (.aload_n 0, 1) := by decide +kernel
theorem dX5_develop_2 : decode cX5_develop 2 = .ok (.getfield 18, 3) := by decide +kernel
theorem dX5_develop_5 : decode cX5_develop 5 = .ok (.aload_n 0, 1) := by decide +kernel
theorem dX5_develop_6 : decode cX5_develop 6 = .ok (.getfield 32, 3) := by decide +kernel
theorem dX5_develop_9 : decode cX5_develop 9 = .ok (.invokevirtual 41, 3) := by decide +kernel
theorem dX5_develop_12 : decode cX5_develop 12 = .ok (.iconst 0, 1) := by decide +kernel
theorem dX5_develop_13 : decode cX5_develop 13 = .ok (.istore_n 2, 1) := by decide +kernel
theorem dX5_develop_14 : decode cX5_develop 14 = .ok (.iload_n 2, 1) := by decide +kernel
theorem dX5_develop_15 : decode cX5_develop 15 = .ok (.bipush 96, 2) := by decide +kernel
theorem dX5_develop_17 : decode cX5_develop 17 = .ok (.if_icmp .ge 16, 3) := by decide +kernel
theorem dX5_develop_20 : decode cX5_develop 20 = .ok (.aload_n 0, 1) := by decide +kernel
theorem dX5_develop_21 : decode cX5_develop 21 = .ok (.getfield 22, 3) := by decide +kernel
theorem dX5_develop_24 : decode cX5_develop 24 = .ok (.iload_n 2, 1) := by decide +kernel
theorem dX5_develop_25 : decode cX5_develop 25 = .ok (.iconst 0, 1) := by decide +kernel
theorem dX5_develop_26 : decode cX5_develop 26 = .ok (.iastore, 1) := by decide +kernel
theorem dX5_develop_27 : decode cX5_develop 27 = .ok (.iinc 2 1, 3) := by decide +kernel
theorem dX5_develop_30 : decode cX5_develop 30 = .ok (.goto (-16), 3) := by decide +kernel
theorem dX5_develop_33 : decode cX5_develop 33 = .ok (.iconst 0, 1) := by decide +kernel
theorem dX5_develop_34 : decode cX5_develop 34 = .ok (.istore_n 2, 1) := by decide +kernel
theorem dX5_develop_35 : decode cX5_develop 35 = .ok (.iload_n 2, 1) := by decide +kernel
theorem dX5_develop_36 : decode cX5_develop 36 = .ok (.bipush 96, 2) := by decide +kernel
theorem dX5_develop_38 : decode cX5_develop 38 = .ok (.if_icmp .ge 38, 3) := by decide +kernel
theorem dX5_develop_41 : decode cX5_develop 41 = .ok (.aload_n 1, 1) := by decide +kernel
theorem dX5_develop_42 : decode cX5_develop 42 = .ok (.aload_n 0, 1) := by decide +kernel
theorem dX5_develop_43 : decode cX5_develop 43 = .ok (.getfield 18, 3) := by decide +kernel
theorem dX5_develop_46 : decode cX5_develop 46 = .ok (.iload_n 2, 1) := by decide +kernel
theorem dX5_develop_47 : decode cX5_develop 47 = .ok (.iaload, 1) := by decide +kernel
theorem dX5_develop_48 : decode cX5_develop 48 = .ok (.invokevirtual 47, 3) := by decide +kernel
theorem dX5_develop_51 : decode cX5_develop 51 = .ok (.astore_n 3, 1) := by decide +kernel
theorem dX5_develop_52 : decode cX5_develop 52 = .ok (.aload_n 3, 1) := by decide +kernel
theorem dX5_develop_53 : decode cX5_develop 53 = .ok (.ifnull 17, 3) := by decide +kernel
theorem dX5_develop_56 : decode cX5_develop 56 = .ok (.aload_n 0, 1) := by decide +kernel
theorem dX5_develop_57 : decode cX5_develop 57 = .ok (.iload_n 2, 1) := by decide +kernel
theorem dX5_develop_58 : decode cX5_develop 58 = .ok (.aload_n 0, 1) := by decide +kernel
theorem dX5_develop_59 : decode cX5_develop 59 = .ok (.aload_n 3, 1) := by decide +kernel
theorem dX5_develop_60 : decode cX5_develop 60 = .ok (.iconst 4, 1) := by decide +kernel
theorem dX5_develop_61 : decode cX5_develop 61 = .ok (.invokevirtual 51, 3) := by decide +kernel
theorem dX5_develop_64 : decode cX5_develop 64 = .ok (.invokevirtual 57, 3) := by decide +kernel
theorem dX5_develop_67 : decode cX5_develop 67 = .ok (.invokevirtual 60, 3) := by decide +kernel
theorem dX5_develop_70 : decode cX5_develop 70 = .ok (.iinc 2 1, 3) := by decide +kernel
theorem dX5_develop_73 : decode cX5_develop 73 = .ok (.goto (-38), 3) := by decide +kernel
theorem dX5_develop_76 : decode cX5_develop 76 = .ok (.iconst 0, 1) := by decide +kernel
theorem dX5_develop_77 : decode cX5_develop 77 = .ok (.istore_n 2, 1) := by decide +kernel
theorem dX5_develop_78 : decode cX5_develop 78 = .ok (.iload_n 2, 1) := by decide +kernel
theorem dX5_develop_79 : decode cX5_develop 79 = .ok (.bipush 96, 2) := by decide +kernel
theorem dX5_develop_81 : decode cX5_develop 81 = .ok (.if_icmp .ge 47, 3) := by decide +kernel
theorem dX5_develop_84 : decode cX5_develop 84 = .ok (.aload_n 1, 1) := by decide +kernel
theorem dX5_develop_85 : decode cX5_develop 85 = .ok (.aload_n 0, 1) := by decide +kernel
theorem dX5_develop_86 : decode cX5_develop 86 = .ok (.getfield 18, 3) := by decide +kernel
theorem dX5_develop_89 : decode cX5_develop 89 = .ok (.iload_n 2, 1) := by decide +kernel
theorem dX5_develop_90 : decode cX5_develop 90 = .ok (.iaload, 1) := by decide +kernel
theorem dX5_develop_91 : decode cX5_develop 91 = .ok (.invokevirtual 47, 3) := by decide +kernel
theorem dX5_develop_94 : decode cX5_develop 94 = .ok (.astore_n 3, 1) := by decide +kernel
theorem dX5_develop_95 : decode cX5_develop 95 = .ok (.aload_n 3, 1) := by decide +kernel
theorem dX5_develop_96 : decode cX5_develop 96 = .ok (.ifnull 26, 3) := by decide +kernel
theorem dX5_develop_99 : decode cX5_develop 99 = .ok (.aload_n 3, 1) := by decide +kernel
theorem dX5_develop_100 : decode cX5_develop 100 = .ok (.bipush 9, 2) := by decide +kernel
theorem dX5_develop_102 : decode cX5_develop 102 = .ok (.invokevirtual 51, 3) := by decide +kernel
theorem dX5_develop_105 : decode cX5_develop 105 = .ok (.ifCond .ne 17, 3) := by decide +kernel
theorem dX5_develop_108 : decode cX5_develop 108 = .ok (.aload_n 0, 1) := by decide +kernel
theorem dX5_develop_109 : decode cX5_develop 109 = .ok (.getfield 22, 3) := by decide +kernel
theorem dX5_develop_112 : decode cX5_develop 112 = .ok (.iload_n 2, 1) := by decide +kernel
theorem dX5_develop_113 : decode cX5_develop 113 = .ok (.bipush 10, 2) := by decide +kernel
theorem dX5_develop_115 : decode cX5_develop 115 = .ok (.aload_n 3, 1) := by decide +kernel
theorem dX5_develop_116 : decode cX5_develop 116 = .ok (.iconst 5, 1) := by decide +kernel
theorem dX5_develop_117 : decode cX5_develop 117 = .ok (.invokevirtual 51, 3) := by decide +kernel
theorem dX5_develop_120 : decode cX5_develop 120 = .ok (.iadd, 1) := by decide +kernel
theorem dX5_develop_121 : decode cX5_develop 121 = .ok (.iastore, 1) := by decide +kernel
theorem dX5_develop_122 : decode cX5_develop 122 = .ok (.iinc 2 1, 3) := by decide +kernel
theorem dX5_develop_125 : decode cX5_develop 125 = .ok (.goto (-47), 3) := by decide +kernel
theorem dX5_develop_128 : decode cX5_develop 128 = .ok (.return_, 1) := by decide +kernel
theorem dX5_shadowOf_0 : decode cX5_shadowOf 0 = .ok (.iload_n 1, 1) := by decide +kernel
theorem dX5_shadowOf_1 : decode cX5_shadowOf 1 = .ok (.aload_n 0, 1) := by decide +kernel
theorem dX5_shadowOf_2 : decode cX5_shadowOf 2 = .ok (.getfield 38, 3) := by decide +kernel
theorem dX5_shadowOf_5 : decode cX5_shadowOf 5 = .ok (.imul, 1) := by decide +kernel
theorem dX5_shadowOf_6 : decode cX5_shadowOf 6 = .ok (.bipush 10, 2) := by decide +kernel
theorem dX5_shadowOf_8 : decode cX5_shadowOf 8 = .ok (.idiv, 1) := by decide +kernel
theorem dX5_shadowOf_9 : decode cX5_shadowOf 9 = .ok (.ireturn, 1) := by decide +kernel
theorem dX5_castShadow_0 : decode cX5_castShadow 0 = .ok (.iconst 2, 1) := by decide +kernel
theorem dX5_castShadow_1 : decode cX5_castShadow 1 = .ok (.aload_n 0, 1) := by decide +kernel
theorem dX5_castShadow_2 : decode cX5_castShadow 2 = .ok (.getfield 35, 3) := by decide +kernel
theorem dX5_castShadow_5 : decode cX5_castShadow 5 = .ok (.imul, 1) := by decide +kernel
theorem dX5_castShadow_6 : decode cX5_castShadow 6 = .ok (.istore_n 3, 1) := by decide +kernel
theorem dX5_castShadow_7 : decode cX5_castShadow 7 = .ok (.iload_n 3, 1) := by decide +kernel
theorem dX5_castShadow_8 : decode cX5_castShadow 8 = .ok (.iconst 0, 1) := by decide +kernel
theorem dX5_castShadow_9 : decode cX5_castShadow 9 = .ok (.bipush 7, 2) := by decide +kernel
theorem dX5_castShadow_11 : decode cX5_castShadow 11 = .ok (.invokestatic 64, 3) := by decide +kernel
theorem dX5_castShadow_14 : decode cX5_castShadow 14 = .ok (.ifCond .ne 4, 3) := by decide +kernel
theorem dX5_castShadow_17 : decode cX5_castShadow 17 = .ok (.return_, 1) := by decide +kernel
theorem dX5_castShadow_18 : decode cX5_castShadow 18 = .ok (.iload_n 1, 1) := by decide +kernel
theorem dX5_castShadow_19 : decode cX5_castShadow 19 = .ok (.bipush 12, 2) := by decide +kernel
theorem dX5_castShadow_21 : decode cX5_castShadow 21 = .ok (.irem, 1) := by decide +kernel
theorem dX5_castShadow_22 : decode cX5_castShadow 22 = .ok (.getstatic 68, 3) := by decide +kernel
theorem dX5_castShadow_25 : decode cX5_castShadow 25 = .ok (.iload_n 3, 1) := by decide +kernel
theorem dX5_castShadow_26 : decode cX5_castShadow 26 = .ok (.iaload, 1) := by decide +kernel
theorem dX5_castShadow_27 : decode cX5_castShadow 27 = .ok (.iadd, 1) := by decide +kernel
theorem dX5_castShadow_28 : decode cX5_castShadow 28 = .ok (.istore 4, 2) := by decide +kernel
theorem dX5_castShadow_30 : decode cX5_castShadow 30 = .ok (.iload_n 1, 1) := by decide +kernel
theorem dX5_castShadow_31 : decode cX5_castShadow 31 = .ok (.bipush 12, 2) := by decide +kernel
theorem dX5_castShadow_33 : decode cX5_castShadow 33 = .ok (.idiv, 1) := by decide +kernel
theorem dX5_castShadow_34 : decode cX5_castShadow 34 = .ok (.getstatic 71, 3) := by decide +kernel
theorem dX5_castShadow_37 : decode cX5_castShadow 37 = .ok (.iload_n 3, 1) := by decide +kernel
theorem dX5_castShadow_38 : decode cX5_castShadow 38 = .ok (.iaload, 1) := by decide +kernel
theorem dX5_castShadow_39 : decode cX5_castShadow 39 = .ok (.iadd, 1) := by decide +kernel
theorem dX5_castShadow_40 : decode cX5_castShadow 40 = .ok (.istore 5, 2) := by decide +kernel
theorem dX5_castShadow_42 : decode cX5_castShadow 42 = .ok (.iconst 1, 1) := by decide +kernel
theorem dX5_castShadow_43 : decode cX5_castShadow 43 = .ok (.istore 6, 2) := by decide +kernel
theorem dX5_castShadow_45 : decode cX5_castShadow 45 = .ok (.iload 6, 2) := by decide +kernel
theorem dX5_castShadow_47 : decode cX5_castShadow 47 = .ok (.iload_n 2, 1) := by decide +kernel
theorem dX5_castShadow_48 : decode cX5_castShadow 48 = .ok (.if_icmp .gt 52, 3) := by decide +kernel
theorem dX5_castShadow_51 : decode cX5_castShadow 51 = .ok (.iload 4, 2) := by decide +kernel
theorem dX5_castShadow_53 : decode cX5_castShadow 53 = .ok (.iload 5, 2) := by decide +kernel
theorem dX5_castShadow_55 : decode cX5_castShadow 55 = .ok (.invokestatic 74, 3) := by decide +kernel
theorem dX5_castShadow_58 : decode cX5_castShadow 58 = .ok (.ifCond .eq 42, 3) := by decide +kernel
theorem dX5_castShadow_61 : decode cX5_castShadow 61 = .ok (.aload_n 0, 1) := by decide +kernel
theorem dX5_castShadow_62 : decode cX5_castShadow 62 = .ok (.getfield 22, 3) := by decide +kernel
theorem dX5_castShadow_65 : decode cX5_castShadow 65 = .ok (.iload 4, 2) := by decide +kernel
theorem dX5_castShadow_67 : decode cX5_castShadow 67 = .ok (.iload 5, 2) := by decide +kernel
theorem dX5_castShadow_69 : decode cX5_castShadow 69 = .ok (.invokestatic 78, 3) := by decide +kernel
theorem dX5_castShadow_72 : decode cX5_castShadow 72 = .ok (.iconst 1, 1) := by decide +kernel
theorem dX5_castShadow_73 : decode cX5_castShadow 73 = .ok (.iastore, 1) := by decide +kernel
theorem dX5_castShadow_74 : decode cX5_castShadow 74 = .ok (.iload 4, 2) := by decide +kernel
theorem dX5_castShadow_76 : decode cX5_castShadow 76 = .ok (.getstatic 68, 3) := by decide +kernel
theorem dX5_castShadow_79 : decode cX5_castShadow 79 = .ok (.iload_n 3, 1) := by decide +kernel
theorem dX5_castShadow_80 : decode cX5_castShadow 80 = .ok (.iaload, 1) := by decide +kernel
theorem dX5_castShadow_81 : decode cX5_castShadow 81 = .ok (.iadd, 1) := by decide +kernel
theorem dX5_castShadow_82 : decode cX5_castShadow 82 = .ok (.istore 4, 2) := by decide +kernel
theorem dX5_castShadow_84 : decode cX5_castShadow 84 = .ok (.iload 5, 2) := by decide +kernel
theorem dX5_castShadow_86 : decode cX5_castShadow 86 = .ok (.getstatic 71, 3) := by decide +kernel
theorem dX5_castShadow_89 : decode cX5_castShadow 89 = .ok (.iload_n 3, 1) := by decide +kernel
theorem dX5_castShadow_90 : decode cX5_castShadow 90 = .ok (.iaload, 1) := by decide +kernel
theorem dX5_castShadow_91 : decode cX5_castShadow 91 = .ok (.iadd, 1) := by decide +kernel
theorem dX5_castShadow_92 : decode cX5_castShadow 92 = .ok (.istore 5, 2) := by decide +kernel
theorem dX5_castShadow_94 : decode cX5_castShadow 94 = .ok (.iinc 6 1, 3) := by decide +kernel
theorem dX5_castShadow_97 : decode cX5_castShadow 97 = .ok (.goto (-52), 3) := by decide +kernel
theorem dX5_castShadow_100 : decode cX5_castShadow 100 = .ok (.return_, 1) := by decide +kernel
theorem dX5_day_0 : decode cX5_day 0 = .ok (.aload_n 0, 1) := by decide +kernel
theorem dX5_day_1 : decode cX5_day 1 = .ok (.getfield 32, 3) := by decide +kernel
theorem dX5_day_4 : decode cX5_day 4 = .ok (.ireturn, 1) := by decide +kernel
theorem dX5_tickCloud_0 : decode cX5_tickCloud 0 = .ok (.aload_n 0, 1) := by decide +kernel
theorem dX5_tickCloud_1 : decode cX5_tickCloud 1 = .ok (.getfield 12, 3) := by decide +kernel
theorem dX5_tickCloud_4 : decode cX5_tickCloud 4 = .ok (.iload_n 1, 1) := by decide +kernel
theorem dX5_tickCloud_5 : decode cX5_tickCloud 5 = .ok (.iload_n 2, 1) := by decide +kernel
theorem dX5_tickCloud_6 : decode cX5_tickCloud 6 = .ok (.invokevirtual 82, 3) := by decide +kernel
theorem dX5_tickCloud_9 : decode cX5_tickCloud 9 = .ok (.ireturn, 1) := by decide +kernel
theorem dX5_covers_0 : decode cX5_covers 0 = .ok (.iload_n 1, 1) := by decide +kernel
theorem dX5_covers_1 : decode cX5_covers 1 = .ok (.invokestatic 86, 3) := by decide +kernel
theorem dX5_covers_4 : decode cX5_covers 4 = .ok (.ifCond .eq 36, 3) := by decide +kernel
theorem dX5_covers_7 : decode cX5_covers 7 = .ok (.iload_n 1, 1) := by decide +kernel
theorem dX5_covers_8 : decode cX5_covers 8 = .ok (.bipush 12, 2) := by decide +kernel
theorem dX5_covers_10 : decode cX5_covers 10 = .ok (.irem, 1) := by decide +kernel
theorem dX5_covers_11 : decode cX5_covers 11 = .ok (.aload_n 0, 1) := by decide +kernel
theorem dX5_covers_12 : decode cX5_covers 12 = .ok (.getfield 25, 3) := by decide +kernel
theorem dX5_covers_15 : decode cX5_covers 15 = .ok (.aload_n 0, 1) := by decide +kernel
theorem dX5_covers_16 : decode cX5_covers 16 = .ok (.getfield 29, 3) := by decide +kernel
theorem dX5_covers_19 : decode cX5_covers 19 = .ok (.invokestatic 64, 3) := by decide +kernel
theorem dX5_covers_22 : decode cX5_covers 22 = .ok (.ifCond .eq 18, 3) := by decide +kernel
theorem dX5_covers_25 : decode cX5_covers 25 = .ok (.aload_n 0, 1) := by decide +kernel
theorem dX5_covers_26 : decode cX5_covers 26 = .ok (.getfield 12, 3) := by decide +kernel
theorem dX5_covers_29 : decode cX5_covers 29 = .ok (.iload_n 1, 1) := by decide +kernel
theorem dX5_covers_30 : decode cX5_covers 30 = .ok (.invokevirtual 90, 3) := by decide +kernel
theorem dX5_covers_33 : decode cX5_covers 33 = .ok (.ifCond .ne 7, 3) := by decide +kernel
theorem dX5_covers_36 : decode cX5_covers 36 = .ok (.iconst 1, 1) := by decide +kernel
theorem dX5_covers_37 : decode cX5_covers 37 = .ok (.goto 4, 3) := by decide +kernel
theorem dX5_covers_40 : decode cX5_covers 40 = .ok (.iconst 0, 1) := by decide +kernel
theorem dX5_covers_41 : decode cX5_covers 41 = .ok (.ireturn, 1) := by decide +kernel
theorem dX5_look_0 : decode cX5_look 0 = .ok (.aload_n 0, 1) := by decide +kernel
theorem dX5_look_1 : decode cX5_look 1 = .ok (.iload_n 1, 1) := by decide +kernel
theorem dX5_look_2 : decode cX5_look 2 = .ok (.invokevirtual 93, 3) := by decide +kernel
theorem dX5_look_5 : decode cX5_look 5 = .ok (.ifCond .eq 12, 3) := by decide +kernel
theorem dX5_look_8 : decode cX5_look 8 = .ok (.aload_n 0, 1) := by decide +kernel
theorem dX5_look_9 : decode cX5_look 9 = .ok (.getfield 22, 3) := by decide +kernel
theorem dX5_look_12 : decode cX5_look 12 = .ok (.iload_n 1, 1) := by decide +kernel
theorem dX5_look_13 : decode cX5_look 13 = .ok (.iaload, 1) := by decide +kernel
theorem dX5_look_14 : decode cX5_look 14 = .ok (.goto 5, 3) := by decide +kernel
theorem dX5_look_17 : decode cX5_look 17 = .ok (.bipush (-6), 2) := by decide +kernel
theorem dX5_look_19 : decode cX5_look 19 = .ok (.ireturn, 1) := by decide +kernel
theorem dX5_counting_0 : decode cX5_counting 0 = .ok (.iload_n 1, 1) := by decide +kernel
theorem dX5_counting_1 : decode cX5_counting 1 = .ok (.invokestatic 86, 3) := by decide +kernel
theorem dX5_counting_4 : decode cX5_counting 4 = .ok (.ifCond .eq 12, 3) := by decide +kernel
theorem dX5_counting_7 : decode cX5_counting 7 = .ok (.aload_n 0, 1) := by decide +kernel
theorem dX5_counting_8 : decode cX5_counting 8 = .ok (.getfield 18, 3) := by decide +kernel
theorem dX5_counting_11 : decode cX5_counting 11 = .ok (.iload_n 1, 1) := by decide +kernel
theorem dX5_counting_12 : decode cX5_counting 12 = .ok (.iaload, 1) := by decide +kernel
theorem dX5_counting_13 : decode cX5_counting 13 = .ok (.goto 5, 3) := by decide +kernel
theorem dX5_counting_16 : decode cX5_counting 16 = .ok (.bipush (-6), 2) := by decide +kernel
theorem dX5_counting_18 : decode cX5_counting 18 = .ok (.ireturn, 1) := by decide +kernel
theorem dX5_tally_0 : decode cX5_tally 0 = .ok (.iconst 0, 1) := by decide +kernel
theorem dX5_tally_1 : decode cX5_tally 1 = .ok (.istore_n 2, 1) := by decide +kernel
theorem dX5_tally_2 : decode cX5_tally 2 = .ok (.iconst 0, 1) := by decide +kernel
theorem dX5_tally_3 : decode cX5_tally 3 = .ok (.istore_n 3, 1) := by decide +kernel
theorem dX5_tally_4 : decode cX5_tally 4 = .ok (.iload_n 3, 1) := by decide +kernel
theorem dX5_tally_5 : decode cX5_tally 5 = .ok (.bipush 96, 2) := by decide +kernel
theorem dX5_tally_7 : decode cX5_tally 7 = .ok (.if_icmp .ge 24, 3) := by decide +kernel
theorem dX5_tally_10 : decode cX5_tally 10 = .ok (.aload_n 0, 1) := by decide +kernel
theorem dX5_tally_11 : decode cX5_tally 11 = .ok (.iload_n 3, 1) := by decide +kernel
theorem dX5_tally_12 : decode cX5_tally 12 = .ok (.invokevirtual 96, 3) := by decide +kernel
theorem dX5_tally_15 : decode cX5_tally 15 = .ok (.invokestatic 99, 3) := by decide +kernel
theorem dX5_tally_18 : decode cX5_tally 18 = .ok (.iload_n 1, 1) := by decide +kernel
theorem dX5_tally_19 : decode cX5_tally 19 = .ok (.if_icmp .ne 6, 3) := by decide +kernel
theorem dX5_tally_22 : decode cX5_tally 22 = .ok (.iinc 2 1, 3) := by decide +kernel
theorem dX5_tally_25 : decode cX5_tally 25 = .ok (.iinc 3 1, 3) := by decide +kernel
theorem dX5_tally_28 : decode cX5_tally 28 = .ok (.goto (-24), 3) := by decide +kernel
theorem dX5_tally_31 : decode cX5_tally 31 = .ok (.iload_n 2, 1) := by decide +kernel
theorem dX5_tally_32 : decode cX5_tally 32 = .ok (.ireturn, 1) := by decide +kernel
theorem dX5_sortOf_0 : decode cX5_sortOf 0 = .ok (.iload_n 0, 1) := by decide +kernel
theorem dX5_sortOf_1 : decode cX5_sortOf 1 = .ok (.bipush (-6), 2) := by decide +kernel
theorem dX5_sortOf_3 : decode cX5_sortOf 3 = .ok (.if_icmp .ne 5, 3) := by decide +kernel
theorem dX5_sortOf_6 : decode cX5_sortOf 6 = .ok (.iconst 0, 1) := by decide +kernel
theorem dX5_sortOf_7 : decode cX5_sortOf 7 = .ok (.ireturn, 1) := by decide +kernel
theorem dX5_sortOf_8 : decode cX5_sortOf 8 = .ok (.iload_n 0, 1) := by decide +kernel
theorem dX5_sortOf_9 : decode cX5_sortOf 9 = .ok (.ifCond .ne 5, 3) := by decide +kernel
theorem dX5_sortOf_12 : decode cX5_sortOf 12 = .ok (.iconst 1, 1) := by decide +kernel
theorem dX5_sortOf_13 : decode cX5_sortOf 13 = .ok (.ireturn, 1) := by decide +kernel
theorem dX5_sortOf_14 : decode cX5_sortOf 14 = .ok (.iload_n 0, 1) := by decide +kernel
theorem dX5_sortOf_15 : decode cX5_sortOf 15 = .ok (.iconst 1, 1) := by decide +kernel
theorem dX5_sortOf_16 : decode cX5_sortOf 16 = .ok (.if_icmp .ne 7, 3) := by decide +kernel
theorem dX5_sortOf_19 : decode cX5_sortOf 19 = .ok (.iconst 2, 1) := by decide +kernel
theorem dX5_sortOf_20 : decode cX5_sortOf 20 = .ok (.goto 4, 3) := by decide +kernel
theorem dX5_sortOf_23 : decode cX5_sortOf 23 = .ok (.iconst 3, 1) := by decide +kernel
theorem dX5_sortOf_24 : decode cX5_sortOf 24 = .ok (.ireturn, 1) := by decide +kernel
theorem dX5_leastHeight_0 : decode cX5_leastHeight 0 = .ok (.iconst 1, 1) := by decide +kernel
theorem dX5_leastHeight_1 : decode cX5_leastHeight 1 = .ok (.istore_n 2, 1) := by decide +kernel
theorem dX5_leastHeight_2 : decode cX5_leastHeight 2 = .ok (.iload_n 2, 1) := by decide +kernel
theorem dX5_leastHeight_3 : decode cX5_leastHeight 3 = .ok (.bipush 20, 2) := by decide +kernel
theorem dX5_leastHeight_5 : decode cX5_leastHeight 5 = .ok (.if_icmp .gt 20, 3) := by decide +kernel
theorem dX5_leastHeight_8 : decode cX5_leastHeight 8 = .ok (.aload_n 0, 1) := by decide +kernel
theorem dX5_leastHeight_9 : decode cX5_leastHeight 9 = .ok (.iload_n 2, 1) := by decide +kernel
theorem dX5_leastHeight_10 : decode cX5_leastHeight 10 = .ok (.invokevirtual 57, 3) := by decide +kernel
theorem dX5_leastHeight_13 : decode cX5_leastHeight 13 = .ok (.iload_n 1, 1) := by decide +kernel
theorem dX5_leastHeight_14 : decode cX5_leastHeight 14 = .ok (.if_icmp .ne 5, 3) := by decide +kernel
theorem dX5_leastHeight_17 : decode cX5_leastHeight 17 = .ok (.iload_n 2, 1) := by decide +kernel
theorem dX5_leastHeight_18 : decode cX5_leastHeight 18 = .ok (.ireturn, 1) := by decide +kernel
theorem dX5_leastHeight_19 : decode cX5_leastHeight 19 = .ok (.iinc 2 1, 3) := by decide +kernel
theorem dX5_leastHeight_22 : decode cX5_leastHeight 22 = .ok (.goto (-20), 3) := by decide +kernel
theorem dX5_leastHeight_25 : decode cX5_leastHeight 25 = .ok (.bipush (-6), 2) := by decide +kernel
theorem dX5_leastHeight_27 : decode cX5_leastHeight 27 = .ok (.ireturn, 1) := by decide +kernel
theorem dX5_greatestHeight_0 : decode cX5_greatestHeight 0 = .ok (.bipush 20, 2) := by decide +kernel
theorem dX5_greatestHeight_2 : decode cX5_greatestHeight 2 = .ok (.istore_n 2, 1) := by decide +kernel
theorem dX5_greatestHeight_3 : decode cX5_greatestHeight 3 = .ok (.iload_n 2, 1) := by decide +kernel
theorem dX5_greatestHeight_4 : decode cX5_greatestHeight 4 = .ok (.iconst 1, 1) := by decide +kernel
theorem dX5_greatestHeight_5 : decode cX5_greatestHeight 5 = .ok (.if_icmp .lt 20, 3) := by decide +kernel
theorem dX5_greatestHeight_8 : decode cX5_greatestHeight 8 = .ok (.aload_n 0, 1) := by decide +kernel
theorem dX5_greatestHeight_9 : decode cX5_greatestHeight 9 = .ok (.iload_n 2, 1) := by decide +kernel
theorem dX5_greatestHeight_10 : decode cX5_greatestHeight 10 = .ok (.invokevirtual 57, 3) := by decide +kernel
theorem dX5_greatestHeight_13 : decode cX5_greatestHeight 13 = .ok (.iload_n 1, 1) := by decide +kernel
theorem dX5_greatestHeight_14 : decode cX5_greatestHeight 14 = .ok (.if_icmp .ne 5, 3) := by decide +kernel
theorem dX5_greatestHeight_17 : decode cX5_greatestHeight 17 = .ok (.iload_n 2, 1) := by decide +kernel
theorem dX5_greatestHeight_18 : decode cX5_greatestHeight 18 = .ok (.ireturn, 1) := by decide +kernel
theorem dX5_greatestHeight_19 : decode cX5_greatestHeight 19 = .ok (.iinc 2 (-1), 3) := by decide +kernel
theorem dX5_greatestHeight_22 : decode cX5_greatestHeight 22 = .ok (.goto (-19), 3) := by decide +kernel
theorem dX5_greatestHeight_25 : decode cX5_greatestHeight 25 = .ok (.bipush (-6), 2) := by decide +kernel
theorem dX5_greatestHeight_27 : decode cX5_greatestHeight 27 = .ok (.ireturn, 1) := by decide +kernel
theorem dX5_isUnlike_0 : decode cX5_isUnlike 0 = .ok (.aload_n 0, 1) := by decide +kernel
theorem dX5_isUnlike_1 : decode cX5_isUnlike 1 = .ok (.iload_n 2, 1) := by decide +kernel
theorem dX5_isUnlike_2 : decode cX5_isUnlike 2 = .ok (.invokevirtual 93, 3) := by decide +kernel
theorem dX5_isUnlike_5 : decode cX5_isUnlike 5 = .ok (.ifCond .eq 28, 3) := by decide +kernel
theorem dX5_isUnlike_8 : decode cX5_isUnlike 8 = .ok (.aload_n 1, 1) := by decide +kernel
theorem dX5_isUnlike_9 : decode cX5_isUnlike 9 = .ok (.iload_n 2, 1) := by decide +kernel
theorem dX5_isUnlike_10 : decode cX5_isUnlike 10 = .ok (.invokevirtual 93, 3) := by decide +kernel
theorem dX5_isUnlike_13 : decode cX5_isUnlike 13 = .ok (.ifCond .eq 20, 3) := by decide +kernel
theorem dX5_isUnlike_16 : decode cX5_isUnlike 16 = .ok (.aload_n 0, 1) := by decide +kernel
theorem dX5_isUnlike_17 : decode cX5_isUnlike 17 = .ok (.iload_n 2, 1) := by decide +kernel
theorem dX5_isUnlike_18 : decode cX5_isUnlike 18 = .ok (.invokevirtual 96, 3) := by decide +kernel
theorem dX5_isUnlike_21 : decode cX5_isUnlike 21 = .ok (.aload_n 1, 1) := by decide +kernel
theorem dX5_isUnlike_22 : decode cX5_isUnlike 22 = .ok (.iload_n 2, 1) := by decide +kernel
theorem dX5_isUnlike_23 : decode cX5_isUnlike 23 = .ok (.invokevirtual 96, 3) := by decide +kernel
theorem dX5_isUnlike_26 : decode cX5_isUnlike 26 = .ok (.if_icmp .eq 7, 3) := by decide +kernel
theorem dX5_isUnlike_29 : decode cX5_isUnlike 29 = .ok (.iconst 1, 1) := by decide +kernel
theorem dX5_isUnlike_30 : decode cX5_isUnlike 30 = .ok (.goto 4, 3) := by decide +kernel
theorem dX5_isUnlike_33 : decode cX5_isUnlike 33 = .ok (.iconst 0, 1) := by decide +kernel
theorem dX5_isUnlike_34 : decode cX5_isUnlike 34 = .ok (.ireturn, 1) := by decide +kernel
theorem dX5_unlike_0 : decode cX5_unlike 0 = .ok (.iconst 0, 1) := by decide +kernel
theorem dX5_unlike_1 : decode cX5_unlike 1 = .ok (.istore_n 2, 1) := by decide +kernel
theorem dX5_unlike_2 : decode cX5_unlike 2 = .ok (.iconst 0, 1) := by decide +kernel
theorem dX5_unlike_3 : decode cX5_unlike 3 = .ok (.istore_n 3, 1) := by decide +kernel
theorem dX5_unlike_4 : decode cX5_unlike 4 = .ok (.iload_n 3, 1) := by decide +kernel
theorem dX5_unlike_5 : decode cX5_unlike 5 = .ok (.bipush 96, 2) := by decide +kernel
theorem dX5_unlike_7 : decode cX5_unlike 7 = .ok (.if_icmp .ge 21, 3) := by decide +kernel
theorem dX5_unlike_10 : decode cX5_unlike 10 = .ok (.aload_n 0, 1) := by decide +kernel
theorem dX5_unlike_11 : decode cX5_unlike 11 = .ok (.aload_n 1, 1) := by decide +kernel
theorem dX5_unlike_12 : decode cX5_unlike 12 = .ok (.iload_n 3, 1) := by decide +kernel
theorem dX5_unlike_13 : decode cX5_unlike 13 = .ok (.invokevirtual 102, 3) := by decide +kernel
theorem dX5_unlike_16 : decode cX5_unlike 16 = .ok (.ifCond .eq 6, 3) := by decide +kernel
theorem dX5_unlike_19 : decode cX5_unlike 19 = .ok (.iinc 2 1, 3) := by decide +kernel
theorem dX5_unlike_22 : decode cX5_unlike 22 = .ok (.iinc 3 1, 3) := by decide +kernel
theorem dX5_unlike_25 : decode cX5_unlike 25 = .ok (.goto (-21), 3) := by decide +kernel
theorem dX5_unlike_28 : decode cX5_unlike 28 = .ok (.iload_n 2, 1) := by decide +kernel
theorem dX5_unlike_29 : decode cX5_unlike 29 = .ok (.ireturn, 1) := by decide +kernel
theorem dX5_unlikeByHour_0 : decode cX5_unlikeByHour 0 = .ok (.iconst 0, 1) := by decide +kernel
theorem dX5_unlikeByHour_1 : decode cX5_unlikeByHour 1 = .ok (.istore_n 2, 1) := by decide +kernel
theorem dX5_unlikeByHour_2 : decode cX5_unlikeByHour 2 = .ok (.iconst 0, 1) := by decide +kernel
theorem dX5_unlikeByHour_3 : decode cX5_unlikeByHour 3 = .ok (.istore_n 3, 1) := by decide +kernel
theorem dX5_unlikeByHour_4 : decode cX5_unlikeByHour 4 = .ok (.iload_n 3, 1) := by decide +kernel
theorem dX5_unlikeByHour_5 : decode cX5_unlikeByHour 5 = .ok (.bipush 96, 2) := by decide +kernel
theorem dX5_unlikeByHour_7 : decode cX5_unlikeByHour 7 = .ok (.if_icmp .ge 53, 3) := by decide +kernel
theorem dX5_unlikeByHour_10 : decode cX5_unlikeByHour 10 = .ok (.aload_n 0, 1) := by decide +kernel
theorem dX5_unlikeByHour_11 : decode cX5_unlikeByHour 11 = .ok (.iload_n 3, 1) := by decide +kernel
theorem dX5_unlikeByHour_12 : decode cX5_unlikeByHour 12 = .ok (.invokevirtual 96, 3) := by decide +kernel
theorem dX5_unlikeByHour_15 : decode cX5_unlikeByHour 15 = .ok (.bipush 10, 2) := by decide +kernel
theorem dX5_unlikeByHour_17 : decode cX5_unlikeByHour 17 = .ok (.if_icmp .ge 17, 3) := by decide +kernel
theorem dX5_unlikeByHour_20 : decode cX5_unlikeByHour 20 = .ok (.aload_n 1, 1) := by decide +kernel
theorem dX5_unlikeByHour_21 : decode cX5_unlikeByHour 21 = .ok (.iload_n 3, 1) := by decide +kernel
theorem dX5_unlikeByHour_22 : decode cX5_unlikeByHour 22 = .ok (.invokevirtual 96, 3) := by decide +kernel
theorem dX5_unlikeByHour_25 : decode cX5_unlikeByHour 25 = .ok (.bipush 10, 2) := by decide +kernel
theorem dX5_unlikeByHour_27 : decode cX5_unlikeByHour 27 = .ok (.if_icmp .ge 7, 3) := by decide +kernel
theorem dX5_unlikeByHour_30 : decode cX5_unlikeByHour 30 = .ok (.iconst 1, 1) := by decide +kernel
theorem dX5_unlikeByHour_31 : decode cX5_unlikeByHour 31 = .ok (.goto 4, 3) := by decide +kernel
theorem dX5_unlikeByHour_34 : decode cX5_unlikeByHour 34 = .ok (.iconst 0, 1) := by decide +kernel
theorem dX5_unlikeByHour_35 : decode cX5_unlikeByHour 35 = .ok (.istore 4, 2) := by decide +kernel
theorem dX5_unlikeByHour_37 : decode cX5_unlikeByHour 37 = .ok (.iload 4, 2) := by decide +kernel
theorem dX5_unlikeByHour_39 : decode cX5_unlikeByHour 39 = .ok (.ifCond .eq 15, 3) := by decide +kernel
theorem dX5_unlikeByHour_42 : decode cX5_unlikeByHour 42 = .ok (.aload_n 0, 1) := by decide +kernel
theorem dX5_unlikeByHour_43 : decode cX5_unlikeByHour 43 = .ok (.aload_n 1, 1) := by decide +kernel
theorem dX5_unlikeByHour_44 : decode cX5_unlikeByHour 44 = .ok (.iload_n 3, 1) := by decide +kernel
theorem dX5_unlikeByHour_45 : decode cX5_unlikeByHour 45 = .ok (.invokevirtual 102, 3) := by decide +kernel
theorem dX5_unlikeByHour_48 : decode cX5_unlikeByHour 48 = .ok (.ifCond .eq 6, 3) := by decide +kernel
theorem dX5_unlikeByHour_51 : decode cX5_unlikeByHour 51 = .ok (.iinc 2 1, 3) := by decide +kernel
theorem dX5_unlikeByHour_54 : decode cX5_unlikeByHour 54 = .ok (.iinc 3 1, 3) := by decide +kernel
theorem dX5_unlikeByHour_57 : decode cX5_unlikeByHour 57 = .ok (.goto (-53), 3) := by decide +kernel
theorem dX5_unlikeByHour_60 : decode cX5_unlikeByHour 60 = .ok (.iload_n 2, 1) := by decide +kernel
theorem dX5_unlikeByHour_61 : decode cX5_unlikeByHour 61 = .ok (.ireturn, 1) := by decide +kernel
theorem dX5_firstUnlike_0 : decode cX5_firstUnlike 0 = .ok (.iconst 0, 1) := by decide +kernel
theorem dX5_firstUnlike_1 : decode cX5_firstUnlike 1 = .ok (.istore_n 2, 1) := by decide +kernel
theorem dX5_firstUnlike_2 : decode cX5_firstUnlike 2 = .ok (.iload_n 2, 1) := by decide +kernel
theorem dX5_firstUnlike_3 : decode cX5_firstUnlike 3 = .ok (.bipush 96, 2) := by decide +kernel
theorem dX5_firstUnlike_5 : decode cX5_firstUnlike 5 = .ok (.if_icmp .ge 20, 3) := by decide +kernel
theorem dX5_firstUnlike_8 : decode cX5_firstUnlike 8 = .ok (.aload_n 0, 1) := by decide +kernel
theorem dX5_firstUnlike_9 : decode cX5_firstUnlike 9 = .ok (.aload_n 1, 1) := by decide +kernel
theorem dX5_firstUnlike_10 : decode cX5_firstUnlike 10 = .ok (.iload_n 2, 1) := by decide +kernel
theorem dX5_firstUnlike_11 : decode cX5_firstUnlike 11 = .ok (.invokevirtual 102, 3) := by decide +kernel
theorem dX5_firstUnlike_14 : decode cX5_firstUnlike 14 = .ok (.ifCond .eq 5, 3) := by decide +kernel
theorem dX5_firstUnlike_17 : decode cX5_firstUnlike 17 = .ok (.iload_n 2, 1) := by decide +kernel
theorem dX5_firstUnlike_18 : decode cX5_firstUnlike 18 = .ok (.ireturn, 1) := by decide +kernel
theorem dX5_firstUnlike_19 : decode cX5_firstUnlike 19 = .ok (.iinc 2 1, 3) := by decide +kernel
theorem dX5_firstUnlike_22 : decode cX5_firstUnlike 22 = .ok (.goto (-20), 3) := by decide +kernel
theorem dX5_firstUnlike_25 : decode cX5_firstUnlike 25 = .ok (.bipush (-6), 2) := by decide +kernel
theorem dX5_firstUnlike_27 : decode cX5_firstUnlike 27 = .ok (.ireturn, 1) := by decide +kernel
theorem dX6_init_0 : decode cX6_init 0 = .ok (.aload_n 0, 1) := by decide +kernel
theorem dX6_init_1 : decode cX6_init 1 = .ok (.invokespecial 3, 3) := by decide +kernel
theorem dX6_init_4 : decode cX6_init 4 = .ok (.aload_n 0, 1) := by decide +kernel
theorem dX6_init_5 : decode cX6_init 5 = .ok (.new 9, 3) := by decide +kernel
theorem dX6_init_8 : decode cX6_init 8 = .ok (.dup, 1) := by decide +kernel
theorem dX6_init_9 : decode cX6_init 9 = .ok (.invokespecial 11, 3) := by decide +kernel
theorem dX6_init_12 : decode cX6_init 12 = .ok (.putfield 12, 3) := by decide +kernel
theorem dX6_init_15 : decode cX6_init 15 = .ok (.aload_n 0, 1) := by decide +kernel
theorem dX6_init_16 : decode cX6_init 16 = .ok (.iload_n 1, 1) := by decide +kernel
theorem dX6_init_17 : decode cX6_init 17 = .ok (.putfield 18, 3) := by decide +kernel
theorem dX6_init_20 : decode cX6_init 20 = .ok (.aload_n 0, 1) := by decide +kernel
theorem dX6_init_21 : decode cX6_init 21 = .ok (.aload_n 2, 1) := by decide +kernel
theorem dX6_init_22 : decode cX6_init 22 = .ok (.putfield 22, 3) := by decide +kernel
theorem dX6_init_25 : decode cX6_init 25 = .ok (.return_, 1) := by decide +kernel
theorem dX6_number_0 : decode cX6_number 0 = .ok (.aload_n 0, 1) := by decide +kernel
theorem dX6_number_1 : decode cX6_number 1 = .ok (.getfield 18, 3) := by decide +kernel
theorem dX6_number_4 : decode cX6_number 4 = .ok (.ireturn, 1) := by decide +kernel
theorem dX6_mark_0 : decode cX6_mark 0 = .ok (.iload_n 1, 1) := by decide +kernel
theorem dX6_mark_1 : decode cX6_mark 1 = .ok (.ifCond .lt 21, 3) := by decide +kernel
theorem dX6_mark_4 : decode cX6_mark 4 = .ok (.iload_n 1, 1) := by decide +kernel
theorem dX6_mark_5 : decode cX6_mark 5 = .ok (.aload_n 0, 1) := by decide +kernel
theorem dX6_mark_6 : decode cX6_mark 6 = .ok (.getfield 22, 3) := by decide +kernel
theorem dX6_mark_9 : decode cX6_mark 9 = .ok (.arraylength, 1) := by decide +kernel
theorem dX6_mark_10 : decode cX6_mark 10 = .ok (.if_icmp .ge 12, 3) := by decide +kernel
theorem dX6_mark_13 : decode cX6_mark 13 = .ok (.aload_n 0, 1) := by decide +kernel
theorem dX6_mark_14 : decode cX6_mark 14 = .ok (.getfield 22, 3) := by decide +kernel
theorem dX6_mark_17 : decode cX6_mark 17 = .ok (.iload_n 1, 1) := by decide +kernel
theorem dX6_mark_18 : decode cX6_mark 18 = .ok (.iaload, 1) := by decide +kernel
theorem dX6_mark_19 : decode cX6_mark 19 = .ok (.goto 5, 3) := by decide +kernel
theorem dX6_mark_22 : decode cX6_mark 22 = .ok (.bipush (-6), 2) := by decide +kernel
theorem dX6_mark_24 : decode cX6_mark 24 = .ok (.ireturn, 1) := by decide +kernel
theorem dX6_remark_0 : decode cX6_remark 0 = .ok (.iload_n 1, 1) := by decide +kernel
theorem dX6_remark_1 : decode cX6_remark 1 = .ok (.ifCond .lt 19, 3) := by decide +kernel
theorem dX6_remark_4 : decode cX6_remark 4 = .ok (.iload_n 1, 1) := by decide +kernel
theorem dX6_remark_5 : decode cX6_remark 5 = .ok (.aload_n 0, 1) := by decide +kernel
theorem dX6_remark_6 : decode cX6_remark 6 = .ok (.getfield 22, 3) := by decide +kernel
theorem dX6_remark_9 : decode cX6_remark 9 = .ok (.arraylength, 1) := by decide +kernel
theorem dX6_remark_10 : decode cX6_remark 10 = .ok (.if_icmp .ge 10, 3) := by decide +kernel
theorem dX6_remark_13 : decode cX6_remark 13 = .ok (.aload_n 0, 1) := by decide +kernel
theorem dX6_remark_14 : decode cX6_remark 14 = .ok (.getfield 22, 3) := by decide +kernel
theorem dX6_remark_17 : decode cX6_remark 17 = .ok (.iload_n 1, 1) := by decide +kernel
theorem dX6_remark_18 : decode cX6_remark 18 = .ok (.iload_n 2, 1) := by decide +kernel
theorem dX6_remark_19 : decode cX6_remark 19 = .ok (.iastore, 1) := by decide +kernel
theorem dX6_remark_20 : decode cX6_remark 20 = .ok (.return_, 1) := by decide +kernel
theorem dX6_isThere_0 : decode cX6_isThere 0 = .ok (.iload_n 1, 1) := by decide +kernel
theorem dX6_isThere_1 : decode cX6_isThere 1 = .ok (.aload_n 0, 1) := by decide +kernel
theorem dX6_isThere_2 : decode cX6_isThere 2 = .ok (.bipush 6, 2) := by decide +kernel
theorem dX6_isThere_4 : decode cX6_isThere 4 = .ok (.invokevirtual 26, 3) := by decide +kernel
theorem dX6_isThere_7 : decode cX6_isThere 7 = .ok (.aload_n 0, 1) := by decide +kernel
theorem dX6_isThere_8 : decode cX6_isThere 8 = .ok (.bipush 7, 2) := by decide +kernel
theorem dX6_isThere_10 : decode cX6_isThere 10 = .ok (.invokevirtual 26, 3) := by decide +kernel
theorem dX6_isThere_13 : decode cX6_isThere 13 = .ok (.invokestatic 30, 3) := by decide +kernel
theorem dX6_isThere_16 : decode cX6_isThere 16 = .ok (.ireturn, 1) := by decide +kernel
theorem dX6_liesOn_0 : decode cX6_liesOn 0 = .ok (.iload_n 1, 1) := by decide +kernel
theorem dX6_liesOn_1 : decode cX6_liesOn 1 = .ok (.aload_n 0, 1) := by decide +kernel
theorem dX6_liesOn_2 : decode cX6_liesOn 2 = .ok (.iconst 0, 1) := by decide +kernel
theorem dX6_liesOn_3 : decode cX6_liesOn 3 = .ok (.invokevirtual 26, 3) := by decide +kernel
theorem dX6_liesOn_6 : decode cX6_liesOn 6 = .ok (.isub, 1) := by decide +kernel
theorem dX6_liesOn_7 : decode cX6_liesOn 7 = .ok (.istore_n 3, 1) := by decide +kernel
theorem dX6_liesOn_8 : decode cX6_liesOn 8 = .ok (.iload_n 2, 1) := by decide +kernel
theorem dX6_liesOn_9 : decode cX6_liesOn 9 = .ok (.aload_n 0, 1) := by decide +kernel
theorem dX6_liesOn_10 : decode cX6_liesOn 10 = .ok (.iconst 1, 1) := by decide +kernel
theorem dX6_liesOn_11 : decode cX6_liesOn 11 = .ok (.invokevirtual 26, 3) := by decide +kernel
theorem dX6_liesOn_14 : decode cX6_liesOn 14 = .ok (.isub, 1) := by decide +kernel
theorem dX6_liesOn_15 : decode cX6_liesOn 15 = .ok (.istore 4, 2) := by decide +kernel
theorem dX6_liesOn_17 : decode cX6_liesOn 17 = .ok (.iload_n 3, 1) := by decide +kernel
theorem dX6_liesOn_18 : decode cX6_liesOn 18 = .ok (.iconst 0, 1) := by decide +kernel
theorem dX6_liesOn_19 : decode cX6_liesOn 19 = .ok (.aload_n 0, 1) := by decide +kernel
theorem dX6_liesOn_20 : decode cX6_liesOn 20 = .ok (.iconst 2, 1) := by decide +kernel
theorem dX6_liesOn_21 : decode cX6_liesOn 21 = .ok (.invokevirtual 26, 3) := by decide +kernel
theorem dX6_liesOn_24 : decode cX6_liesOn 24 = .ok (.iconst 1, 1) := by decide +kernel
theorem dX6_liesOn_25 : decode cX6_liesOn 25 = .ok (.isub, 1) := by decide +kernel
theorem dX6_liesOn_26 : decode cX6_liesOn 26 = .ok (.invokestatic 30, 3) := by decide +kernel
theorem dX6_liesOn_29 : decode cX6_liesOn 29 = .ok (.ifCond .eq 23, 3) := by decide +kernel
theorem dX6_liesOn_32 : decode cX6_liesOn 32 = .ok (.iload 4, 2) := by decide +kernel
theorem dX6_liesOn_34 : decode cX6_liesOn 34 = .ok (.iconst 0, 1) := by decide +kernel
theorem dX6_liesOn_35 : decode cX6_liesOn 35 = .ok (.aload_n 0, 1) := by decide +kernel
theorem dX6_liesOn_36 : decode cX6_liesOn 36 = .ok (.iconst 3, 1) := by decide +kernel
theorem dX6_liesOn_37 : decode cX6_liesOn 37 = .ok (.invokevirtual 26, 3) := by decide +kernel
theorem dX6_liesOn_40 : decode cX6_liesOn 40 = .ok (.iconst 1, 1) := by decide +kernel
theorem dX6_liesOn_41 : decode cX6_liesOn 41 = .ok (.isub, 1) := by decide +kernel
theorem dX6_liesOn_42 : decode cX6_liesOn 42 = .ok (.invokestatic 30, 3) := by decide +kernel
theorem dX6_liesOn_45 : decode cX6_liesOn 45 = .ok (.ifCond .eq 7, 3) := by decide +kernel
theorem dX6_liesOn_48 : decode cX6_liesOn 48 = .ok (.iconst 1, 1) := by decide +kernel
theorem dX6_liesOn_49 : decode cX6_liesOn 49 = .ok (.goto 4, 3) := by decide +kernel
theorem dX6_liesOn_52 : decode cX6_liesOn 52 = .ok (.iconst 0, 1) := by decide +kernel
theorem dX6_liesOn_53 : decode cX6_liesOn 53 = .ok (.ireturn, 1) := by decide +kernel
theorem dX6_isAbove_0 : decode cX6_isAbove 0 = .ok (.aload_n 1, 1) := by decide +kernel
theorem dX6_isAbove_1 : decode cX6_isAbove 1 = .ok (.ifnull 16, 3) := by decide +kernel
theorem dX6_isAbove_4 : decode cX6_isAbove 4 = .ok (.aload_n 0, 1) := by decide +kernel
theorem dX6_isAbove_5 : decode cX6_isAbove 5 = .ok (.iconst 4, 1) := by decide +kernel
theorem dX6_isAbove_6 : decode cX6_isAbove 6 = .ok (.invokevirtual 26, 3) := by decide +kernel
theorem dX6_isAbove_9 : decode cX6_isAbove 9 = .ok (.aload_n 1, 1) := by decide +kernel
theorem dX6_isAbove_10 : decode cX6_isAbove 10 = .ok (.iconst 4, 1) := by decide +kernel
theorem dX6_isAbove_11 : decode cX6_isAbove 11 = .ok (.invokevirtual 26, 3) := by decide +kernel
theorem dX6_isAbove_14 : decode cX6_isAbove 14 = .ok (.if_icmp .le 7, 3) := by decide +kernel
theorem dX6_isAbove_17 : decode cX6_isAbove 17 = .ok (.iconst 1, 1) := by decide +kernel
theorem dX6_isAbove_18 : decode cX6_isAbove 18 = .ok (.goto 4, 3) := by decide +kernel
theorem dX6_isAbove_21 : decode cX6_isAbove 21 = .ok (.iconst 0, 1) := by decide +kernel
theorem dX6_isAbove_22 : decode cX6_isAbove 22 = .ok (.ireturn, 1) := by decide +kernel
theorem dX6_hasLine_0 : decode cX6_hasLine 0 = .ok (.aload_n 0, 1) := by decide +kernel
theorem dX6_hasLine_1 : decode cX6_hasLine 1 = .ok (.bipush 8, 2) := by decide +kernel
theorem dX6_hasLine_3 : decode cX6_hasLine 3 = .ok (.invokevirtual 26, 3) := by decide +kernel
theorem dX6_hasLine_6 : decode cX6_hasLine 6 = .ok (.bipush 8, 2) := by decide +kernel
theorem dX6_hasLine_8 : decode cX6_hasLine 8 = .ok (.if_icmp .eq 15, 3) := by decide +kernel
theorem dX6_hasLine_11 : decode cX6_hasLine 11 = .ok (.aload_n 0, 1) := by decide +kernel
theorem dX6_hasLine_12 : decode cX6_hasLine 12 = .ok (.iload_n 1, 1) := by decide +kernel
theorem dX6_hasLine_13 : decode cX6_hasLine 13 = .ok (.invokevirtual 34, 3) := by decide +kernel
theorem dX6_hasLine_16 : decode cX6_hasLine 16 = .ok (.ifCond .eq 7, 3) := by decide +kernel
theorem dX6_hasLine_19 : decode cX6_hasLine 19 = .ok (.iconst 1, 1) := by decide +kernel
theorem dX6_hasLine_20 : decode cX6_hasLine 20 = .ok (.goto 4, 3) := by decide +kernel
theorem dX6_hasLine_23 : decode cX6_hasLine 23 = .ok (.iconst 0, 1) := by decide +kernel
theorem dX6_hasLine_24 : decode cX6_hasLine 24 = .ok (.ireturn, 1) := by decide +kernel
theorem dX6_distance_0 : decode cX6_distance 0 = .ok (.iload_n 1, 1) := by decide +kernel
theorem dX6_distance_1 : decode cX6_distance 1 = .ok (.aload_n 0, 1) := by decide +kernel
theorem dX6_distance_2 : decode cX6_distance 2 = .ok (.iconst 0, 1) := by decide +kernel
theorem dX6_distance_3 : decode cX6_distance 3 = .ok (.invokevirtual 26, 3) := by decide +kernel
theorem dX6_distance_6 : decode cX6_distance 6 = .ok (.isub, 1) := by decide +kernel
theorem dX6_distance_7 : decode cX6_distance 7 = .ok (.invokestatic 38, 3) := by decide +kernel
theorem dX6_distance_10 : decode cX6_distance 10 = .ok (.iload_n 2, 1) := by decide +kernel
theorem dX6_distance_11 : decode cX6_distance 11 = .ok (.aload_n 0, 1) := by decide +kernel
theorem dX6_distance_12 : decode cX6_distance 12 = .ok (.iconst 1, 1) := by decide +kernel
theorem dX6_distance_13 : decode cX6_distance 13 = .ok (.invokevirtual 26, 3) := by decide +kernel
theorem dX6_distance_16 : decode cX6_distance 16 = .ok (.isub, 1) := by decide +kernel
theorem dX6_distance_17 : decode cX6_distance 17 = .ok (.invokestatic 38, 3) := by decide +kernel
theorem dX6_distance_20 : decode cX6_distance 20 = .ok (.iadd, 1) := by decide +kernel
theorem dX6_distance_21 : decode cX6_distance 21 = .ok (.ireturn, 1) := by decide +kernel
theorem dX6_tickDoing_0 : decode cX6_tickDoing 0 = .ok (.aload_n 0, 1) := by decide +kernel
theorem dX6_tickDoing_1 : decode cX6_tickDoing 1 = .ok (.getfield 12, 3) := by decide +kernel
theorem dX6_tickDoing_4 : decode cX6_tickDoing 4 = .ok (.iload_n 1, 1) := by decide +kernel
theorem dX6_tickDoing_5 : decode cX6_tickDoing 5 = .ok (.iload_n 2, 1) := by decide +kernel
theorem dX6_tickDoing_6 : decode cX6_tickDoing 6 = .ok (.invokevirtual 43, 3) := by decide +kernel
theorem dX6_tickDoing_9 : decode cX6_tickDoing 9 = .ok (.ireturn, 1) := by decide +kernel
theorem dX6_daysWithout_0 : decode cX6_daysWithout 0 = .ok (.iconst 0, 1) := by decide +kernel
theorem dX6_daysWithout_1 : decode cX6_daysWithout 1 = .ok (.istore_n 3, 1) := by decide +kernel
theorem dX6_daysWithout_2 : decode cX6_daysWithout 2 = .ok (.iload_n 1, 1) := by decide +kernel
theorem dX6_daysWithout_3 : decode cX6_daysWithout 3 = .ok (.istore 4, 2) := by decide +kernel
theorem dX6_daysWithout_5 : decode cX6_daysWithout 5 = .ok (.iload 4, 2) := by decide +kernel
theorem dX6_daysWithout_7 : decode cX6_daysWithout 7 = .ok (.iload_n 2, 1) := by decide +kernel
theorem dX6_daysWithout_8 : decode cX6_daysWithout 8 = .ok (.if_icmp .gt 24, 3) := by decide +kernel
theorem dX6_daysWithout_11 : decode cX6_daysWithout 11 = .ok (.aload_n 0, 1) := by decide +kernel
theorem dX6_daysWithout_12 : decode cX6_daysWithout 12 = .ok (.getfield 12, 3) := by decide +kernel
theorem dX6_daysWithout_15 : decode cX6_daysWithout 15 = .ok (.iload 4, 2) := by decide +kernel
theorem dX6_daysWithout_17 : decode cX6_daysWithout 17 = .ok (.invokevirtual 47, 3) := by decide +kernel
theorem dX6_daysWithout_20 : decode cX6_daysWithout 20 = .ok (.ifCond .ne 6, 3) := by decide +kernel
theorem dX6_daysWithout_23 : decode cX6_daysWithout 23 = .ok (.iinc 3 1, 3) := by decide +kernel
theorem dX6_daysWithout_26 : decode cX6_daysWithout 26 = .ok (.iinc 4 1, 3) := by decide +kernel
theorem dX6_daysWithout_29 : decode cX6_daysWithout 29 = .ok (.goto (-24), 3) := by decide +kernel
theorem dX6_daysWithout_32 : decode cX6_daysWithout 32 = .ok (.iload_n 3, 1) := by decide +kernel
theorem dX6_daysWithout_33 : decode cX6_daysWithout 33 = .ok (.ireturn, 1) := by decide +kernel
theorem dX7_init_0 : decode cX7_init 0 = .ok (.aload_n 0, 1) := by decide +kernel
theorem dX7_init_1 : decode cX7_init 1 = .ok (.invokespecial 1, 3) := by decide +kernel
theorem dX7_init_4 : decode cX7_init 4 = .ok (.return_, 1) := by decide +kernel
theorem dX7_has_0 : decode cX7_has 0 = .ok (.iload_n 1, 1) := by decide +kernel
theorem dX7_has_1 : decode cX7_has 1 = .ok (.ifCond .lt 9, 3) := by decide +kernel
theorem dX7_has_4 : decode cX7_has 4 = .ok (.iload_n 1, 1) := by decide +kernel
theorem dX7_has_5 : decode cX7_has 5 = .ok (.bipush 127, 2) := by decide +kernel
theorem dX7_has_7 : decode cX7_has 7 = .ok (.if_icmp .le 5, 3) := by decide +kernel
theorem dX7_has_10 : decode cX7_has 10 = .ok (.iconst 0, 1) := by decide +kernel
theorem dX7_has_11 : decode cX7_has 11 = .ok (.ireturn, 1) := by decide +kernel
theorem dX7_has_12 : decode cX7_has 12 = .ok (.iload_n 1, 1) := by decide +kernel
theorem dX7_has_13 : decode cX7_has 13 = .ok (.bipush 64, 2) := by decide +kernel
theorem dX7_has_15 : decode cX7_has 15 = .ok (.if_icmp .ge 10, 3) := by decide +kernel
