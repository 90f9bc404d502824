theorem dX7_has_18 : decode cX7_has 18 = .ok (.aload_n 0, 1) := by decide +kernel
theorem dX7_has_19 : decode cX7_has 19 = .ok (.getfield 7, 3) := by decide +kernel
theorem dX7_has_22 : decode cX7_has 22 = .ok (.goto 7, 3) := by decide +kernel
theorem dX7_has_25 : decode cX7_has 25 = .ok (.aload_n 0, 1) := by decide +kernel
theorem dX7_has_26 : decode cX7_has 26 = .ok (.getfield 13, 3) := by decide +kernel
theorem dX7_has_29 : decode cX7_has 29 = .ok (.lstore_n 2, 1) := by decide +kernel
theorem dX7_has_30 : decode cX7_has 30 = .ok (.lload_n 2, 1) := by decide +kernel
theorem dX7_has_31 : decode cX7_has 31 = .ok (.iload_n 1, 1) := by decide +kernel
theorem dX7_has_32 : decode cX7_has 32 = .ok (.bipush 63, 2) := by decide +kernel
theorem dX7_has_34 : decode cX7_has 34 = .ok (.iand, 1) := by decide +kernel
theorem dX7_has_35 : decode cX7_has 35 = .ok (.lushr, 1) := by decide +kernel
theorem dX7_has_36 : decode cX7_has 36 = .ok (.lconst 1, 1) := by decide +kernel
theorem dX7_has_37 : decode cX7_has 37 = .ok (.land, 1) := by decide +kernel
theorem dX7_has_38 : decode cX7_has 38 = .ok (.lconst 1, 1) := by decide +kernel
theorem dX7_has_39 : decode cX7_has 39 = .ok (.lcmp, 1) := by decide +kernel
theorem dX7_has_40 : decode cX7_has 40 = .ok (.ifCond .ne 7, 3) := by decide +kernel
theorem dX7_has_43 : decode cX7_has 43 = .ok (.iconst 1, 1) := by decide +kernel
theorem dX7_has_44 : decode cX7_has 44 = .ok (.goto 4, 3) := by decide +kernel
theorem dX7_has_47 : decode cX7_has 47 = .ok (.iconst 0, 1) := by decide +kernel
theorem dX7_has_48 : decode cX7_has 48 = .ok (.ireturn, 1) := by decide +kernel
theorem dX7_put_0 : decode cX7_put 0 = .ok (.aload_n 0, 1) := by decide +kernel
theorem dX7_put_1 : decode cX7_put 1 = .ok (.iload_n 1, 1) := by decide +kernel
theorem dX7_put_2 : decode cX7_put 2 = .ok (.invokevirtual 16, 3) := by decide +kernel
theorem dX7_put_5 : decode cX7_put 5 = .ok (.istore_n 3, 1) := by decide +kernel
theorem dX7_put_6 : decode cX7_put 6 = .ok (.iload_n 3, 1) := by decide +kernel
theorem dX7_put_7 : decode cX7_put 7 = .ok (.iload_n 2, 1) := by decide +kernel
theorem dX7_put_8 : decode cX7_put 8 = .ok (.if_icmp .eq 13, 3) := by decide +kernel
theorem dX7_put_11 : decode cX7_put 11 = .ok (.iload_n 1, 1) := by decide +kernel
theorem dX7_put_12 : decode cX7_put 12 = .ok (.ifCond .lt 9, 3) := by decide +kernel
theorem dX7_put_15 : decode cX7_put 15 = .ok (.iload_n 1, 1) := by decide +kernel
theorem dX7_put_16 : decode cX7_put 16 = .ok (.bipush 127, 2) := by decide +kernel
theorem dX7_put_18 : decode cX7_put 18 = .ok (.if_icmp .le 5, 3) := by decide +kernel
theorem dX7_put_21 : decode cX7_put 21 = .ok (.iload_n 3, 1) := by decide +kernel
theorem dX7_put_22 : decode cX7_put 22 = .ok (.ireturn, 1) := by decide +kernel
theorem dX7_put_23 : decode cX7_put 23 = .ok (.lconst 1, 1) := by decide +kernel
theorem dX7_put_24 : decode cX7_put 24 = .ok (.iload_n 1, 1) := by decide +kernel
theorem dX7_put_25 : decode cX7_put 25 = .ok (.bipush 63, 2) := by decide +kernel
theorem dX7_put_27 : decode cX7_put 27 = .ok (.iand, 1) := by decide +kernel
theorem dX7_put_28 : decode cX7_put 28 = .ok (.lshl, 1) := by decide +kernel
theorem dX7_put_29 : decode cX7_put 29 = .ok (.lstore 4, 2) := by decide +kernel
theorem dX7_put_31 : decode cX7_put 31 = .ok (.iload_n 1, 1) := by decide +kernel
theorem dX7_put_32 : decode cX7_put 32 = .ok (.bipush 64, 2) := by decide +kernel
theorem dX7_put_34 : decode cX7_put 34 = .ok (.if_icmp .ge 17, 3) := by decide +kernel
theorem dX7_put_37 : decode cX7_put 37 = .ok (.aload_n 0, 1) := by decide +kernel
theorem dX7_put_38 : decode cX7_put 38 = .ok (.dup, 1) := by decide +kernel
theorem dX7_put_39 : decode cX7_put 39 = .ok (.getfield 7, 3) := by decide +kernel
theorem dX7_put_42 : decode cX7_put 42 = .ok (.lload 4, 2) := by decide +kernel
theorem dX7_put_44 : decode cX7_put 44 = .ok (.lxor, 1) := by decide +kernel
theorem dX7_put_45 : decode cX7_put 45 = .ok (.putfield 7, 3) := by decide +kernel
theorem dX7_put_48 : decode cX7_put 48 = .ok (.goto 14, 3) := by decide +kernel
theorem dX7_put_51 : decode cX7_put 51 = .ok (.aload_n 0, 1) := by decide +kernel
theorem dX7_put_52 : decode cX7_put 52 = .ok (.dup, 1) := by decide +kernel
theorem dX7_put_53 : decode cX7_put 53 = .ok (.getfield 13, 3) := by decide +kernel
theorem dX7_put_56 : decode cX7_put 56 = .ok (.lload 4, 2) := by decide +kernel
theorem dX7_put_58 : decode cX7_put 58 = .ok (.lxor, 1) := by decide +kernel
theorem dX7_put_59 : decode cX7_put 59 = .ok (.putfield 13, 3) := by decide +kernel
theorem dX7_put_62 : decode cX7_put 62 = .ok (.iload_n 3, 1) := by decide +kernel
theorem dX7_put_63 : decode cX7_put 63 = .ok (.ireturn, 1) := by decide +kernel
theorem dX8_init_0 : decode cX8_init 0 = .ok (.aload_n 0, 1) := by decide +kernel
theorem dX8_init_1 : decode cX8_init 1 = .ok (.invokespecial 3, 3) := by decide +kernel
theorem dX8_init_4 : decode cX8_init 4 = .ok (.aload_n 0, 1) := by decide +kernel
theorem dX8_init_5 : decode cX8_init 5 = .ok (.bipush 40, 2) := by decide +kernel
theorem dX8_init_7 : decode cX8_init 7 = .ok (.newarray .int, 2) := by decide +kernel
theorem dX8_init_9 : decode cX8_init 9 = .ok (.putfield 11, 3) := by decide +kernel
theorem dX8_init_12 : decode cX8_init 12 = .ok (.aload_n 0, 1) := by decide +kernel
theorem dX8_init_13 : decode cX8_init 13 = .ok (.iconst 5, 1) := by decide +kernel
theorem dX8_init_14 : decode cX8_init 14 = .ok (.bipush 40, 2) := by decide +kernel
theorem dX8_init_16 : decode cX8_init 16 = .ok (.multianewarray 15 2, 4) := by decide +kernel
theorem dX8_init_20 : decode cX8_init 20 = .ok (.putfield 17, 3) := by decide +kernel
theorem dX8_init_23 : decode cX8_init 23 = .ok (.aload_n 0, 1) := by decide +kernel
theorem dX8_init_24 : decode cX8_init 24 = .ok (.iconst 5, 1) := by decide +kernel
theorem dX8_init_25 : decode cX8_init 25 = .ok (.newarray .int, 2) := by decide +kernel
theorem dX8_init_27 : decode cX8_init 27 = .ok (.putfield 20, 3) := by decide +kernel
theorem dX8_init_30 : decode cX8_init 30 = .ok (.return_, 1) := by decide +kernel
theorem dX8_signs_0 : decode cX8_signs 0 = .ok (.aload_n 0, 1) := by decide +kernel
theorem dX8_signs_1 : decode cX8_signs 1 = .ok (.getfield 23, 3) := by decide +kernel
theorem dX8_signs_4 : decode cX8_signs 4 = .ok (.ireturn, 1) := by decide +kernel
theorem dX8_append_0 : decode cX8_append 0 = .ok (.aload_n 0, 1) := by decide +kernel
theorem dX8_append_1 : decode cX8_append 1 = .ok (.getfield 23, 3) := by decide +kernel
theorem dX8_append_4 : decode cX8_append 4 = .ok (.bipush 40, 2) := by decide +kernel
theorem dX8_append_6 : decode cX8_append 6 = .ok (.if_icmp .lt 6, 3) := by decide +kernel
theorem dX8_append_9 : decode cX8_append 9 = .ok (.bipush (-4), 2) := by decide +kernel
theorem dX8_append_11 : decode cX8_append 11 = .ok (.ireturn, 1) := by decide +kernel
theorem dX8_append_12 : decode cX8_append 12 = .ok (.aload_n 0, 1) := by decide +kernel
theorem dX8_append_13 : decode cX8_append 13 = .ok (.getfield 11, 3) := by decide +kernel
theorem dX8_append_16 : decode cX8_append 16 = .ok (.aload_n 0, 1) := by decide +kernel
theorem dX8_append_17 : decode cX8_append 17 = .ok (.getfield 23, 3) := by decide +kernel
theorem dX8_append_20 : decode cX8_append 20 = .ok (.iload_n 1, 1) := by decide +kernel
theorem dX8_append_21 : decode cX8_append 21 = .ok (.iastore, 1) := by decide +kernel
theorem dX8_append_22 : decode cX8_append 22 = .ok (.aload_n 0, 1) := by decide +kernel
theorem dX8_append_23 : decode cX8_append 23 = .ok (.dup, 1) := by decide +kernel
theorem dX8_append_24 : decode cX8_append 24 = .ok (.getfield 23, 3) := by decide +kernel
theorem dX8_append_27 : decode cX8_append 27 = .ok (.iconst 1, 1) := by decide +kernel
theorem dX8_append_28 : decode cX8_append 28 = .ok (.iadd, 1) := by decide +kernel
theorem dX8_append_29 : decode cX8_append 29 = .ok (.putfield 23, 3) := by decide +kernel
theorem dX8_append_32 : decode cX8_append 32 = .ok (.aload_n 0, 1) := by decide +kernel
theorem dX8_append_33 : decode cX8_append 33 = .ok (.getfield 23, 3) := by decide +kernel
theorem dX8_append_36 : decode cX8_append 36 = .ok (.ireturn, 1) := by decide +kernel
theorem dX8_clear_0 : decode cX8_clear 0 = .ok (.aload_n 0, 1) := by decide +kernel
theorem dX8_clear_1 : decode cX8_clear 1 = .ok (.getfield 23, 3) := by decide +kernel
theorem dX8_clear_4 : decode cX8_clear 4 = .ok (.istore_n 1, 1) := by decide +kernel
theorem dX8_clear_5 : decode cX8_clear 5 = .ok (.aload_n 0, 1) := by decide +kernel
theorem dX8_clear_6 : decode cX8_clear 6 = .ok (.iconst 0, 1) := by decide +kernel
theorem dX8_clear_7 : decode cX8_clear 7 = .ok (.putfield 23, 3) := by decide +kernel
theorem dX8_clear_10 : decode cX8_clear 10 = .ok (.iload_n 1, 1) := by decide +kernel
theorem dX8_clear_11 : decode cX8_clear 11 = .ok (.ireturn, 1) := by decide +kernel
theorem dX8_firstFault_0 : decode cX8_firstFault 0 = .ok (.iconst 0, 1) := by decide +kernel
theorem dX8_firstFault_1 : decode cX8_firstFault 1 = .ok (.istore_n 1, 1) := by decide +kernel
theorem dX8_firstFault_2 : decode cX8_firstFault 2 = .ok (.iconst 0, 1) := by decide +kernel
theorem dX8_firstFault_3 : decode cX8_firstFault 3 = .ok (.istore_n 2, 1) := by decide +kernel
theorem dX8_firstFault_4 : decode cX8_firstFault 4 = .ok (.iload_n 2, 1) := by decide +kernel
theorem dX8_firstFault_5 : decode cX8_firstFault 5 = .ok (.aload_n 0, 1) := by decide +kernel
theorem dX8_firstFault_6 : decode cX8_firstFault 6 = .ok (.getfield 23, 3) := by decide +kernel
theorem dX8_firstFault_9 : decode cX8_firstFault 9 = .ok (.if_icmp .ge 34, 3) := by decide +kernel
theorem dX8_firstFault_12 : decode cX8_firstFault 12 = .ok (.iload_n 2, 1) := by decide +kernel
theorem dX8_firstFault_13 : decode cX8_firstFault 13 = .ok (.bipush 40, 2) := by decide +kernel
theorem dX8_firstFault_15 : decode cX8_firstFault 15 = .ok (.if_icmp .ge 28, 3) := by decide +kernel
theorem dX8_firstFault_18 : decode cX8_firstFault 18 = .ok (.iload_n 1, 1) := by decide +kernel
theorem dX8_firstFault_19 : decode cX8_firstFault 19 = .ok (.aload_n 0, 1) := by decide +kernel
theorem dX8_firstFault_20 : decode cX8_firstFault 20 = .ok (.getfield 11, 3) := by decide +kernel
theorem dX8_firstFault_23 : decode cX8_firstFault 23 = .ok (.iload_n 2, 1) := by decide +kernel
theorem dX8_firstFault_24 : decode cX8_firstFault 24 = .ok (.iaload, 1) := by decide +kernel
theorem dX8_firstFault_25 : decode cX8_firstFault 25 = .ok (.invokestatic 27, 3) := by decide +kernel
theorem dX8_firstFault_28 : decode cX8_firstFault 28 = .ok (.istore_n 1, 1) := by decide +kernel
theorem dX8_firstFault_29 : decode cX8_firstFault 29 = .ok (.iload_n 1, 1) := by decide +kernel
theorem dX8_firstFault_30 : decode cX8_firstFault 30 = .ok (.bipush 6, 2) := by decide +kernel
theorem dX8_firstFault_32 : decode cX8_firstFault 32 = .ok (.if_icmp .ne 5, 3) := by decide +kernel
theorem dX8_firstFault_35 : decode cX8_firstFault 35 = .ok (.iload_n 2, 1) := by decide +kernel
theorem dX8_firstFault_36 : decode cX8_firstFault 36 = .ok (.ireturn, 1) := by decide +kernel
theorem dX8_firstFault_37 : decode cX8_firstFault 37 = .ok (.iinc 2 1, 3) := by decide +kernel
theorem dX8_firstFault_40 : decode cX8_firstFault 40 = .ok (.goto (-36), 3) := by decide +kernel
theorem dX8_firstFault_43 : decode cX8_firstFault 43 = .ok (.iload_n 1, 1) := by decide +kernel
theorem dX8_firstFault_44 : decode cX8_firstFault 44 = .ok (.iconst 4, 1) := by decide +kernel
theorem dX8_firstFault_45 : decode cX8_firstFault 45 = .ok (.if_icmp .eq 8, 3) := by decide +kernel
theorem dX8_firstFault_48 : decode cX8_firstFault 48 = .ok (.iload_n 1, 1) := by decide +kernel
theorem dX8_firstFault_49 : decode cX8_firstFault 49 = .ok (.iconst 5, 1) := by decide +kernel
theorem dX8_firstFault_50 : decode cX8_firstFault 50 = .ok (.if_icmp .ne 8, 3) := by decide +kernel
theorem dX8_firstFault_53 : decode cX8_firstFault 53 = .ok (.bipush (-6), 2) := by decide +kernel
theorem dX8_firstFault_55 : decode cX8_firstFault 55 = .ok (.goto 7, 3) := by decide +kernel
theorem dX8_firstFault_58 : decode cX8_firstFault 58 = .ok (.aload_n 0, 1) := by decide +kernel
theorem dX8_firstFault_59 : decode cX8_firstFault 59 = .ok (.getfield 23, 3) := by decide +kernel
theorem dX8_firstFault_62 : decode cX8_firstFault 62 = .ok (.ireturn, 1) := by decide +kernel
theorem dX8_behind_0 : decode cX8_behind 0 = .ok (.iload_n 0, 1) := by decide +kernel
theorem dX8_behind_1 : decode cX8_behind 1 = .ok (.tableswitch 122 0 5 #[39, 44, 62, 87, 101, 117], 39) := by decide +kernel
theorem dX8_behind_40 : decode cX8_behind 40 = .ok (.iload_n 1, 1) := by decide +kernel
theorem dX8_behind_41 : decode cX8_behind 41 = .ok (.invokestatic 31, 3) := by decide +kernel
theorem dX8_behind_44 : decode cX8_behind 44 = .ok (.ireturn, 1) := by decide +kernel
theorem dX8_behind_45 : decode cX8_behind 45 = .ok (.iload_n 1, 1) := by decide +kernel
theorem dX8_behind_46 : decode cX8_behind 46 = .ok (.bipush 48, 2) := by decide +kernel
theorem dX8_behind_48 : decode cX8_behind 48 = .ok (.bipush 53, 2) := by decide +kernel
theorem dX8_behind_50 : decode cX8_behind 50 = .ok (.invokestatic 35, 3) := by decide +kernel
theorem dX8_behind_53 : decode cX8_behind 53 = .ok (.ifCond .eq 7, 3) := by decide +kernel
theorem dX8_behind_56 : decode cX8_behind 56 = .ok (.iconst 2, 1) := by decide +kernel
theorem dX8_behind_57 : decode cX8_behind 57 = .ok (.goto 5, 3) := by decide +kernel
theorem dX8_behind_60 : decode cX8_behind 60 = .ok (.bipush 6, 2) := by decide +kernel
theorem dX8_behind_62 : decode cX8_behind 62 = .ok (.ireturn, 1) := by decide +kernel
theorem dX8_behind_63 : decode cX8_behind 63 = .ok (.iload_n 1, 1) := by decide +kernel
theorem dX8_behind_64 : decode cX8_behind 64 = .ok (.bipush 60, 2) := by decide +kernel
theorem dX8_behind_66 : decode cX8_behind 66 = .ok (.if_icmp .eq 15, 3) := by decide +kernel
theorem dX8_behind_69 : decode cX8_behind 69 = .ok (.iload_n 1, 1) := by decide +kernel
theorem dX8_behind_70 : decode cX8_behind 70 = .ok (.bipush 62, 2) := by decide +kernel
theorem dX8_behind_72 : decode cX8_behind 72 = .ok (.if_icmp .eq 9, 3) := by decide +kernel
theorem dX8_behind_75 : decode cX8_behind 75 = .ok (.iload_n 1, 1) := by decide +kernel
theorem dX8_behind_76 : decode cX8_behind 76 = .ok (.bipush 61, 2) := by decide +kernel
theorem dX8_behind_78 : decode cX8_behind 78 = .ok (.if_icmp .ne 7, 3) := by decide +kernel
theorem dX8_behind_81 : decode cX8_behind 81 = .ok (.iconst 3, 1) := by decide +kernel
theorem dX8_behind_82 : decode cX8_behind 82 = .ok (.goto 5, 3) := by decide +kernel
theorem dX8_behind_85 : decode cX8_behind 85 = .ok (.bipush 6, 2) := by decide +kernel
theorem dX8_behind_87 : decode cX8_behind 87 = .ok (.ireturn, 1) := by decide +kernel
theorem dX8_behind_88 : decode cX8_behind 88 = .ok (.iload_n 1, 1) := by decide +kernel
theorem dX8_behind_89 : decode cX8_behind 89 = .ok (.invokestatic 39, 3) := by decide +kernel
theorem dX8_behind_92 : decode cX8_behind 92 = .ok (.ifCond .eq 7, 3) := by decide +kernel
theorem dX8_behind_95 : decode cX8_behind 95 = .ok (.iconst 4, 1) := by decide +kernel
theorem dX8_behind_96 : decode cX8_behind 96 = .ok (.goto 5, 3) := by decide +kernel
theorem dX8_behind_99 : decode cX8_behind 99 = .ok (.bipush 6, 2) := by decide +kernel
theorem dX8_behind_101 : decode cX8_behind 101 = .ok (.ireturn, 1) := by decide +kernel
theorem dX8_behind_102 : decode cX8_behind 102 = .ok (.iload_n 1, 1) := by decide +kernel
theorem dX8_behind_103 : decode cX8_behind 103 = .ok (.invokestatic 39, 3) := by decide +kernel
theorem dX8_behind_106 : decode cX8_behind 106 = .ok (.ifCond .eq 7, 3) := by decide +kernel
theorem dX8_behind_109 : decode cX8_behind 109 = .ok (.iconst 5, 1) := by decide +kernel
theorem dX8_behind_110 : decode cX8_behind 110 = .ok (.goto 7, 3) := by decide +kernel
theorem dX8_behind_113 : decode cX8_behind 113 = .ok (.iload_n 1, 1) := by decide +kernel
theorem dX8_behind_114 : decode cX8_behind 114 = .ok (.invokestatic 43, 3) := by decide +kernel
theorem dX8_behind_117 : decode cX8_behind 117 = .ok (.ireturn, 1) := by decide +kernel
theorem dX8_behind_118 : decode cX8_behind 118 = .ok (.iload_n 1, 1) := by decide +kernel
theorem dX8_behind_119 : decode cX8_behind 119 = .ok (.invokestatic 43, 3) := by decide +kernel
theorem dX8_behind_122 : decode cX8_behind 122 = .ok (.ireturn, 1) := by decide +kernel
theorem dX8_behind_123 : decode cX8_behind 123 = .ok (.bipush 6, 2) := by decide +kernel
theorem dX8_behind_125 : decode cX8_behind 125 = .ok (.ireturn, 1) := by decide +kernel
theorem dX8_behindFact_0 : decode cX8_behindFact 0 = .ok (.iload_n 0, 1) := by decide +kernel
theorem dX8_behindFact_1 : decode cX8_behindFact 1 = .ok (.bipush 110, 2) := by decide +kernel
theorem dX8_behindFact_3 : decode cX8_behindFact 3 = .ok (.if_icmp .ne 5, 3) := by decide +kernel
theorem dX8_behindFact_6 : decode cX8_behindFact 6 = .ok (.iconst 1, 1) := by decide +kernel
theorem dX8_behindFact_7 : decode cX8_behindFact 7 = .ok (.ireturn, 1) := by decide +kernel
theorem dX8_behindFact_8 : decode cX8_behindFact 8 = .ok (.iload_n 0, 1) := by decide +kernel
theorem dX8_behindFact_9 : decode cX8_behindFact 9 = .ok (.bipush 115, 2) := by decide +kernel
theorem dX8_behindFact_11 : decode cX8_behindFact 11 = .ok (.if_icmp .eq 15, 3) := by decide +kernel
theorem dX8_behindFact_14 : decode cX8_behindFact 14 = .ok (.iload_n 0, 1) := by decide +kernel
theorem dX8_behindFact_15 : decode cX8_behindFact 15 = .ok (.bipush 107, 2) := by decide +kernel
theorem dX8_behindFact_17 : decode cX8_behindFact 17 = .ok (.if_icmp .eq 9, 3) := by decide +kernel
theorem dX8_behindFact_20 : decode cX8_behindFact 20 = .ok (.iload_n 0, 1) := by decide +kernel
theorem dX8_behindFact_21 : decode cX8_behindFact 21 = .ok (.bipush 104, 2) := by decide +kernel
theorem dX8_behindFact_23 : decode cX8_behindFact 23 = .ok (.if_icmp .ne 7, 3) := by decide +kernel
theorem dX8_behindFact_26 : decode cX8_behindFact 26 = .ok (.iconst 2, 1) := by decide +kernel
theorem dX8_behindFact_27 : decode cX8_behindFact 27 = .ok (.goto 5, 3) := by decide +kernel
theorem dX8_behindFact_30 : decode cX8_behindFact 30 = .ok (.bipush 6, 2) := by decide +kernel
theorem dX8_behindFact_32 : decode cX8_behindFact 32 = .ok (.ireturn, 1) := by decide +kernel
theorem dX8_behindJoint_0 : decode cX8_behindJoint 0 = .ok (.iload_n 0, 1) := by decide +kernel
theorem dX8_behindJoint_1 : decode cX8_behindJoint 1 = .ok (.bipush 38, 2) := by decide +kernel
theorem dX8_behindJoint_3 : decode cX8_behindJoint 3 = .ok (.if_icmp .eq 9, 3) := by decide +kernel
theorem dX8_behindJoint_6 : decode cX8_behindJoint 6 = .ok (.iload_n 0, 1) := by decide +kernel
theorem dX8_behindJoint_7 : decode cX8_behindJoint 7 = .ok (.bipush 124, 2) := by decide +kernel
theorem dX8_behindJoint_9 : decode cX8_behindJoint 9 = .ok (.if_icmp .ne 7, 3) := by decide +kernel
theorem dX8_behindJoint_12 : decode cX8_behindJoint 12 = .ok (.iconst 0, 1) := by decide +kernel
theorem dX8_behindJoint_13 : decode cX8_behindJoint 13 = .ok (.goto 5, 3) := by decide +kernel
theorem dX8_behindJoint_16 : decode cX8_behindJoint 16 = .ok (.bipush 6, 2) := by decide +kernel
theorem dX8_behindJoint_18 : decode cX8_behindJoint 18 = .ok (.ireturn, 1) := by decide +kernel
theorem dX8_isDigit_0 : decode cX8_isDigit 0 = .ok (.iload_n 0, 1) := by decide +kernel
theorem dX8_isDigit_1 : decode cX8_isDigit 1 = .ok (.bipush 48, 2) := by decide +kernel
theorem dX8_isDigit_3 : decode cX8_isDigit 3 = .ok (.bipush 57, 2) := by decide +kernel
theorem dX8_isDigit_5 : decode cX8_isDigit 5 = .ok (.invokestatic 35, 3) := by decide +kernel
theorem dX8_isDigit_8 : decode cX8_isDigit 8 = .ok (.ireturn, 1) := by decide +kernel
theorem dX8_isPlace_0 : decode cX8_isPlace 0 = .ok (.iload_n 1, 1) := by decide +kernel
theorem dX8_isPlace_1 : decode cX8_isPlace 1 = .ok (.iconst 0, 1) := by decide +kernel
theorem dX8_isPlace_2 : decode cX8_isPlace 2 = .ok (.iconst 4, 1) := by decide +kernel
theorem dX8_isPlace_3 : decode cX8_isPlace 3 = .ok (.invokestatic 35, 3) := by decide +kernel
theorem dX8_isPlace_6 : decode cX8_isPlace 6 = .ok (.ireturn, 1) := by decide +kernel
theorem dX8_has_0 : decode cX8_has 0 = .ok (.aload_n 0, 1) := by decide +kernel
theorem dX8_has_1 : decode cX8_has 1 = .ok (.iload_n 1, 1) := by decide +kernel
theorem dX8_has_2 : decode cX8_has 2 = .ok (.invokevirtual 46, 3) := by decide +kernel
theorem dX8_has_5 : decode cX8_has 5 = .ok (.ifCond .eq 16, 3) := by decide +kernel
theorem dX8_has_8 : decode cX8_has 8 = .ok (.aload_n 0, 1) := by decide +kernel
theorem dX8_has_9 : decode cX8_has 9 = .ok (.getfield 20, 3) := by decide +kernel
theorem dX8_has_12 : decode cX8_has 12 = .ok (.iload_n 1, 1) := by decide +kernel
theorem dX8_has_13 : decode cX8_has 13 = .ok (.iaload, 1) := by decide +kernel
theorem dX8_has_14 : decode cX8_has 14 = .ok (.ifCond .le 7, 3) := by decide +kernel
theorem dX8_has_17 : decode cX8_has 17 = .ok (.iconst 1, 1) := by decide +kernel
theorem dX8_has_18 : decode cX8_has 18 = .ok (.goto 4, 3) := by decide +kernel
theorem dX8_has_21 : decode cX8_has 21 = .ok (.iconst 0, 1) := by decide +kernel
theorem dX8_has_22 : decode cX8_has 22 = .ok (.ireturn, 1) := by decide +kernel
theorem dX8_keep_0 : decode cX8_keep 0 = .ok (.aload_n 0, 1) := by decide +kernel
theorem dX8_keep_1 : decode cX8_keep 1 = .ok (.iload_n 1, 1) := by decide +kernel
theorem dX8_keep_2 : decode cX8_keep 2 = .ok (.invokevirtual 46, 3) := by decide +kernel
theorem dX8_keep_5 : decode cX8_keep 5 = .ok (.ifCond .ne 4, 3) := by decide +kernel
theorem dX8_keep_8 : decode cX8_keep 8 = .ok (.return_, 1) := by decide +kernel
theorem dX8_keep_9 : decode cX8_keep 9 = .ok (.iconst 0, 1) := by decide +kernel
theorem dX8_keep_10 : decode cX8_keep 10 = .ok (.istore_n 2, 1) := by decide +kernel
theorem dX8_keep_11 : decode cX8_keep 11 = .ok (.iload_n 2, 1) := by decide +kernel
theorem dX8_keep_12 : decode cX8_keep 12 = .ok (.aload_n 0, 1) := by decide +kernel
theorem dX8_keep_13 : decode cX8_keep 13 = .ok (.getfield 23, 3) := by decide +kernel
theorem dX8_keep_16 : decode cX8_keep 16 = .ok (.if_icmp .ge 29, 3) := by decide +kernel
theorem dX8_keep_19 : decode cX8_keep 19 = .ok (.iload_n 2, 1) := by decide +kernel
theorem dX8_keep_20 : decode cX8_keep 20 = .ok (.bipush 40, 2) := by decide +kernel
theorem dX8_keep_22 : decode cX8_keep 22 = .ok (.if_icmp .ge 23, 3) := by decide +kernel
theorem dX8_keep_25 : decode cX8_keep 25 = .ok (.aload_n 0, 1) := by decide +kernel
theorem dX8_keep_26 : decode cX8_keep 26 = .ok (.getfield 17, 3) := by decide +kernel
theorem dX8_keep_29 : decode cX8_keep 29 = .ok (.iload_n 1, 1) := by decide +kernel
theorem dX8_keep_30 : decode cX8_keep 30 = .ok (.aaload, 1) := by decide +kernel
theorem dX8_keep_31 : decode cX8_keep 31 = .ok (.iload_n 2, 1) := by decide +kernel
theorem dX8_keep_32 : decode cX8_keep 32 = .ok (.aload_n 0, 1) := by decide +kernel
theorem dX8_keep_33 : decode cX8_keep 33 = .ok (.getfield 11, 3) := by decide +kernel
theorem dX8_keep_36 : decode cX8_keep 36 = .ok (.iload_n 2, 1) := by decide +kernel
theorem dX8_keep_37 : decode cX8_keep 37 = .ok (.iaload, 1) := by decide +kernel
theorem dX8_keep_38 : decode cX8_keep 38 = .ok (.iastore, 1) := by decide +kernel
theorem dX8_keep_39 : decode cX8_keep 39 = .ok (.iinc 2 1, 3) := by decide +kernel
theorem dX8_keep_42 : decode cX8_keep 42 = .ok (.goto (-31), 3) := by decide +kernel
theorem dX8_keep_45 : decode cX8_keep 45 = .ok (.aload_n 0, 1) := by decide +kernel
theorem dX8_keep_46 : decode cX8_keep 46 = .ok (.getfield 20, 3) := by decide +kernel
theorem dX8_keep_49 : decode cX8_keep 49 = .ok (.iload_n 1, 1) := by decide +kernel
theorem dX8_keep_50 : decode cX8_keep 50 = .ok (.aload_n 0, 1) := by decide +kernel
theorem dX8_keep_51 : decode cX8_keep 51 = .ok (.getfield 23, 3) := by decide +kernel
theorem dX8_keep_54 : decode cX8_keep 54 = .ok (.iastore, 1) := by decide +kernel
theorem dX8_keep_55 : decode cX8_keep 55 = .ok (.aload_n 0, 1) := by decide +kernel
theorem dX8_keep_56 : decode cX8_keep 56 = .ok (.iconst 0, 1) := by decide +kernel
theorem dX8_keep_57 : decode cX8_keep 57 = .ok (.putfield 23, 3) := by decide +kernel
theorem dX8_keep_60 : decode cX8_keep 60 = .ok (.return_, 1) := by decide +kernel
theorem dX8_bits_0 : decode cX8_bits 0 = .ok (.iconst 0, 1) := by decide +kernel
theorem dX8_bits_1 : decode cX8_bits 1 = .ok (.istore_n 1, 1) := by decide +kernel
theorem dX8_bits_2 : decode cX8_bits 2 = .ok (.iconst 0, 1) := by decide +kernel
theorem dX8_bits_3 : decode cX8_bits 3 = .ok (.istore_n 2, 1) := by decide +kernel
theorem dX8_bits_4 : decode cX8_bits 4 = .ok (.iload_n 2, 1) := by decide +kernel
theorem dX8_bits_5 : decode cX8_bits 5 = .ok (.iconst 5, 1) := by decide +kernel
theorem dX8_bits_6 : decode cX8_bits 6 = .ok (.if_icmp .ge 23, 3) := by decide +kernel
theorem dX8_bits_9 : decode cX8_bits 9 = .ok (.aload_n 0, 1) := by decide +kernel
theorem dX8_bits_10 : decode cX8_bits 10 = .ok (.iload_n 2, 1) := by decide +kernel
theorem dX8_bits_11 : decode cX8_bits 11 = .ok (.invokevirtual 49, 3) := by decide +kernel
theorem dX8_bits_14 : decode cX8_bits 14 = .ok (.ifCond .eq 9, 3) := by decide +kernel
theorem dX8_bits_17 : decode cX8_bits 17 = .ok (.iload_n 1, 1) := by decide +kernel
theorem dX8_bits_18 : decode cX8_bits 18 = .ok (.iconst 1, 1) := by decide +kernel
theorem dX8_bits_19 : decode cX8_bits 19 = .ok (.iload_n 2, 1) := by decide +kernel
theorem dX8_bits_20 : decode cX8_bits 20 = .ok (.ishl, 1) := by decide +kernel
theorem dX8_bits_21 : decode cX8_bits 21 = .ok (.ior, 1) := by decide +kernel
theorem dX8_bits_22 : decode cX8_bits 22 = .ok (.istore_n 1, 1) := by decide +kernel
theorem dX8_bits_23 : decode cX8_bits 23 = .ok (.iinc 2 1, 3) := by decide +kernel
theorem dX8_bits_26 : decode cX8_bits 26 = .ok (.goto (-22), 3) := by decide +kernel
theorem dX8_bits_29 : decode cX8_bits 29 = .ok (.iload_n 1, 1) := by decide +kernel
theorem dX8_bits_30 : decode cX8_bits 30 = .ok (.ireturn, 1) := by decide +kernel
theorem dX8_judge_0 : decode cX8_judge 0 = .ok (.aload_n 0, 1) := by decide +kernel
theorem dX8_judge_1 : decode cX8_judge 1 = .ok (.iload_n 1, 1) := by decide +kernel
theorem dX8_judge_2 : decode cX8_judge 2 = .ok (.invokevirtual 49, 3) := by decide +kernel
theorem dX8_judge_5 : decode cX8_judge 5 = .ok (.ifCond .ne 5, 3) := by decide +kernel
theorem dX8_judge_8 : decode cX8_judge 8 = .ok (.iconst 0, 1) := by decide +kernel
theorem dX8_judge_9 : decode cX8_judge 9 = .ok (.ireturn, 1) := by decide +kernel
theorem dX8_judge_10 : decode cX8_judge 10 = .ok (.iconst 0, 1) := by decide +kernel
theorem dX8_judge_11 : decode cX8_judge 11 = .ok (.istore_n 3, 1) := by decide +kernel
theorem dX8_judge_12 : decode cX8_judge 12 = .ok (.iconst 2, 1) := by decide +kernel
theorem dX8_judge_13 : decode cX8_judge 13 = .ok (.istore 4, 2) := by decide +kernel
theorem dX8_judge_15 : decode cX8_judge 15 = .ok (.iconst 0, 1) := by decide +kernel
theorem dX8_judge_16 : decode cX8_judge 16 = .ok (.istore 5, 2) := by decide +kernel
theorem dX8_judge_18 : decode cX8_judge 18 = .ok (.iconst 0, 1) := by decide +kernel
theorem dX8_judge_19 : decode cX8_judge 19 = .ok (.istore 6, 2) := by decide +kernel
theorem dX8_judge_21 : decode cX8_judge 21 = .ok (.iconst 0, 1) := by decide +kernel
theorem dX8_judge_22 : decode cX8_judge 22 = .ok (.istore 7, 2) := by decide +kernel
theorem dX8_judge_24 : decode cX8_judge 24 = .ok (.iconst 0, 1) := by decide +kernel
theorem dX8_judge_25 : decode cX8_judge 25 = .ok (.istore 8, 2) := by decide +kernel
theorem dX8_judge_27 : decode cX8_judge 27 = .ok (.iload 8, 2) := by decide +kernel
theorem dX8_judge_29 : decode cX8_judge 29 = .ok (.aload_n 0, 1) := by decide +kernel
theorem dX8_judge_30 : decode cX8_judge 30 = .ok (.getfield 20, 3) := by decide +kernel
theorem dX8_judge_33 : decode cX8_judge 33 = .ok (.iload_n 1, 1) := by decide +kernel
theorem dX8_judge_34 : decode cX8_judge 34 = .ok (.iaload, 1) := by decide +kernel
theorem dX8_judge_35 : decode cX8_judge 35 = .ok (.if_icmp .gt 172, 3) := by decide +kernel
theorem dX8_judge_38 : decode cX8_judge 38 = .ok (.aload_n 0, 1) := by decide +kernel
theorem dX8_judge_39 : decode cX8_judge 39 = .ok (.iload_n 1, 1) := by decide +kernel
theorem dX8_judge_40 : decode cX8_judge 40 = .ok (.iload 8, 2) := by decide +kernel
theorem dX8_judge_42 : decode cX8_judge 42 = .ok (.invokevirtual 52, 3) := by decide +kernel
theorem dX8_judge_45 : decode cX8_judge 45 = .ok (.istore 9, 2) := by decide +kernel
theorem dX8_judge_47 : decode cX8_judge 47 = .ok (.iload 9, 2) := by decide +kernel
theorem dX8_judge_49 : decode cX8_judge 49 = .ok (.bipush 38, 2) := by decide +kernel
theorem dX8_judge_51 : decode cX8_judge 51 = .ok (.if_icmp .eq 10, 3) := by decide +kernel
theorem dX8_judge_54 : decode cX8_judge 54 = .ok (.iload 9, 2) := by decide +kernel
theorem dX8_judge_56 : decode cX8_judge 56 = .ok (.bipush 124, 2) := by decide +kernel
theorem dX8_judge_58 : decode cX8_judge 58 = .ok (.if_icmp .ne 49, 3) := by decide +kernel
theorem dX8_judge_61 : decode cX8_judge 61 = .ok (.iload 4, 2) := by decide +kernel
theorem dX8_judge_63 : decode cX8_judge 63 = .ok (.aload_n 2, 1) := by decide +kernel
theorem dX8_judge_64 : decode cX8_judge 64 = .ok (.iload 5, 2) := by decide +kernel
theorem dX8_judge_66 : decode cX8_judge 66 = .ok (.invokevirtual 55, 3) := by decide +kernel
theorem dX8_judge_69 : decode cX8_judge 69 = .ok (.iload 6, 2) := by decide +kernel
theorem dX8_judge_71 : decode cX8_judge 71 = .ok (.iload 7, 2) := by decide +kernel
theorem dX8_judge_73 : decode cX8_judge 73 = .ok (.invokestatic 60, 3) := by decide +kernel
theorem dX8_judge_76 : decode cX8_judge 76 = .ok (.invokestatic 64, 3) := by decide +kernel
theorem dX8_judge_79 : decode cX8_judge 79 = .ok (.istore 4, 2) := by decide +kernel
theorem dX8_judge_81 : decode cX8_judge 81 = .ok (.iconst 0, 1) := by decide +kernel
theorem dX8_judge_82 : decode cX8_judge 82 = .ok (.istore 6, 2) := by decide +kernel
theorem dX8_judge_84 : decode cX8_judge 84 = .ok (.iconst 0, 1) := by decide +kernel
theorem dX8_judge_85 : decode cX8_judge 85 = .ok (.istore 7, 2) := by decide +kernel
theorem dX8_judge_87 : decode cX8_judge 87 = .ok (.iload 9, 2) := by decide +kernel
theorem dX8_judge_89 : decode cX8_judge 89 = .ok (.bipush 124, 2) := by decide +kernel
theorem dX8_judge_91 : decode cX8_judge 91 = .ok (.if_icmp .ne 110, 3) := by decide +kernel
theorem dX8_judge_94 : decode cX8_judge 94 = .ok (.iload_n 3, 1) := by decide +kernel
theorem dX8_judge_95 : decode cX8_judge 95 = .ok (.iload 4, 2) := by decide +kernel
theorem dX8_judge_97 : decode cX8_judge 97 = .ok (.invokestatic 69, 3) := by decide +kernel
theorem dX8_judge_100 : decode cX8_judge 100 = .ok (.istore_n 3, 1) := by decide +kernel
theorem dX8_judge_101 : decode cX8_judge 101 = .ok (.iconst 2, 1) := by decide +kernel
theorem dX8_judge_102 : decode cX8_judge 102 = .ok (.istore 4, 2) := by decide +kernel
theorem dX8_judge_104 : decode cX8_judge 104 = .ok (.goto 97, 3) := by decide +kernel
theorem dX8_judge_107 : decode cX8_judge 107 = .ok (.iload 9, 2) := by decide +kernel
theorem dX8_judge_109 : decode cX8_judge 109 = .ok (.invokestatic 39, 3) := by decide +kernel
theorem dX8_judge_112 : decode cX8_judge 112 = .ok (.ifCond .eq 36, 3) := by decide +kernel
theorem dX8_judge_115 : decode cX8_judge 115 = .ok (.iload 6, 2) := by decide +kernel
theorem dX8_judge_117 : decode cX8_judge 117 = .ok (.ifCond .ne 15, 3) := by decide +kernel
theorem dX8_judge_120 : decode cX8_judge 120 = .ok (.iconst 3, 1) := by decide +kernel
theorem dX8_judge_121 : decode cX8_judge 121 = .ok (.iload 9, 2) := by decide +kernel
theorem dX8_judge_123 : decode cX8_judge 123 = .ok (.iadd, 1) := by decide +kernel
theorem dX8_judge_124 : decode cX8_judge 124 = .ok (.bipush 48, 2) := by decide +kernel
theorem dX8_judge_126 : decode cX8_judge 126 = .ok (.isub, 1) := by decide +kernel
theorem dX8_judge_127 : decode cX8_judge 127 = .ok (.istore 5, 2) := by decide +kernel
theorem dX8_judge_129 : decode cX8_judge 129 = .ok (.goto 72, 3) := by decide +kernel
theorem dX8_judge_132 : decode cX8_judge 132 = .ok (.bipush 10, 2) := by decide +kernel
theorem dX8_judge_134 : decode cX8_judge 134 = .ok (.iload 7, 2) := by decide +kernel
theorem dX8_judge_136 : decode cX8_judge 136 = .ok (.imul, 1) := by decide +kernel
theorem dX8_judge_137 : decode cX8_judge 137 = .ok (.iload 9, 2) := by decide +kernel
theorem dX8_judge_139 : decode cX8_judge 139 = .ok (.iadd, 1) := by decide +kernel
theorem dX8_judge_140 : decode cX8_judge 140 = .ok (.bipush 48, 2) := by decide +kernel
theorem dX8_judge_142 : decode cX8_judge 142 = .ok (.isub, 1) := by decide +kernel
theorem dX8_judge_143 : decode cX8_judge 143 = .ok (.istore 7, 2) := by decide +kernel
theorem dX8_judge_145 : decode cX8_judge 145 = .ok (.goto 56, 3) := by decide +kernel
theorem dX8_judge_148 : decode cX8_judge 148 = .ok (.iload 9, 2) := by decide +kernel
theorem dX8_judge_150 : decode cX8_judge 150 = .ok (.bipush 60, 2) := by decide +kernel
theorem dX8_judge_152 : decode cX8_judge 152 = .ok (.if_icmp .eq 17, 3) := by decide +kernel
theorem dX8_judge_155 : decode cX8_judge 155 = .ok (.iload 9, 2) := by decide +kernel
theorem dX8_judge_157 : decode cX8_judge 157 = .ok (.bipush 62, 2) := by decide +kernel
theorem dX8_judge_159 : decode cX8_judge 159 = .ok (.if_icmp .eq 10, 3) := by decide +kernel
theorem dX8_judge_162 : decode cX8_judge 162 = .ok (.iload 9, 2) := by decide +kernel
theorem dX8_judge_164 : decode cX8_judge 164 = .ok (.bipush 61, 2) := by decide +kernel
theorem dX8_judge_166 : decode cX8_judge 166 = .ok (.if_icmp .ne 10, 3) := by decide +kernel
theorem dX8_judge_169 : decode cX8_judge 169 = .ok (.iload 9, 2) := by decide +kernel
theorem dX8_judge_171 : decode cX8_judge 171 = .ok (.istore 6, 2) := by decide +kernel
theorem dX8_judge_173 : decode cX8_judge 173 = .ok (.goto 28, 3) := by decide +kernel
theorem dX8_judge_176 : decode cX8_judge 176 = .ok (.iload 9, 2) := by decide +kernel
theorem dX8_judge_178 : decode cX8_judge 178 = .ok (.bipush 115, 2) := by decide +kernel
theorem dX8_judge_180 : decode cX8_judge 180 = .ok (.if_icmp .ne 7, 3) := by decide +kernel
theorem dX8_judge_183 : decode cX8_judge 183 = .ok (.iconst 0, 1) := by decide +kernel
theorem dX8_judge_184 : decode cX8_judge 184 = .ok (.goto 15, 3) := by decide +kernel
theorem dX8_judge_187 : decode cX8_judge 187 = .ok (.iload 9, 2) := by decide +kernel
theorem dX8_judge_189 : decode cX8_judge 189 = .ok (.bipush 107, 2) := by decide +kernel
theorem dX8_judge_191 : decode cX8_judge 191 = .ok (.if_icmp .ne 7, 3) := by decide +kernel
theorem dX8_judge_194 : decode cX8_judge 194 = .ok (.iconst 1, 1) := by decide +kernel
theorem dX8_judge_195 : decode cX8_judge 195 = .ok (.goto 4, 3) := by decide +kernel
theorem dX8_judge_198 : decode cX8_judge 198 = .ok (.iconst 2, 1) := by decide +kernel
theorem dX8_judge_199 : decode cX8_judge 199 = .ok (.istore 5, 2) := by decide +kernel
theorem dX8_judge_201 : decode cX8_judge 201 = .ok (.iinc 8 1, 3) := by decide +kernel
theorem dX8_judge_204 : decode cX8_judge 204 = .ok (.goto (-177), 3) := by decide +kernel
theorem dX8_judge_207 : decode cX8_judge 207 = .ok (.iload_n 3, 1) := by decide +kernel
theorem dX8_judge_208 : decode cX8_judge 208 = .ok (.ireturn, 1) := by decide +kernel
theorem dX8_signOf_0 : decode cX8_signOf 0 = .ok (.aload_n 0, 1) := by decide +kernel
theorem dX8_signOf_1 : decode cX8_signOf 1 = .ok (.iload_n 1, 1) := by decide +kernel
theorem dX8_signOf_2 : decode cX8_signOf 2 = .ok (.invokevirtual 46, 3) := by decide +kernel
theorem dX8_signOf_5 : decode cX8_signOf 5 = .ok (.ifCond .eq 23, 3) := by decide +kernel
theorem dX8_signOf_8 : decode cX8_signOf 8 = .ok (.iload_n 2, 1) := by decide +kernel
theorem dX8_signOf_9 : decode cX8_signOf 9 = .ok (.ifCond .lt 19, 3) := by decide +kernel
theorem dX8_signOf_12 : decode cX8_signOf 12 = .ok (.iload_n 2, 1) := by decide +kernel
theorem dX8_signOf_13 : decode cX8_signOf 13 = .ok (.aload_n 0, 1) := by decide +kernel
theorem dX8_signOf_14 : decode cX8_signOf 14 = .ok (.getfield 20, 3) := by decide +kernel
theorem dX8_signOf_17 : decode cX8_signOf 17 = .ok (.iload_n 1, 1) := by decide +kernel
theorem dX8_signOf_18 : decode cX8_signOf 18 = .ok (.iaload, 1) := by decide +kernel
theorem dX8_signOf_19 : decode cX8_signOf 19 = .ok (.if_icmp .ge 9, 3) := by decide +kernel
theorem dX8_signOf_22 : decode cX8_signOf 22 = .ok (.iload_n 2, 1) := by decide +kernel
theorem dX8_signOf_23 : decode cX8_signOf 23 = .ok (.bipush 40, 2) := by decide +kernel
theorem dX8_signOf_25 : decode cX8_signOf 25 = .ok (.if_icmp .lt 6, 3) := by decide +kernel
theorem dX8_signOf_28 : decode cX8_signOf 28 = .ok (.bipush 124, 2) := by decide +kernel
theorem dX8_signOf_30 : decode cX8_signOf 30 = .ok (.ireturn, 1) := by decide +kernel
theorem dX8_signOf_31 : decode cX8_signOf 31 = .ok (.aload_n 0, 1) := by decide +kernel
theorem dX8_signOf_32 : decode cX8_signOf 32 = .ok (.getfield 17, 3) := by decide +kernel
theorem dX8_signOf_35 : decode cX8_signOf 35 = .ok (.iload_n 1, 1) := by decide +kernel
theorem dX8_signOf_36 : decode cX8_signOf 36 = .ok (.aaload, 1) := by decide +kernel
theorem dX8_signOf_37 : decode cX8_signOf 37 = .ok (.iload_n 2, 1) := by decide +kernel
theorem dX8_signOf_38 : decode cX8_signOf 38 = .ok (.iaload, 1) := by decide +kernel
theorem dX8_signOf_39 : decode cX8_signOf 39 = .ok (.ireturn, 1) := by decide +kernel
theorem dX8_test_0 : decode cX8_test 0 = .ok (.iload_n 0, 1) := by decide +kernel
theorem dX8_test_1 : decode cX8_test 1 = .ok (.bipush (-6), 2) := by decide +kernel
theorem dX8_test_3 : decode cX8_test 3 = .ok (.if_icmp .ne 5, 3) := by decide +kernel
theorem dX8_test_6 : decode cX8_test 6 = .ok (.iconst 1, 1) := by decide +kernel
theorem dX8_test_7 : decode cX8_test 7 = .ok (.ireturn, 1) := by decide +kernel
theorem dX8_test_8 : decode cX8_test 8 = .ok (.iload_n 1, 1) := by decide +kernel
theorem dX8_test_9 : decode cX8_test 9 = .ok (.bipush 60, 2) := by decide +kernel
theorem dX8_test_11 : decode cX8_test 11 = .ok (.if_icmp .ne 14, 3) := by decide +kernel
theorem dX8_test_14 : decode cX8_test 14 = .ok (.iload_n 0, 1) := by decide +kernel
theorem dX8_test_15 : decode cX8_test 15 = .ok (.iload_n 2, 1) := by decide +kernel
theorem dX8_test_16 : decode cX8_test 16 = .ok (.if_icmp .ge 7, 3) := by decide +kernel
theorem dX8_test_19 : decode cX8_test 19 = .ok (.iconst 2, 1) := by decide +kernel
theorem dX8_test_20 : decode cX8_test 20 = .ok (.goto 4, 3) := by decide +kernel
theorem dX8_test_23 : decode cX8_test 23 = .ok (.iconst 0, 1) := by decide +kernel
theorem dX8_test_24 : decode cX8_test 24 = .ok (.ireturn, 1) := by decide +kernel
theorem dX8_test_25 : decode cX8_test 25 = .ok (.iload_n 1, 1) := by decide +kernel
theorem dX8_test_26 : decode cX8_test 26 = .ok (.bipush 62, 2) := by decide +kernel
theorem dX8_test_28 : decode cX8_test 28 = .ok (.if_icmp .ne 14, 3) := by decide +kernel
theorem dX8_test_31 : decode cX8_test 31 = .ok (.iload_n 0, 1) := by decide +kernel
theorem dX8_test_32 : decode cX8_test 32 = .ok (.iload_n 2, 1) := by decide +kernel
theorem dX8_test_33 : decode cX8_test 33 = .ok (.if_icmp .le 7, 3) := by decide +kernel
theorem dX8_test_36 : decode cX8_test 36 = .ok (.iconst 2, 1) := by decide +kernel
theorem dX8_test_37 : decode cX8_test 37 = .ok (.goto 4, 3) := by decide +kernel
theorem dX8_test_40 : decode cX8_test 40 = .ok (.iconst 0, 1) := by decide +kernel
theorem dX8_test_41 : decode cX8_test 41 = .ok (.ireturn, 1) := by decide +kernel
theorem dX8_test_42 : decode cX8_test 42 = .ok (.iload_n 0, 1) := by decide +kernel
theorem dX8_test_43 : decode cX8_test 43 = .ok (.iload_n 2, 1) := by decide +kernel
theorem dX8_test_44 : decode cX8_test 44 = .ok (.if_icmp .ne 7, 3) := by decide +kernel
theorem dX8_test_47 : decode cX8_test 47 = .ok (.iconst 2, 1) := by decide +kernel
theorem dX8_test_48 : decode cX8_test 48 = .ok (.goto 4, 3) := by decide +kernel
theorem dX8_test_51 : decode cX8_test 51 = .ok (.iconst 0, 1) := by decide +kernel
theorem dX8_test_52 : decode cX8_test 52 = .ok (.ireturn, 1) := by decide +kernel
theorem dX9_init_0 : decode cX9_init 0 = .ok (.aload_n 0, 1) := by decide +kernel
theorem dX9_init_1 : decode cX9_init 1 = .ok (.invokespecial 1, 3) := by decide +kernel
theorem dX9_init_4 : decode cX9_init 4 = .ok (.aload_n 0, 1) := by decide +kernel
theorem dX9_init_5 : decode cX9_init 5 = .ok (.new 7, 3) := by decide +kernel
theorem dX9_init_8 : decode cX9_init 8 = .ok (.dup, 1) := by decide +kernel
theorem dX9_init_9 : decode cX9_init 9 = .ok (.invokespecial 9, 3) := by decide +kernel
theorem dX9_init_12 : decode cX9_init 12 = .ok (.putfield 10, 3) := by decide +kernel
theorem dX9_init_15 : decode cX9_init 15 = .ok (.aload_n 0, 1) := by decide +kernel
theorem dX9_init_16 : decode cX9_init 16 = .ok (.new 16, 3) := by decide +kernel
theorem dX9_init_19 : decode cX9_init 19 = .ok (.dup, 1) := by decide +kernel
theorem dX9_init_20 : decode cX9_init 20 = .ok (.invokespecial 18, 3) := by decide +kernel
theorem dX9_init_23 : decode cX9_init 23 = .ok (.putfield 19, 3) := by decide +kernel
theorem dX9_init_26 : decode cX9_init 26 = .ok (.aload_n 0, 1) := by decide +kernel
theorem dX9_init_27 : decode cX9_init 27 = .ok (.new 23, 3) := by decide +kernel
theorem dX9_init_30 : decode cX9_init 30 = .ok (.dup, 1) := by decide +kernel
theorem dX9_init_31 : decode cX9_init 31 = .ok (.invokespecial 25, 3) := by decide +kernel
theorem dX9_init_34 : decode cX9_init 34 = .ok (.putfield 26, 3) := by decide +kernel
theorem dX9_init_37 : decode cX9_init 37 = .ok (.aload_n 0, 1) := by decide +kernel
theorem dX9_init_38 : decode cX9_init 38 = .ok (.new 30, 3) := by decide +kernel
theorem dX9_init_41 : decode cX9_init 41 = .ok (.dup, 1) := by decide +kernel
theorem dX9_init_42 : decode cX9_init 42 = .ok (.invokespecial 32, 3) := by decide +kernel
theorem dX9_init_45 : decode cX9_init 45 = .ok (.putfield 33, 3) := by decide +kernel
theorem dX9_init_48 : decode cX9_init 48 = .ok (.aload_n 0, 1) := by decide +kernel
theorem dX9_init_49 : decode cX9_init 49 = .ok (.new 37, 3) := by decide +kernel
theorem dX9_init_52 : decode cX9_init 52 = .ok (.dup, 1) := by decide +kernel
theorem dX9_init_53 : decode cX9_init 53 = .ok (.invokespecial 39, 3) := by decide +kernel
theorem dX9_init_56 : decode cX9_init 56 = .ok (.putfield 40, 3) := by decide +kernel
theorem dX9_init_59 : decode cX9_init 59 = .ok (.aload_n 0, 1) := by decide +kernel
theorem dX9_init_60 : decode cX9_init 60 = .ok (.new 44, 3) := by decide +kernel
theorem dX9_init_63 : decode cX9_init 63 = .ok (.dup, 1) := by decide +kernel
theorem dX9_init_64 : decode cX9_init 64 = .ok (.invokespecial 46, 3) := by decide +kernel
theorem dX9_init_67 : decode cX9_init 67 = .ok (.putfield 47, 3) := by decide +kernel
theorem dX9_init_70 : decode cX9_init 70 = .ok (.return_, 1) := by decide +kernel
theorem dX9_thing_0 : decode cX9_thing 0 = .ok (.iload_n 1, 1) := by decide +kernel
theorem dX9_thing_1 : decode cX9_thing 1 = .ok (.iload_n 2, 1) := by decide +kernel
theorem dX9_thing_2 : decode cX9_thing 2 = .ok (.invokestatic 51, 3) := by decide +kernel
theorem dX9_thing_5 : decode cX9_thing 5 = .ok (.ifCond .eq 22, 3) := by decide +kernel
theorem dX9_thing_8 : decode cX9_thing 8 = .ok (.iload_n 3, 1) := by decide +kernel
theorem dX9_thing_9 : decode cX9_thing 9 = .ok (.iconst 1, 1) := by decide +kernel
theorem dX9_thing_10 : decode cX9_thing 10 = .ok (.iconst 4, 1) := by decide +kernel
theorem dX9_thing_11 : decode cX9_thing 11 = .ok (.invokestatic 55, 3) := by decide +kernel
theorem dX9_thing_14 : decode cX9_thing 14 = .ok (.ifCond .eq 13, 3) := by decide +kernel
theorem dX9_thing_17 : decode cX9_thing 17 = .ok (.iload 4, 2) := by decide +kernel
theorem dX9_thing_19 : decode cX9_thing 19 = .ok (.iconst 1, 1) := by decide +kernel
theorem dX9_thing_20 : decode cX9_thing 20 = .ok (.iconst 4, 1) := by decide +kernel
theorem dX9_thing_21 : decode cX9_thing 21 = .ok (.invokestatic 55, 3) := by decide +kernel
theorem dX9_thing_24 : decode cX9_thing 24 = .ok (.ifCond .ne 6, 3) := by decide +kernel
theorem dX9_thing_27 : decode cX9_thing 27 = .ok (.bipush (-2), 2) := by decide +kernel
theorem dX9_thing_29 : decode cX9_thing 29 = .ok (.ireturn, 1) := by decide +kernel
theorem dX9_thing_30 : decode cX9_thing 30 = .ok (.iload_n 1, 1) := by decide +kernel
theorem dX9_thing_31 : decode cX9_thing 31 = .ok (.iload_n 3, 1) := by decide +kernel
theorem dX9_thing_32 : decode cX9_thing 32 = .ok (.iadd, 1) := by decide +kernel
theorem dX9_thing_33 : decode cX9_thing 33 = .ok (.iconst 1, 1) := by decide +kernel
theorem dX9_thing_34 : decode cX9_thing 34 = .ok (.isub, 1) := by decide +kernel
theorem dX9_thing_35 : decode cX9_thing 35 = .ok (.iload_n 2, 1) := by decide +kernel
theorem dX9_thing_36 : decode cX9_thing 36 = .ok (.iload 4, 2) := by decide +kernel
theorem dX9_thing_38 : decode cX9_thing 38 = .ok (.iadd, 1) := by decide +kernel
theorem dX9_thing_39 : decode cX9_thing 39 = .ok (.iconst 1, 1) := by decide +kernel
theorem dX9_thing_40 : decode cX9_thing 40 = .ok (.isub, 1) := by decide +kernel
theorem dX9_thing_41 : decode cX9_thing 41 = .ok (.invokestatic 51, 3) := by decide +kernel
theorem dX9_thing_44 : decode cX9_thing 44 = .ok (.ifCond .ne 6, 3) := by decide +kernel
theorem dX9_thing_47 : decode cX9_thing 47 = .ok (.bipush (-2), 2) := by decide +kernel
theorem dX9_thing_49 : decode cX9_thing 49 = .ok (.ireturn, 1) := by decide +kernel
theorem dX9_thing_50 : decode cX9_thing 50 = .ok (.iload 5, 2) := by decide +kernel
theorem dX9_thing_52 : decode cX9_thing 52 = .ok (.iconst 1, 1) := by decide +kernel
theorem dX9_thing_53 : decode cX9_thing 53 = .ok (.bipush 20, 2) := by decide +kernel
theorem dX9_thing_55 : decode cX9_thing 55 = .ok (.invokestatic 55, 3) := by decide +kernel
theorem dX9_thing_58 : decode cX9_thing 58 = .ok (.ifCond .eq 13, 3) := by decide +kernel
theorem dX9_thing_61 : decode cX9_thing 61 = .ok (.iload 6, 2) := by decide +kernel
theorem dX9_thing_63 : decode cX9_thing 63 = .ok (.iconst 0, 1) := by decide +kernel
theorem dX9_thing_64 : decode cX9_thing 64 = .ok (.iconst 5, 1) := by decide +kernel
theorem dX9_thing_65 : decode cX9_thing 65 = .ok (.invokestatic 55, 3) := by decide +kernel
theorem dX9_thing_68 : decode cX9_thing 68 = .ok (.ifCond .ne 6, 3) := by decide +kernel
theorem dX9_thing_71 : decode cX9_thing 71 = .ok (.bipush (-2), 2) := by decide +kernel
theorem dX9_thing_73 : decode cX9_thing 73 = .ok (.ireturn, 1) := by decide +kernel
theorem dX9_thing_74 : decode cX9_thing 74 = .ok (.iload 7, 2) := by decide +kernel
theorem dX9_thing_76 : decode cX9_thing 76 = .ok (.invokestatic 59, 3) := by decide +kernel
theorem dX9_thing_79 : decode cX9_thing 79 = .ok (.ifCond .eq 18, 3) := by decide +kernel
theorem dX9_thing_82 : decode cX9_thing 82 = .ok (.iload 8, 2) := by decide +kernel
theorem dX9_thing_84 : decode cX9_thing 84 = .ok (.invokestatic 59, 3) := by decide +kernel
theorem dX9_thing_87 : decode cX9_thing 87 = .ok (.ifCond .eq 10, 3) := by decide +kernel
theorem dX9_thing_90 : decode cX9_thing 90 = .ok (.iload 7, 2) := by decide +kernel
theorem dX9_thing_92 : decode cX9_thing 92 = .ok (.iload 8, 2) := by decide +kernel
theorem dX9_thing_94 : decode cX9_thing 94 = .ok (.if_icmp .le 6, 3) := by decide +kernel
theorem dX9_thing_97 : decode cX9_thing 97 = .ok (.bipush (-2), 2) := by decide +kernel
theorem dX9_thing_99 : decode cX9_thing 99 = .ok (.ireturn, 1) := by decide +kernel
theorem dX9_thing_100 : decode cX9_thing 100 = .ok (.aload_n 0, 1) := by decide +kernel
theorem dX9_thing_101 : decode cX9_thing 101 = .ok (.getfield 10, 3) := by decide +kernel
theorem dX9_thing_104 : decode cX9_thing 104 = .ok (.invokevirtual 63, 3) := by decide +kernel
theorem dX9_thing_107 : decode cX9_thing 107 = .ok (.ifCond .eq 6, 3) := by decide +kernel
theorem dX9_thing_110 : decode cX9_thing 110 = .ok (.bipush (-4), 2) := by decide +kernel
theorem dX9_thing_112 : decode cX9_thing 112 = .ok (.ireturn, 1) := by decide +kernel
theorem dX9_thing_113 : decode cX9_thing 113 = .ok (.bipush 11, 2) := by decide +kernel
theorem dX9_thing_115 : decode cX9_thing 115 = .ok (.newarray .int, 2) := by decide +kernel
theorem dX9_thing_117 : decode cX9_thing 117 = .ok (.dup, 1) := by decide +kernel
theorem dX9_thing_118 : decode cX9_thing 118 = .ok (.iconst 0, 1) := by decide +kernel
theorem dX9_thing_119 : decode cX9_thing 119 = .ok (.iload_n 1, 1) := by decide +kernel
theorem dX9_thing_120 : decode cX9_thing 120 = .ok (.iastore, 1) := by decide +kernel
theorem dX9_thing_121 : decode cX9_thing 121 = .ok (.dup, 1) := by decide +kernel
theorem dX9_thing_122 : decode cX9_thing 122 = .ok (.iconst 1, 1) := by decide +kernel
theorem dX9_thing_123 : decode cX9_thing 123 = .ok (.iload_n 2, 1) := by decide +kernel
theorem dX9_thing_124 : decode cX9_thing 124 = .ok (.iastore, 1) := by decide +kernel
theorem dX9_thing_125 : decode cX9_thing 125 = .ok (.dup, 1) := by decide +kernel
theorem dX9_thing_126 : decode cX9_thing 126 = .ok (.iconst 2, 1) := by decide +kernel
theorem dX9_thing_127 : decode cX9_thing 127 = .ok (.iload_n 3, 1) := by decide +kernel
theorem dX9_thing_128 : decode cX9_thing 128 = .ok (.iastore, 1) := by decide +kernel
theorem dX9_thing_129 : decode cX9_thing 129 = .ok (.dup, 1) := by decide +kernel
theorem dX9_thing_130 : decode cX9_thing 130 = .ok (.iconst 3, 1) := by decide +kernel
theorem dX9_thing_131 : decode cX9_thing 131 = .ok (.iload 4, 2) := by decide +kernel
theorem dX9_thing_133 : decode cX9_thing 133 = .ok (.iastore, 1) := by decide +kernel
theorem dX9_thing_134 : decode cX9_thing 134 = .ok (.dup, 1) := by decide +kernel
theorem dX9_thing_135 : decode cX9_thing 135 = .ok (.iconst 4, 1) := by decide +kernel
theorem dX9_thing_136 : decode cX9_thing 136 = .ok (.iload 5, 2) := by decide +kernel
theorem dX9_thing_138 : decode cX9_thing 138 = .ok (.iastore, 1) := by decide +kernel
theorem dX9_thing_139 : decode cX9_thing 139 = .ok (.dup, 1) := by decide +kernel
theorem dX9_thing_140 : decode cX9_thing 140 = .ok (.iconst 5, 1) := by decide +kernel
theorem dX9_thing_141 : decode cX9_thing 141 = .ok (.iload 6, 2) := by decide +kernel
theorem dX9_thing_143 : decode cX9_thing 143 = .ok (.iastore, 1) := by decide +kernel
theorem dX9_thing_144 : decode cX9_thing 144 = .ok (.dup, 1) := by decide +kernel
theorem dX9_thing_145 : decode cX9_thing 145 = .ok (.bipush 6, 2) := by decide +kernel
theorem dX9_thing_147 : decode cX9_thing 147 = .ok (.iload 7, 2) := by decide +kernel
theorem dX9_thing_149 : decode cX9_thing 149 = .ok (.iastore, 1) := by decide +kernel
theorem dX9_thing_150 : decode cX9_thing 150 = .ok (.dup, 1) := by decide +kernel
theorem dX9_thing_151 : decode cX9_thing 151 = .ok (.bipush 7, 2) := by decide +kernel
theorem dX9_thing_153 : decode cX9_thing 153 = .ok (.iload 8, 2) := by decide +kernel
theorem dX9_thing_155 : decode cX9_thing 155 = .ok (.iastore, 1) := by decide +kernel
theorem dX9_thing_156 : decode cX9_thing 156 = .ok (.dup, 1) := by decide +kernel
theorem dX9_thing_157 : decode cX9_thing 157 = .ok (.bipush 8, 2) := by decide +kernel
theorem dX9_thing_159 : decode cX9_thing 159 = .ok (.bipush 8, 2) := by decide +kernel
theorem dX9_thing_161 : decode cX9_thing 161 = .ok (.iastore, 1) := by decide +kernel
theorem dX9_thing_162 : decode cX9_thing 162 = .ok (.dup, 1) := by decide +kernel
theorem dX9_thing_163 : decode cX9_thing 163 = .ok (.bipush 9, 2) := by decide +kernel
theorem dX9_thing_165 : decode cX9_thing 165 = .ok (.iconst 0, 1) := by decide +kernel
theorem dX9_thing_166 : decode cX9_thing 166 = .ok (.iastore, 1) := by decide +kernel
theorem dX9_thing_167 : decode cX9_thing 167 = .ok (.dup, 1) := by decide +kernel
theorem dX9_thing_168 : decode cX9_thing 168 = .ok (.bipush 10, 2) := by decide +kernel
theorem dX9_thing_170 : decode cX9_thing 170 = .ok (.iconst 0, 1) := by decide +kernel
theorem dX9_thing_171 : decode cX9_thing 171 = .ok (.iastore, 1) := by decide +kernel
theorem dX9_thing_172 : decode cX9_thing 172 = .ok (.astore 9, 2) := by decide +kernel
theorem dX9_thing_174 : decode cX9_thing 174 = .ok (.aload_n 0, 1) := by decide +kernel
theorem dX9_thing_175 : decode cX9_thing 175 = .ok (.getfield 10, 3) := by decide +kernel
theorem dX9_thing_178 : decode cX9_thing 178 = .ok (.aload 9, 2) := by decide +kernel
theorem dX9_thing_180 : decode cX9_thing 180 = .ok (.invokevirtual 67, 3) := by decide +kernel
theorem dX9_thing_183 : decode cX9_thing 183 = .ok (.istore 10, 2) := by decide +kernel
theorem dX9_thing_185 : decode cX9_thing 185 = .ok (.aload_n 0, 1) := by decide +kernel
theorem dX9_thing_186 : decode cX9_thing 186 = .ok (.getfield 19, 3) := by decide +kernel
theorem dX9_thing_189 : decode cX9_thing 189 = .ok (.aload_n 0, 1) := by decide +kernel
theorem dX9_thing_190 : decode cX9_thing 190 = .ok (.getfield 10, 3) := by decide +kernel
theorem dX9_thing_193 : decode cX9_thing 193 = .ok (.invokevirtual 71, 3) := by decide +kernel
theorem dX9_thing_196 : decode cX9_thing 196 = .ok (.iload 10, 2) := by decide +kernel
theorem dX9_thing_198 : decode cX9_thing 198 = .ok (.ireturn, 1) := by decide +kernel
theorem dX9_of_0 : decode cX9_of 0 = .ok (.aload_n 0, 1) := by decide +kernel
theorem dX9_of_1 : decode cX9_of 1 = .ok (.getfield 10, 3) := by decide +kernel
theorem dX9_of_4 : decode cX9_of 4 = .ok (.iload_n 1, 1) := by decide +kernel
theorem dX9_of_5 : decode cX9_of 5 = .ok (.invokevirtual 75, 3) := by decide +kernel
theorem dX9_of_8 : decode cX9_of 8 = .ok (.astore_n 3, 1) := by decide +kernel
theorem dX9_of_9 : decode cX9_of 9 = .ok (.aload_n 3, 1) := by decide +kernel
theorem dX9_of_10 : decode cX9_of 10 = .ok (.ifnonnull 5, 3) := by decide +kernel
theorem dX9_of_13 : decode cX9_of 13 = .ok (.iconst (-1), 1) := by decide +kernel
theorem dX9_of_14 : decode cX9_of 14 = .ok (.ireturn, 1) := by decide +kernel
theorem dX9_of_15 : decode cX9_of 15 = .ok (.iload_n 2, 1) := by decide +kernel
theorem dX9_of_16 : decode cX9_of 16 = .ok (.iconst 0, 1) := by decide +kernel
theorem dX9_of_17 : decode cX9_of 17 = .ok (.bipush 10, 2) := by decide +kernel
theorem dX9_of_19 : decode cX9_of 19 = .ok (.invokestatic 55, 3) := by decide +kernel
theorem dX9_of_22 : decode cX9_of 22 = .ok (.ifCond .ne 6, 3) := by decide +kernel
theorem dX9_of_25 : decode cX9_of 25 = .ok (.bipush (-2), 2) := by decide +kernel
theorem dX9_of_27 : decode cX9_of 27 = .ok (.ireturn, 1) := by decide +kernel
theorem dX9_of_28 : decode cX9_of 28 = .ok (.aload_n 3, 1) := by decide +kernel
theorem dX9_of_29 : decode cX9_of 29 = .ok (.iload_n 2, 1) := by decide +kernel
theorem dX9_of_30 : decode cX9_of 30 = .ok (.invokevirtual 79, 3) := by decide +kernel
theorem dX9_of_33 : decode cX9_of 33 = .ok (.ireturn, 1) := by decide +kernel
theorem dX9_set_0 : decode cX9_set 0 = .ok (.aload_n 0, 1) := by decide +kernel
theorem dX9_set_1 : decode cX9_set 1 = .ok (.getfield 10, 3) := by decide +kernel
theorem dX9_set_4 : decode cX9_set 4 = .ok (.iload_n 1, 1) := by decide +kernel
theorem dX9_set_5 : decode cX9_set 5 = .ok (.invokevirtual 75, 3) := by decide +kernel
theorem dX9_set_8 : decode cX9_set 8 = .ok (.astore 4, 2) := by decide +kernel
theorem dX9_set_10 : decode cX9_set 10 = .ok (.aload 4, 2) := by decide +kernel
theorem dX9_set_12 : decode cX9_set 12 = .ok (.ifnonnull 5, 3) := by decide +kernel
theorem dX9_set_15 : decode cX9_set 15 = .ok (.iconst (-1), 1) := by decide +kernel
theorem dX9_set_16 : decode cX9_set 16 = .ok (.ireturn, 1) := by decide +kernel
theorem dX9_set_17 : decode cX9_set 17 = .ok (.iload_n 2, 1) := by decide +kernel
theorem dX9_set_18 : decode cX9_set 18 = .ok (.bipush 8, 2) := by decide +kernel
theorem dX9_set_20 : decode cX9_set 20 = .ok (.bipush 10, 2) := by decide +kernel
theorem dX9_set_22 : decode cX9_set 22 = .ok (.invokestatic 55, 3) := by decide +kernel
theorem dX9_set_25 : decode cX9_set 25 = .ok (.ifCond .ne 6, 3) := by decide +kernel
theorem dX9_set_28 : decode cX9_set 28 = .ok (.bipush (-2), 2) := by decide +kernel
theorem dX9_set_30 : decode cX9_set 30 = .ok (.ireturn, 1) := by decide +kernel
theorem dX9_set_31 : decode cX9_set 31 = .ok (.iload_n 3, 1) := by decide +kernel
theorem dX9_set_32 : decode cX9_set 32 = .ok (.iconst 0, 1) := by decide +kernel
theorem dX9_set_33 : decode cX9_set 33 = .ok (.iload_n 2, 1) := by decide +kernel
theorem dX9_set_34 : decode cX9_set 34 = .ok (.bipush 8, 2) := by decide +kernel
theorem dX9_set_36 : decode cX9_set 36 = .ok (.if_icmp .ne 8, 3) := by decide +kernel
theorem dX9_set_39 : decode cX9_set 39 = .ok (.bipush 8, 2) := by decide +kernel
theorem dX9_set_41 : decode cX9_set 41 = .ok (.goto 4, 3) := by decide +kernel
theorem dX9_set_44 : decode cX9_set 44 = .ok (.iconst 1, 1) := by decide +kernel
theorem dX9_set_45 : decode cX9_set 45 = .ok (.invokestatic 55, 3) := by decide +kernel
theorem dX9_set_48 : decode cX9_set 48 = .ok (.ifCond .ne 6, 3) := by decide +kernel
theorem dX9_set_51 : decode cX9_set 51 = .ok (.bipush (-2), 2) := by decide +kernel
theorem dX9_set_53 : decode cX9_set 53 = .ok (.ireturn, 1) := by decide +kernel
theorem dX9_set_54 : decode cX9_set 54 = .ok (.aload 4, 2) := by decide +kernel
theorem dX9_set_56 : decode cX9_set 56 = .ok (.iload_n 2, 1) := by decide +kernel
theorem dX9_set_57 : decode cX9_set 57 = .ok (.invokevirtual 79, 3) := by decide +kernel
theorem dX9_set_60 : decode cX9_set 60 = .ok (.istore 5, 2) := by decide +kernel
theorem dX9_set_62 : decode cX9_set 62 = .ok (.aload 4, 2) := by decide +kernel
theorem dX9_set_64 : decode cX9_set 64 = .ok (.iload_n 2, 1) := by decide +kernel
theorem dX9_set_65 : decode cX9_set 65 = .ok (.iload_n 3, 1) := by decide +kernel
theorem dX9_set_66 : decode cX9_set 66 = .ok (.invokevirtual 85, 3) := by decide +kernel
theorem dX9_set_69 : decode cX9_set 69 = .ok (.iload_n 2, 1) := by decide +kernel
theorem dX9_set_70 : decode cX9_set 70 = .ok (.bipush 9, 2) := by decide +kernel
theorem dX9_set_72 : decode cX9_set 72 = .ok (.if_icmp .ne 20, 3) := by decide +kernel
theorem dX9_set_75 : decode cX9_set 75 = .ok (.iload 5, 2) := by decide +kernel
theorem dX9_set_77 : decode cX9_set 77 = .ok (.iload_n 3, 1) := by decide +kernel
theorem dX9_set_78 : decode cX9_set 78 = .ok (.if_icmp .eq 14, 3) := by decide +kernel
theorem dX9_set_81 : decode cX9_set 81 = .ok (.aload_n 0, 1) := by decide +kernel
theorem dX9_set_82 : decode cX9_set 82 = .ok (.getfield 19, 3) := by decide +kernel
theorem dX9_set_85 : decode cX9_set 85 = .ok (.aload_n 0, 1) := by decide +kernel
theorem dX9_set_86 : decode cX9_set 86 = .ok (.getfield 10, 3) := by decide +kernel
theorem dX9_set_89 : decode cX9_set 89 = .ok (.invokevirtual 71, 3) := by decide +kernel
theorem dX9_set_92 : decode cX9_set 92 = .ok (.iload 5, 2) := by decide +kernel
theorem dX9_set_94 : decode cX9_set 94 = .ok (.ireturn, 1) := by decide +kernel
theorem dX9_at_0 : decode cX9_at 0 = .ok (.iload_n 1, 1) := by decide +kernel
theorem dX9_at_1 : decode cX9_at 1 = .ok (.invokestatic 89, 3) := by decide +kernel
theorem dX9_at_4 : decode cX9_at 4 = .ok (.ifCond .eq 10, 3) := by decide +kernel
theorem dX9_at_7 : decode cX9_at 7 = .ok (.iload_n 2, 1) := by decide +kernel
theorem dX9_at_8 : decode cX9_at 8 = .ok (.invokestatic 59, 3) := by decide +kernel
theorem dX9_at_11 : decode cX9_at 11 = .ok (.ifCond .ne 6, 3) := by decide +kernel
theorem dX9_at_14 : decode cX9_at 14 = .ok (.bipush (-2), 2) := by decide +kernel
theorem dX9_at_16 : decode cX9_at 16 = .ok (.ireturn, 1) := by decide +kernel
theorem dX9_at_17 : decode cX9_at 17 = .ok (.aload_n 0, 1) := by decide +kernel
theorem dX9_at_18 : decode cX9_at 18 = .ok (.getfield 10, 3) := by decide +kernel
theorem dX9_at_21 : decode cX9_at 21 = .ok (.iload_n 1, 1) := by decide +kernel
theorem dX9_at_22 : decode cX9_at 22 = .ok (.iload_n 2, 1) := by decide +kernel
theorem dX9_at_23 : decode cX9_at 23 = .ok (.invokevirtual 92, 3) := by decide +kernel
theorem dX9_at_26 : decode cX9_at 26 = .ok (.ireturn, 1) := by decide +kernel
theorem dX9_picture_0 : decode cX9_picture 0 = .ok (.iload_n 1, 1) := by decide +kernel
theorem dX9_picture_1 : decode cX9_picture 1 = .ok (.iload_n 2, 1) := by decide +kernel
theorem dX9_picture_2 : decode cX9_picture 2 = .ok (.invokestatic 96, 3) := by decide +kernel
theorem dX9_picture_5 : decode cX9_picture 5 = .ok (.ifCond .eq 10, 3) := by decide +kernel
theorem dX9_picture_8 : decode cX9_picture 8 = .ok (.iload_n 3, 1) := by decide +kernel
theorem dX9_picture_9 : decode cX9_picture 9 = .ok (.invokestatic 59, 3) := by decide +kernel
theorem dX9_picture_12 : decode cX9_picture 12 = .ok (.ifCond .ne 6, 3) := by decide +kernel
theorem dX9_picture_15 : decode cX9_picture 15 = .ok (.bipush (-2), 2) := by decide +kernel
theorem dX9_picture_17 : decode cX9_picture 17 = .ok (.ireturn, 1) := by decide +kernel
theorem dX9_picture_18 : decode cX9_picture 18 = .ok (.iload 4, 2) := by decide +kernel
theorem dX9_picture_20 : decode cX9_picture 20 = .ok (.iconst 0, 1) := by decide +kernel
theorem dX9_picture_21 : decode cX9_picture 21 = .ok (.iconst 3, 1) := by decide +kernel
theorem dX9_picture_22 : decode cX9_picture 22 = .ok (.invokestatic 55, 3) := by decide +kernel
theorem dX9_picture_25 : decode cX9_picture 25 = .ok (.ifCond .eq 14, 3) := by decide +kernel
theorem dX9_picture_28 : decode cX9_picture 28 = .ok (.iload 5, 2) := by decide +kernel
theorem dX9_picture_30 : decode cX9_picture 30 = .ok (.iconst 0, 1) := by decide +kernel
theorem dX9_picture_31 : decode cX9_picture 31 = .ok (.bipush 20, 2) := by decide +kernel
theorem dX9_picture_33 : decode cX9_picture 33 = .ok (.invokestatic 55, 3) := by decide +kernel
theorem dX9_picture_36 : decode cX9_picture 36 = .ok (.ifCond .ne 6, 3) := by decide +kernel
theorem dX9_picture_39 : decode cX9_picture 39 = .ok (.bipush (-2), 2) := by decide +kernel
theorem dX9_picture_41 : decode cX9_picture 41 = .ok (.ireturn, 1) := by decide +kernel
theorem dX9_picture_42 : decode cX9_picture 42 = .ok (.aload_n 0, 1) := by decide +kernel
theorem dX9_picture_43 : decode cX9_picture 43 = .ok (.getfield 19, 3) := by decide +kernel
theorem dX9_picture_46 : decode cX9_picture 46 = .ok (.invokevirtual 99, 3) := by decide +kernel
theorem dX9_picture_49 : decode cX9_picture 49 = .ok (.ifCond .eq 6, 3) := by decide +kernel
theorem dX9_picture_52 : decode cX9_picture 52 = .ok (.bipush (-4), 2) := by decide +kernel
theorem dX9_picture_54 : decode cX9_picture 54 = .ok (.ireturn, 1) := by decide +kernel
theorem dX9_picture_55 : decode cX9_picture 55 = .ok (.new 100, 3) := by decide +kernel
theorem dX9_picture_58 : decode cX9_picture 58 = .ok (.dup, 1) := by decide +kernel
theorem dX9_picture_59 : decode cX9_picture 59 = .ok (.iload_n 1, 1) := by decide +kernel
theorem dX9_picture_60 : decode cX9_picture 60 = .ok (.iload_n 2, 1) := by decide +kernel
theorem dX9_picture_61 : decode cX9_picture 61 = .ok (.iload_n 3, 1) := by decide +kernel
theorem dX9_picture_62 : decode cX9_picture 62 = .ok (.iload 4, 2) := by decide +kernel
theorem dX9_picture_64 : decode cX9_picture 64 = .ok (.iload 5, 2) := by decide +kernel
theorem dX9_picture_66 : decode cX9_picture 66 = .ok (.invokespecial 102, 3) := by decide +kernel
theorem dX9_picture_69 : decode cX9_picture 69 = .ok (.astore 6, 2) := by decide +kernel
theorem dX9_picture_71 : decode cX9_picture 71 = .ok (.aload 6, 2) := by decide +kernel
theorem dX9_picture_73 : decode cX9_picture 73 = .ok (.aload_n 0, 1) := by decide +kernel
theorem dX9_picture_74 : decode cX9_picture 74 = .ok (.getfield 10, 3) := by decide +kernel
theorem dX9_picture_77 : decode cX9_picture 77 = .ok (.invokevirtual 105, 3) := by decide +kernel
theorem dX9_picture_80 : decode cX9_picture 80 = .ok (.aload_n 0, 1) := by decide +kernel
theorem dX9_picture_81 : decode cX9_picture 81 = .ok (.getfield 19, 3) := by decide +kernel
theorem dX9_picture_84 : decode cX9_picture 84 = .ok (.aload 6, 2) := by decide +kernel
theorem dX9_picture_86 : decode cX9_picture 86 = .ok (.invokevirtual 106, 3) := by decide +kernel
theorem dX9_picture_89 : decode cX9_picture 89 = .ok (.ireturn, 1) := by decide +kernel
theorem dX9_cloud_0 : decode cX9_cloud 0 = .ok (.aload_n 0, 1) := by decide +kernel
theorem dX9_cloud_1 : decode cX9_cloud 1 = .ok (.getfield 19, 3) := by decide +kernel
theorem dX9_cloud_4 : decode cX9_cloud 4 = .ok (.iload_n 1, 1) := by decide +kernel
theorem dX9_cloud_5 : decode cX9_cloud 5 = .ok (.invokevirtual 109, 3) := by decide +kernel
theorem dX9_cloud_8 : decode cX9_cloud 8 = .ok (.astore 4, 2) := by decide +kernel
theorem dX9_cloud_10 : decode cX9_cloud 10 = .ok (.aload 4, 2) := by decide +kernel
theorem dX9_cloud_12 : decode cX9_cloud 12 = .ok (.ifnonnull 5, 3) := by decide +kernel
theorem dX9_cloud_15 : decode cX9_cloud 15 = .ok (.iconst (-1), 1) := by decide +kernel
theorem dX9_cloud_16 : decode cX9_cloud 16 = .ok (.ireturn, 1) := by decide +kernel
theorem dX9_cloud_17 : decode cX9_cloud 17 = .ok (.iload_n 2, 1) := by decide +kernel
theorem dX9_cloud_18 : decode cX9_cloud 18 = .ok (.invokestatic 89, 3) := by decide +kernel
theorem dX9_cloud_21 : decode cX9_cloud 21 = .ok (.ifCond .ne 6, 3) := by decide +kernel
theorem dX9_cloud_24 : decode cX9_cloud 24 = .ok (.bipush (-2), 2) := by decide +kernel
theorem dX9_cloud_26 : decode cX9_cloud 26 = .ok (.ireturn, 1) := by decide +kernel
theorem dX9_cloud_27 : decode cX9_cloud 27 = .ok (.aload 4, 2) := by decide +kernel
theorem dX9_cloud_29 : decode cX9_cloud 29 = .ok (.iload_n 2, 1) := by decide +kernel
theorem dX9_cloud_30 : decode cX9_cloud 30 = .ok (.iload_n 3, 1) := by decide +kernel
theorem dX9_cloud_31 : decode cX9_cloud 31 = .ok (.invokevirtual 112, 3) := by decide +kernel
theorem dX9_cloud_34 : decode cX9_cloud 34 = .ok (.ifCond .eq 7, 3) := by decide +kernel
theorem dX9_cloud_37 : decode cX9_cloud 37 = .ok (.iconst 1, 1) := by decide +kernel
theorem dX9_cloud_38 : decode cX9_cloud 38 = .ok (.goto 4, 3) := by decide +kernel
theorem dX9_cloud_41 : decode cX9_cloud 41 = .ok (.iconst 0, 1) := by decide +kernel
theorem dX9_cloud_42 : decode cX9_cloud 42 = .ok (.ireturn, 1) := by decide +kernel
theorem dX9_shows_0 : decode cX9_shows 0 = .ok (.aload_n 0, 1) := by decide +kernel
theorem dX9_shows_1 : decode cX9_shows 1 = .ok (.getfield 19, 3) := by decide +kernel
theorem dX9_shows_4 : decode cX9_shows 4 = .ok (.iload_n 1, 1) := by decide +kernel
theorem dX9_shows_5 : decode cX9_shows 5 = .ok (.invokevirtual 109, 3) := by decide +kernel
theorem dX9_shows_8 : decode cX9_shows 8 = .ok (.astore_n 3, 1) := by decide +kernel
theorem dX9_shows_9 : decode cX9_shows 9 = .ok (.aload_n 3, 1) := by decide +kernel
theorem dX9_shows_10 : decode cX9_shows 10 = .ok (.ifnonnull 5, 3) := by decide +kernel
theorem dX9_shows_13 : decode cX9_shows 13 = .ok (.iconst (-1), 1) := by decide +kernel
theorem dX9_shows_14 : decode cX9_shows 14 = .ok (.ireturn, 1) := by decide +kernel
theorem dX9_shows_15 : decode cX9_shows 15 = .ok (.iload_n 2, 1) := by decide +kernel
theorem dX9_shows_16 : decode cX9_shows 16 = .ok (.invokestatic 89, 3) := by decide +kernel
theorem dX9_shows_19 : decode cX9_shows 19 = .ok (.ifCond .ne 6, 3) := by decide +kernel
theorem dX9_shows_22 : decode cX9_shows 22 = .ok (.bipush (-2), 2) := by decide +kernel
theorem dX9_shows_24 : decode cX9_shows 24 = .ok (.ireturn, 1) := by decide +kernel
theorem dX9_shows_25 : decode cX9_shows 25 = .ok (.aload_n 3, 1) := by decide +kernel
theorem dX9_shows_26 : decode cX9_shows 26 = .ok (.iload_n 2, 1) := by decide +kernel
theorem dX9_shows_27 : decode cX9_shows 27 = .ok (.invokevirtual 116, 3) := by decide +kernel
theorem dX9_shows_30 : decode cX9_shows 30 = .ok (.ireturn, 1) := by decide +kernel
theorem dX9_count_0 : decode cX9_count 0 = .ok (.aload_n 0, 1) := by decide +kernel
theorem dX9_count_1 : decode cX9_count 1 = .ok (.getfield 19, 3) := by decide +kernel
theorem dX9_count_4 : decode cX9_count 4 = .ok (.iload_n 1, 1) := by decide +kernel
theorem dX9_count_5 : decode cX9_count 5 = .ok (.invokevirtual 109, 3) := by decide +kernel
theorem dX9_count_8 : decode cX9_count 8 = .ok (.astore_n 3, 1) := by decide +kernel
theorem dX9_count_9 : decode cX9_count 9 = .ok (.aload_n 3, 1) := by decide +kernel
theorem dX9_count_10 : decode cX9_count 10 = .ok (.ifnonnull 5, 3) := by decide +kernel
theorem dX9_count_13 : decode cX9_count 13 = .ok (.iconst (-1), 1) := by decide +kernel
theorem dX9_count_14 : decode cX9_count 14 = .ok (.ireturn, 1) := by decide +kernel
theorem dX9_count_15 : decode cX9_count 15 = .ok (.iload_n 2, 1) := by decide +kernel
theorem dX9_count_16 : decode cX9_count 16 = .ok (.iconst 0, 1) := by decide +kernel
theorem dX9_count_17 : decode cX9_count 17 = .ok (.iconst 3, 1) := by decide +kernel
theorem dX9_count_18 : decode cX9_count 18 = .ok (.invokestatic 55, 3) := by decide +kernel
theorem dX9_count_21 : decode cX9_count 21 = .ok (.ifCond .ne 6, 3) := by decide +kernel
theorem dX9_count_24 : decode cX9_count 24 = .ok (.bipush (-2), 2) := by decide +kernel
theorem dX9_count_26 : decode cX9_count 26 = .ok (.ireturn, 1) := by decide +kernel
theorem dX9_count_27 : decode cX9_count 27 = .ok (.aload_n 3, 1) := by decide +kernel
theorem dX9_count_28 : decode cX9_count 28 = .ok (.iload_n 2, 1) := by decide +kernel
theorem dX9_count_29 : decode cX9_count 29 = .ok (.invokevirtual 119, 3) := by decide +kernel
theorem dX9_count_32 : decode cX9_count 32 = .ok (.ireturn, 1) := by decide +kernel
theorem dX9_span_0 : decode cX9_span 0 = .ok (.aload_n 0, 1) := by decide +kernel
theorem dX9_span_1 : decode cX9_span 1 = .ok (.getfield 19, 3) := by decide +kernel
theorem dX9_span_4 : decode cX9_span 4 = .ok (.iload_n 1, 1) := by decide +kernel
theorem dX9_span_5 : decode cX9_span 5 = .ok (.invokevirtual 109, 3) := by decide +kernel
theorem dX9_span_8 : decode cX9_span 8 = .ok (.astore 4, 2) := by decide +kernel
theorem dX9_span_10 : decode cX9_span 10 = .ok (.aload 4, 2) := by decide +kernel
theorem dX9_span_12 : decode cX9_span 12 = .ok (.ifnonnull 5, 3) := by decide +kernel
theorem dX9_span_15 : decode cX9_span 15 = .ok (.iconst (-1), 1) := by decide +kernel
theorem dX9_span_16 : decode cX9_span 16 = .ok (.ireturn, 1) := by decide +kernel
theorem dX9_span_17 : decode cX9_span 17 = .ok (.iload_n 2, 1) := by decide +kernel
theorem dX9_span_18 : decode cX9_span 18 = .ok (.iconst 0, 1) := by decide +kernel
theorem dX9_span_19 : decode cX9_span 19 = .ok (.bipush 11, 2) := by decide +kernel
theorem dX9_span_21 : decode cX9_span 21 = .ok (.invokestatic 55, 3) := by decide +kernel
theorem dX9_span_24 : decode cX9_span 24 = .ok (.ifCond .eq 12, 3) := by decide +kernel
theorem dX9_span_27 : decode cX9_span 27 = .ok (.iload_n 3, 1) := by decide +kernel
theorem dX9_span_28 : decode cX9_span 28 = .ok (.iconst 0, 1) := by decide +kernel
theorem dX9_span_29 : decode cX9_span 29 = .ok (.iconst 1, 1) := by decide +kernel
theorem dX9_span_30 : decode cX9_span 30 = .ok (.invokestatic 55, 3) := by decide +kernel
theorem dX9_span_33 : decode cX9_span 33 = .ok (.ifCond .ne 6, 3) := by decide +kernel
theorem dX9_span_36 : decode cX9_span 36 = .ok (.bipush (-2), 2) := by decide +kernel
theorem dX9_span_38 : decode cX9_span 38 = .ok (.ireturn, 1) := by decide +kernel
theorem dX9_span_39 : decode cX9_span 39 = .ok (.iload_n 3, 1) := by decide +kernel
theorem dX9_span_40 : decode cX9_span 40 = .ok (.ifCond .ne 12, 3) := by decide +kernel
theorem dX9_span_43 : decode cX9_span 43 = .ok (.aload 4, 2) := by decide +kernel
theorem dX9_span_45 : decode cX9_span 45 = .ok (.iload_n 2, 1) := by decide +kernel
theorem dX9_span_46 : decode cX9_span 46 = .ok (.invokevirtual 122, 3) := by decide +kernel
theorem dX9_span_49 : decode cX9_span 49 = .ok (.goto 9, 3) := by decide +kernel
theorem dX9_span_52 : decode cX9_span 52 = .ok (.aload 4, 2) := by decide +kernel
theorem dX9_span_54 : decode cX9_span 54 = .ok (.iload_n 2, 1) := by decide +kernel
theorem dX9_span_55 : decode cX9_span 55 = .ok (.invokevirtual 125, 3) := by decide +kernel
theorem dX9_span_58 : decode cX9_span 58 = .ok (.ireturn, 1) := by decide +kernel
theorem dX9_changed_0 : decode cX9_changed 0 = .ok (.aload_n 0, 1) := by decide +kernel
theorem dX9_changed_1 : decode cX9_changed 1 = .ok (.getfield 19, 3) := by decide +kernel
theorem dX9_changed_4 : decode cX9_changed 4 = .ok (.iload_n 1, 1) := by decide +kernel
theorem dX9_changed_5 : decode cX9_changed 5 = .ok (.invokevirtual 109, 3) := by decide +kernel
theorem dX9_changed_8 : decode cX9_changed 8 = .ok (.astore 4, 2) := by decide +kernel
theorem dX9_changed_10 : decode cX9_changed 10 = .ok (.aload_n 0, 1) := by decide +kernel
theorem dX9_changed_11 : decode cX9_changed 11 = .ok (.getfield 19, 3) := by decide +kernel
theorem dX9_changed_14 : decode cX9_changed 14 = .ok (.iload_n 2, 1) := by decide +kernel
theorem dX9_changed_15 : decode cX9_changed 15 = .ok (.invokevirtual 109, 3) := by decide +kernel
theorem dX9_changed_18 : decode cX9_changed 18 = .ok (.astore 5, 2) := by decide +kernel
theorem dX9_changed_20 : decode cX9_changed 20 = .ok (.aload 4, 2) := by decide +kernel
theorem dX9_changed_22 : decode cX9_changed 22 = .ok (.ifnull 13, 3) := by decide +kernel
theorem dX9_changed_25 : decode cX9_changed 25 = .ok (.aload 5, 2) := by decide +kernel
theorem dX9_changed_27 : decode cX9_changed 27 = .ok (.ifnull 8, 3) := by decide +kernel
theorem dX9_changed_30 : decode cX9_changed 30 = .ok (.iload_n 1, 1) := by decide +kernel
theorem dX9_changed_31 : decode cX9_changed 31 = .ok (.iload_n 2, 1) := by decide +kernel
theorem dX9_changed_32 : decode cX9_changed 32 = .ok (.if_icmp .ne 5, 3) := by decide +kernel
theorem dX9_changed_35 : decode cX9_changed 35 = .ok (.iconst (-1), 1) := by decide +kernel
theorem dX9_changed_36 : decode cX9_changed 36 = .ok (.ireturn, 1) := by decide +kernel
theorem dX9_changed_37 : decode cX9_changed 37 = .ok (.iload_n 3, 1) := by decide +kernel
theorem dX9_changed_38 : decode cX9_changed 38 = .ok (.iconst 0, 1) := by decide +kernel
theorem dX9_changed_39 : decode cX9_changed 39 = .ok (.iconst 2, 1) := by decide +kernel
theorem dX9_changed_40 : decode cX9_changed 40 = .ok (.invokestatic 55, 3) := by decide +kernel
theorem dX9_changed_43 : decode cX9_changed 43 = .ok (.ifCond .ne 6, 3) := by decide +kernel
theorem dX9_changed_46 : decode cX9_changed 46 = .ok (.bipush (-2), 2) := by decide +kernel
theorem dX9_changed_48 : decode cX9_changed 48 = .ok (.ireturn, 1) := by decide +kernel
theorem dX9_changed_49 : decode cX9_changed 49 = .ok (.iload_n 3, 1) := by decide +kernel
theorem dX9_changed_50 : decode cX9_changed 50 = .ok (.iconst 2, 1) := by decide +kernel
theorem dX9_changed_51 : decode cX9_changed 51 = .ok (.if_icmp .ne 11, 3) := by decide +kernel
theorem dX9_changed_54 : decode cX9_changed 54 = .ok (.aload 4, 2) := by decide +kernel
theorem dX9_changed_56 : decode cX9_changed 56 = .ok (.aload 5, 2) := by decide +kernel
theorem dX9_changed_58 : decode cX9_changed 58 = .ok (.invokevirtual 128, 3) := by decide +kernel
theorem dX9_changed_61 : decode cX9_changed 61 = .ok (.ireturn, 1) := by decide +kernel
theorem dX9_changed_62 : decode cX9_changed 62 = .ok (.iload_n 3, 1) := by decide +kernel
theorem dX9_changed_63 : decode cX9_changed 63 = .ok (.ifCond .ne 13, 3) := by decide +kernel
theorem dX9_changed_66 : decode cX9_changed 66 = .ok (.aload 4, 2) := by decide +kernel
theorem dX9_changed_68 : decode cX9_changed 68 = .ok (.aload 5, 2) := by decide +kernel
theorem dX9_changed_70 : decode cX9_changed 70 = .ok (.invokevirtual 131, 3) := by decide +kernel
theorem dX9_changed_73 : decode cX9_changed 73 = .ok (.goto 10, 3) := by decide +kernel
theorem dX9_changed_76 : decode cX9_changed 76 = .ok (.aload 4, 2) := by decide +kernel
theorem dX9_changed_78 : decode cX9_changed 78 = .ok (.aload 5, 2) := by decide +kernel
theorem dX9_changed_80 : decode cX9_changed 80 = .ok (.invokevirtual 134, 3) := by decide +kernel
theorem dX9_changed_83 : decode cX9_changed 83 = .ok (.ireturn, 1) := by decide +kernel
theorem dX9_say_0 : decode cX9_say 0 = .ok (.iload_n 1, 1) := by decide +kernel
theorem dX9_say_1 : decode cX9_say 1 = .ok (.bipush 33, 2) := by decide +kernel
theorem dX9_say_3 : decode cX9_say 3 = .ok (.bipush 126, 2) := by decide +kernel
theorem dX9_say_5 : decode cX9_say 5 = .ok (.invokestatic 55, 3) := by decide +kernel
theorem dX9_say_8 : decode cX9_say 8 = .ok (.ifCond .ne 6, 3) := by decide +kernel
theorem dX9_say_11 : decode cX9_say 11 = .ok (.bipush (-2), 2) := by decide +kernel
theorem dX9_say_13 : decode cX9_say 13 = .ok (.ireturn, 1) := by decide +kernel
theorem dX9_say_14 : decode cX9_say 14 = .ok (.aload_n 0, 1) := by decide +kernel
theorem dX9_say_15 : decode cX9_say 15 = .ok (.getfield 33, 3) := by decide +kernel
theorem dX9_say_18 : decode cX9_say 18 = .ok (.iload_n 1, 1) := by decide +kernel
theorem dX9_say_19 : decode cX9_say 19 = .ok (.invokevirtual 137, 3) := by decide +kernel
theorem dX9_say_22 : decode cX9_say 22 = .ok (.ireturn, 1) := by decide +kernel
theorem dX9_wipe_0 : decode cX9_wipe 0 = .ok (.aload_n 0, 1) := by decide +kernel
theorem dX9_wipe_1 : decode cX9_wipe 1 = .ok (.getfield 33, 3) := by decide +kernel
theorem dX9_wipe_4 : decode cX9_wipe 4 = .ok (.invokevirtual 140, 3) := by decide +kernel
theorem dX9_wipe_7 : decode cX9_wipe 7 = .ok (.ireturn, 1) := by decide +kernel
theorem dX9_fault_0 : decode cX9_fault 0 = .ok (.aload_n 0, 1) := by decide +kernel
theorem dX9_fault_1 : decode cX9_fault 1 = .ok (.getfield 33, 3) := by decide +kernel
theorem dX9_fault_4 : decode cX9_fault 4 = .ok (.invokevirtual 144, 3) := by decide +kernel
theorem dX9_fault_7 : decode cX9_fault 7 = .ok (.ireturn, 1) := by decide +kernel
theorem dX9_use_0 : decode cX9_use 0 = .ok (.aload_n 0, 1) := by decide +kernel
theorem dX9_use_1 : decode cX9_use 1 = .ok (.getfield 33, 3) := by decide +kernel
theorem dX9_use_4 : decode cX9_use 4 = .ok (.iload_n 1, 1) := by decide +kernel
theorem dX9_use_5 : decode cX9_use 5 = .ok (.invokevirtual 147, 3) := by decide +kernel
theorem dX9_use_8 : decode cX9_use 8 = .ok (.ifCond .ne 5, 3) := by decide +kernel
theorem dX9_use_11 : decode cX9_use 11 = .ok (.iconst (-1), 1) := by decide +kernel
theorem dX9_use_12 : decode cX9_use 12 = .ok (.ireturn, 1) := by decide +kernel
theorem dX9_use_13 : decode cX9_use 13 = .ok (.aload_n 0, 1) := by decide +kernel
theorem dX9_use_14 : decode cX9_use 14 = .ok (.getfield 33, 3) := by decide +kernel
theorem dX9_use_17 : decode cX9_use 17 = .ok (.invokevirtual 144, 3) := by decide +kernel
theorem dX9_use_20 : decode cX9_use 20 = .ok (.bipush (-6), 2) := by decide +kernel
theorem dX9_use_22 : decode cX9_use 22 = .ok (.if_icmp .eq 6, 3) := by decide +kernel
theorem dX9_use_25 : decode cX9_use 25 = .ok (.bipush (-5), 2) := by decide +kernel
theorem dX9_use_27 : decode cX9_use 27 = .ok (.ireturn, 1) := by decide +kernel
theorem dX9_use_28 : decode cX9_use 28 = .ok (.aload_n 0, 1) := by decide +kernel
theorem dX9_use_29 : decode cX9_use 29 = .ok (.getfield 33, 3) := by decide +kernel
theorem dX9_use_32 : decode cX9_use 32 = .ok (.iload_n 1, 1) := by decide +kernel
theorem dX9_use_33 : decode cX9_use 33 = .ok (.invokevirtual 150, 3) := by decide +kernel
theorem dX9_use_36 : decode cX9_use 36 = .ok (.ifCond .eq 7, 3) := by decide +kernel
theorem dX9_use_39 : decode cX9_use 39 = .ok (.iconst 0, 1) := by decide +kernel
theorem dX9_use_40 : decode cX9_use 40 = .ok (.goto 4, 3) := by decide +kernel
theorem dX9_use_43 : decode cX9_use 43 = .ok (.iconst 1, 1) := by decide +kernel
theorem dX9_use_44 : decode cX9_use 44 = .ok (.istore_n 2, 1) := by decide +kernel
theorem dX9_use_45 : decode cX9_use 45 = .ok (.aload_n 0, 1) := by decide +kernel
theorem dX9_use_46 : decode cX9_use 46 = .ok (.getfield 33, 3) := by decide +kernel
theorem dX9_use_49 : decode cX9_use 49 = .ok (.iload_n 1, 1) := by decide +kernel
theorem dX9_use_50 : decode cX9_use 50 = .ok (.invokevirtual 153, 3) := by decide +kernel
theorem dX9_use_53 : decode cX9_use 53 = .ok (.iload_n 2, 1) := by decide +kernel
theorem dX9_use_54 : decode cX9_use 54 = .ok (.ireturn, 1) := by decide +kernel
theorem dX9_fact_0 : decode cX9_fact 0 = .ok (.aload_n 0, 1) := by decide +kernel
theorem dX9_fact_1 : decode cX9_fact 1 = .ok (.getfield 10, 3) := by decide +kernel
theorem dX9_fact_4 : decode cX9_fact 4 = .ok (.iload_n 1, 1) := by decide +kernel
theorem dX9_fact_5 : decode cX9_fact 5 = .ok (.invokevirtual 75, 3) := by decide +kernel
theorem dX9_fact_8 : decode cX9_fact 8 = .ok (.astore 4, 2) := by decide +kernel
theorem dX9_fact_10 : decode cX9_fact 10 = .ok (.aload 4, 2) := by decide +kernel
theorem dX9_fact_12 : decode cX9_fact 12 = .ok (.ifnonnull 5, 3) := by decide +kernel
theorem dX9_fact_15 : decode cX9_fact 15 = .ok (.iconst (-1), 1) := by decide +kernel
theorem dX9_fact_16 : decode cX9_fact 16 = .ok (.ireturn, 1) := by decide +kernel
theorem dX9_fact_17 : decode cX9_fact 17 = .ok (.iload_n 2, 1) := by decide +kernel
theorem dX9_fact_18 : decode cX9_fact 18 = .ok (.invokestatic 59, 3) := by decide +kernel
theorem dX9_fact_21 : decode cX9_fact 21 = .ok (.ifCond .eq 13, 3) := by decide +kernel
theorem dX9_fact_24 : decode cX9_fact 24 = .ok (.iload_n 3, 1) := by decide +kernel
theorem dX9_fact_25 : decode cX9_fact 25 = .ok (.iconst 0, 1) := by decide +kernel
theorem dX9_fact_26 : decode cX9_fact 26 = .ok (.bipush 8, 2) := by decide +kernel
theorem dX9_fact_28 : decode cX9_fact 28 = .ok (.invokestatic 55, 3) := by decide +kernel
theorem dX9_fact_31 : decode cX9_fact 31 = .ok (.ifCond .ne 6, 3) := by decide +kernel
theorem dX9_fact_34 : decode cX9_fact 34 = .ok (.bipush (-2), 2) := by decide +kernel
theorem dX9_fact_36 : decode cX9_fact 36 = .ok (.ireturn, 1) := by decide +kernel
theorem dX9_fact_37 : decode cX9_fact 37 = .ok (.aload_n 0, 1) := by decide +kernel
theorem dX9_fact_38 : decode cX9_fact 38 = .ok (.getfield 26, 3) := by decide +kernel
theorem dX9_fact_41 : decode cX9_fact 41 = .ok (.aload 4, 2) := by decide +kernel
theorem dX9_fact_43 : decode cX9_fact 43 = .ok (.aload_n 0, 1) := by decide +kernel
theorem dX9_fact_44 : decode cX9_fact 44 = .ok (.getfield 19, 3) := by decide +kernel
theorem dX9_fact_47 : decode cX9_fact 47 = .ok (.iload_n 2, 1) := by decide +kernel
theorem dX9_fact_48 : decode cX9_fact 48 = .ok (.invokevirtual 157, 3) := by decide +kernel
theorem dX9_fact_51 : decode cX9_fact 51 = .ok (.aload_n 0, 1) := by decide +kernel
theorem dX9_fact_52 : decode cX9_fact 52 = .ok (.getfield 26, 3) := by decide +kernel
theorem dX9_fact_55 : decode cX9_fact 55 = .ok (.iload_n 3, 1) := by decide +kernel
theorem dX9_fact_56 : decode cX9_fact 56 = .ok (.invokevirtual 161, 3) := by decide +kernel
theorem dX9_fact_59 : decode cX9_fact 59 = .ok (.ireturn, 1) := by decide +kernel
theorem dX9_fit_0 : decode cX9_fit 0 = .ok (.aload_n 0, 1) := by decide +kernel
theorem dX9_fit_1 : decode cX9_fit 1 = .ok (.getfield 10, 3) := by decide +kernel
theorem dX9_fit_4 : decode cX9_fit 4 = .ok (.iload_n 2, 1) := by decide +kernel
theorem dX9_fit_5 : decode cX9_fit 5 = .ok (.invokevirtual 75, 3) := by decide +kernel
theorem dX9_fit_8 : decode cX9_fit 8 = .ok (.astore 4, 2) := by decide +kernel
theorem dX9_fit_10 : decode cX9_fit 10 = .ok (.aload_n 0, 1) := by decide +kernel
theorem dX9_fit_11 : decode cX9_fit 11 = .ok (.getfield 33, 3) := by decide +kernel
theorem dX9_fit_14 : decode cX9_fit 14 = .ok (.iload_n 1, 1) := by decide +kernel
theorem dX9_fit_15 : decode cX9_fit 15 = .ok (.invokevirtual 150, 3) := by decide +kernel
theorem dX9_fit_18 : decode cX9_fit 18 = .ok (.ifCond .eq 8, 3) := by decide +kernel
theorem dX9_fit_21 : decode cX9_fit 21 = .ok (.aload 4, 2) := by decide +kernel
theorem dX9_fit_23 : decode cX9_fit 23 = .ok (.ifnonnull 5, 3) := by decide +kernel
theorem dX9_fit_26 : decode cX9_fit 26 = .ok (.iconst (-1), 1) := by decide +kernel
theorem dX9_fit_27 : decode cX9_fit 27 = .ok (.ireturn, 1) := by decide +kernel
theorem dX9_fit_28 : decode cX9_fit 28 = .ok (.iload_n 3, 1) := by decide +kernel
theorem dX9_fit_29 : decode cX9_fit 29 = .ok (.invokestatic 59, 3) := by decide +kernel
theorem dX9_fit_32 : decode cX9_fit 32 = .ok (.ifCond .ne 6, 3) := by decide +kernel
theorem dX9_fit_35 : decode cX9_fit 35 = .ok (.bipush (-2), 2) := by decide +kernel
theorem dX9_fit_37 : decode cX9_fit 37 = .ok (.ireturn, 1) := by decide +kernel
theorem dX9_fit_38 : decode cX9_fit 38 = .ok (.aload_n 0, 1) := by decide +kernel
theorem dX9_fit_39 : decode cX9_fit 39 = .ok (.iload_n 1, 1) := by decide +kernel
theorem dX9_fit_40 : decode cX9_fit 40 = .ok (.aload 4, 2) := by decide +kernel
theorem dX9_fit_42 : decode cX9_fit 42 = .ok (.iload_n 3, 1) := by decide +kernel
theorem dX9_fit_43 : decode cX9_fit 43 = .ok (.invokevirtual 164, 3) := by decide +kernel
theorem dX9_fit_46 : decode cX9_fit 46 = .ok (.ireturn, 1) := by decide +kernel
theorem dX9_could_0 : decode cX9_could 0 = .ok (.aload_n 0, 1) := by decide +kernel
theorem dX9_could_1 : decode cX9_could 1 = .ok (.getfield 10, 3) := by decide +kernel
theorem dX9_could_4 : decode cX9_could 4 = .ok (.iload_n 2, 1) := by decide +kernel
theorem dX9_could_5 : decode cX9_could 5 = .ok (.invokevirtual 75, 3) := by decide +kernel
theorem dX9_could_8 : decode cX9_could 8 = .ok (.astore_n 3, 1) := by decide +kernel
theorem dX9_could_9 : decode cX9_could 9 = .ok (.aload_n 0, 1) := by decide +kernel
theorem dX9_could_10 : decode cX9_could 10 = .ok (.getfield 33, 3) := by decide +kernel
theorem dX9_could_13 : decode cX9_could 13 = .ok (.iload_n 1, 1) := by decide +kernel
theorem dX9_could_14 : decode cX9_could 14 = .ok (.invokevirtual 150, 3) := by decide +kernel
theorem dX9_could_17 : decode cX9_could 17 = .ok (.ifCond .eq 7, 3) := by decide +kernel
theorem dX9_could_20 : decode cX9_could 20 = .ok (.aload_n 3, 1) := by decide +kernel
theorem dX9_could_21 : decode cX9_could 21 = .ok (.ifnonnull 5, 3) := by decide +kernel
theorem dX9_could_24 : decode cX9_could 24 = .ok (.iconst (-1), 1) := by decide +kernel
theorem dX9_could_25 : decode cX9_could 25 = .ok (.ireturn, 1) := by decide +kernel
theorem dX9_could_26 : decode cX9_could 26 = .ok (.iconst 0, 1) := by decide +kernel
theorem dX9_could_27 : decode cX9_could 27 = .ok (.istore 4, 2) := by decide +kernel
theorem dX9_could_29 : decode cX9_could 29 = .ok (.iload 4, 2) := by decide +kernel
theorem dX9_could_31 : decode cX9_could 31 = .ok (.bipush 100, 2) := by decide +kernel
theorem dX9_could_33 : decode cX9_could 33 = .ok (.if_icmp .ge 53, 3) := by decide +kernel
theorem dX9_could_36 : decode cX9_could 36 = .ok (.iload 4, 2) := by decide +kernel
theorem dX9_could_38 : decode cX9_could 38 = .ok (.ifCond .eq 15, 3) := by decide +kernel
theorem dX9_could_41 : decode cX9_could 41 = .ok (.aload_n 0, 1) := by decide +kernel
theorem dX9_could_42 : decode cX9_could 42 = .ok (.getfield 19, 3) := by decide +kernel
theorem dX9_could_45 : decode cX9_could 45 = .ok (.iload 4, 2) := by decide +kernel
theorem dX9_could_47 : decode cX9_could 47 = .ok (.invokevirtual 168, 3) := by decide +kernel
theorem dX9_could_50 : decode cX9_could 50 = .ok (.ifCond .eq 7, 3) := by decide +kernel
theorem dX9_could_53 : decode cX9_could 53 = .ok (.iconst 1, 1) := by decide +kernel
theorem dX9_could_54 : decode cX9_could 54 = .ok (.goto 4, 3) := by decide +kernel
theorem dX9_could_57 : decode cX9_could 57 = .ok (.iconst 0, 1) := by decide +kernel
theorem dX9_could_58 : decode cX9_could 58 = .ok (.istore 5, 2) := by decide +kernel
theorem dX9_could_60 : decode cX9_could 60 = .ok (.iload 5, 2) := by decide +kernel
theorem dX9_could_62 : decode cX9_could 62 = .ok (.ifCond .eq 18, 3) := by decide +kernel
theorem dX9_could_65 : decode cX9_could 65 = .ok (.aload_n 0, 1) := by decide +kernel
theorem dX9_could_66 : decode cX9_could 66 = .ok (.iload_n 1, 1) := by decide +kernel
theorem dX9_could_67 : decode cX9_could 67 = .ok (.aload_n 3, 1) := by decide +kernel
theorem dX9_could_68 : decode cX9_could 68 = .ok (.iload 4, 2) := by decide +kernel
theorem dX9_could_70 : decode cX9_could 70 = .ok (.invokevirtual 164, 3) := by decide +kernel
theorem dX9_could_73 : decode cX9_could 73 = .ok (.iconst 2, 1) := by decide +kernel
theorem dX9_could_74 : decode cX9_could 74 = .ok (.if_icmp .ne 6, 3) := by decide +kernel
theorem dX9_could_77 : decode cX9_could 77 = .ok (.iload 4, 2) := by decide +kernel
theorem dX9_could_79 : decode cX9_could 79 = .ok (.ireturn, 1) := by decide +kernel
theorem dX9_could_80 : decode cX9_could 80 = .ok (.iinc 4 1, 3) := by decide +kernel
theorem dX9_could_83 : decode cX9_could 83 = .ok (.goto (-54), 3) := by decide +kernel
theorem dX9_could_86 : decode cX9_could 86 = .ok (.bipush (-6), 2) := by decide +kernel
theorem dX9_could_88 : decode cX9_could 88 = .ok (.ireturn, 1) := by decide +kernel
theorem dX9_all_0 : decode cX9_all 0 = .ok (.aload_n 0, 1) := by decide +kernel
theorem dX9_all_1 : decode cX9_all 1 = .ok (.getfield 33, 3) := by decide +kernel
theorem dX9_all_4 : decode cX9_all 4 = .ok (.iload_n 1, 1) := by decide +kernel
theorem dX9_all_5 : decode cX9_all 5 = .ok (.invokevirtual 150, 3) := by decide +kernel
theorem dX9_all_8 : decode cX9_all 8 = .ok (.ifCond .ne 5, 3) := by decide +kernel
theorem dX9_all_11 : decode cX9_all 11 = .ok (.iconst (-1), 1) := by decide +kernel
theorem dX9_all_12 : decode cX9_all 12 = .ok (.ireturn, 1) := by decide +kernel
theorem dX9_all_13 : decode cX9_all 13 = .ok (.iload_n 2, 1) := by decide +kernel
theorem dX9_all_14 : decode cX9_all 14 = .ok (.invokestatic 59, 3) := by decide +kernel
theorem dX9_all_17 : decode cX9_all 17 = .ok (.ifCond .eq 12, 3) := by decide +kernel
theorem dX9_all_20 : decode cX9_all 20 = .ok (.iload_n 3, 1) := by decide +kernel
theorem dX9_all_21 : decode cX9_all 21 = .ok (.iconst 0, 1) := by decide +kernel
theorem dX9_all_22 : decode cX9_all 22 = .ok (.iconst 2, 1) := by decide +kernel
theorem dX9_all_23 : decode cX9_all 23 = .ok (.invokestatic 55, 3) := by decide +kernel
theorem dX9_all_26 : decode cX9_all 26 = .ok (.ifCond .ne 6, 3) := by decide +kernel
theorem dX9_all_29 : decode cX9_all 29 = .ok (.bipush (-2), 2) := by decide +kernel
theorem dX9_all_31 : decode cX9_all 31 = .ok (.ireturn, 1) := by decide +kernel
theorem dX9_all_32 : decode cX9_all 32 = .ok (.iconst 0, 1) := by decide +kernel
theorem dX9_all_33 : decode cX9_all 33 = .ok (.istore 4, 2) := by decide +kernel
theorem dX9_all_35 : decode cX9_all 35 = .ok (.iconst 0, 1) := by decide +kernel
theorem dX9_all_36 : decode cX9_all 36 = .ok (.istore 5, 2) := by decide +kernel
theorem dX9_all_38 : decode cX9_all 38 = .ok (.iload 5, 2) := by decide +kernel
theorem dX9_all_40 : decode cX9_all 40 = .ok (.aload_n 0, 1) := by decide +kernel
theorem dX9_all_41 : decode cX9_all 41 = .ok (.getfield 10, 3) := by decide +kernel
theorem dX9_all_44 : decode cX9_all 44 = .ok (.invokevirtual 171, 3) := by decide +kernel
theorem dX9_all_47 : decode cX9_all 47 = .ok (.if_icmp .ge 46, 3) := by decide +kernel
theorem dX9_all_50 : decode cX9_all 50 = .ok (.aload_n 0, 1) := by decide +kernel
theorem dX9_all_51 : decode cX9_all 51 = .ok (.getfield 10, 3) := by decide +kernel
theorem dX9_all_54 : decode cX9_all 54 = .ok (.iload 5, 2) := by decide +kernel
theorem dX9_all_56 : decode cX9_all 56 = .ok (.invokevirtual 75, 3) := by decide +kernel
theorem dX9_all_59 : decode cX9_all 59 = .ok (.astore 6, 2) := by decide +kernel
theorem dX9_all_61 : decode cX9_all 61 = .ok (.aload 6, 2) := by decide +kernel
theorem dX9_all_63 : decode cX9_all 63 = .ok (.ifnull 24, 3) := by decide +kernel
theorem dX9_all_66 : decode cX9_all 66 = .ok (.aload_n 0, 1) := by decide +kernel
theorem dX9_all_67 : decode cX9_all 67 = .ok (.iload_n 1, 1) := by decide +kernel
theorem dX9_all_68 : decode cX9_all 68 = .ok (.aload 6, 2) := by decide +kernel
theorem dX9_all_70 : decode cX9_all 70 = .ok (.iload_n 2, 1) := by decide +kernel
theorem dX9_all_71 : decode cX9_all 71 = .ok (.invokevirtual 164, 3) := by decide +kernel
theorem dX9_all_74 : decode cX9_all 74 = .ok (.iload_n 3, 1) := by decide +kernel
theorem dX9_all_75 : decode cX9_all 75 = .ok (.if_icmp .ne 12, 3) := by decide +kernel
theorem dX9_all_78 : decode cX9_all 78 = .ok (.iload 4, 2) := by decide +kernel
theorem dX9_all_80 : decode cX9_all 80 = .ok (.iconst 1, 1) := by decide +kernel
theorem dX9_all_81 : decode cX9_all 81 = .ok (.iload 5, 2) := by decide +kernel
theorem dX9_all_83 : decode cX9_all 83 = .ok (.ishl, 1) := by decide +kernel
theorem dX9_all_84 : decode cX9_all 84 = .ok (.ior, 1) := by decide +kernel
theorem dX9_all_85 : decode cX9_all 85 = .ok (.istore 4, 2) := by decide +kernel
theorem dX9_all_87 : decode cX9_all 87 = .ok (.iinc 5 1, 3) := by decide +kernel
theorem dX9_all_90 : decode cX9_all 90 = .ok (.goto (-52), 3) := by decide +kernel
theorem dX9_all_93 : decode cX9_all 93 = .ok (.iload 4, 2) := by decide +kernel
theorem dX9_all_95 : decode cX9_all 95 = .ok (.ireturn, 1) := by decide +kernel
theorem dX9_meet_0 : decode cX9_meet 0 = .ok (.iload_n 1, 1) := by decide +kernel
theorem dX9_meet_1 : decode cX9_meet 1 = .ok (.invokestatic 59, 3) := by decide +kernel
theorem dX9_meet_4 : decode cX9_meet 4 = .ok (.ifCond .eq 12, 3) := by decide +kernel
theorem dX9_meet_7 : decode cX9_meet 7 = .ok (.iload_n 2, 1) := by decide +kernel
theorem dX9_meet_8 : decode cX9_meet 8 = .ok (.iconst 0, 1) := by decide +kernel
theorem dX9_meet_9 : decode cX9_meet 9 = .ok (.iconst 1, 1) := by decide +kernel
theorem dX9_meet_10 : decode cX9_meet 10 = .ok (.invokestatic 55, 3) := by decide +kernel
theorem dX9_meet_13 : decode cX9_meet 13 = .ok (.ifCond .ne 6, 3) := by decide +kernel
theorem dX9_meet_16 : decode cX9_meet 16 = .ok (.bipush (-2), 2) := by decide +kernel
theorem dX9_meet_18 : decode cX9_meet 18 = .ok (.ireturn, 1) := by decide +kernel
theorem dX9_meet_19 : decode cX9_meet 19 = .ok (.aload_n 0, 1) := by decide +kernel
theorem dX9_meet_20 : decode cX9_meet 20 = .ok (.getfield 40, 3) := by decide +kernel
theorem dX9_meet_23 : decode cX9_meet 23 = .ok (.aload_n 0, 1) := by decide +kernel
theorem dX9_meet_24 : decode cX9_meet 24 = .ok (.getfield 10, 3) := by decide +kernel
theorem dX9_meet_27 : decode cX9_meet 27 = .ok (.iload_n 1, 1) := by decide +kernel
theorem dX9_meet_28 : decode cX9_meet 28 = .ok (.invokevirtual 174, 3) := by decide +kernel
theorem dX9_meet_31 : decode cX9_meet 31 = .ok (.iload_n 2, 1) := by decide +kernel
theorem dX9_meet_32 : decode cX9_meet 32 = .ok (.ifCond .ne 13, 3) := by decide +kernel
theorem dX9_meet_35 : decode cX9_meet 35 = .ok (.aload_n 0, 1) := by decide +kernel
theorem dX9_meet_36 : decode cX9_meet 36 = .ok (.getfield 40, 3) := by decide +kernel
theorem dX9_meet_39 : decode cX9_meet 39 = .ok (.invokevirtual 178, 3) := by decide +kernel
theorem dX9_meet_42 : decode cX9_meet 42 = .ok (.goto 10, 3) := by decide +kernel
theorem dX9_meet_45 : decode cX9_meet 45 = .ok (.aload_n 0, 1) := by decide +kernel
theorem dX9_meet_46 : decode cX9_meet 46 = .ok (.getfield 40, 3) := by decide +kernel
theorem dX9_meet_49 : decode cX9_meet 49 = .ok (.invokevirtual 181, 3) := by decide +kernel
theorem dX9_meet_52 : decode cX9_meet 52 = .ok (.ireturn, 1) := by decide +kernel
theorem dX9_chance_0 : decode cX9_chance 0 = .ok (.iload_n 1, 1) := by decide +kernel
theorem dX9_chance_1 : decode cX9_chance 1 = .ok (.invokestatic 59, 3) := by decide +kernel
theorem dX9_chance_4 : decode cX9_chance 4 = .ok (.ifCond .eq 10, 3) := by decide +kernel
theorem dX9_chance_7 : decode cX9_chance 7 = .ok (.iload_n 2, 1) := by decide +kernel
theorem dX9_chance_8 : decode cX9_chance 8 = .ok (.invokestatic 184, 3) := by decide +kernel
theorem dX9_chance_11 : decode cX9_chance 11 = .ok (.ifCond .ne 7, 3) := by decide +kernel
theorem dX9_chance_14 : decode cX9_chance 14 = .ok (.ldc2_w 187, 3) := by decide +kernel
theorem dX9_chance_17 : decode cX9_chance 17 = .ok (.lreturn, 1) := by decide +kernel
theorem dX9_chance_18 : decode cX9_chance 18 = .ok (.aload_n 0, 1) := by decide +kernel
theorem dX9_chance_19 : decode cX9_chance 19 = .ok (.getfield 40, 3) := by decide +kernel
theorem dX9_chance_22 : decode cX9_chance 22 = .ok (.aload_n 0, 1) := by decide +kernel
theorem dX9_chance_23 : decode cX9_chance 23 = .ok (.getfield 10, 3) := by decide +kernel
theorem dX9_chance_26 : decode cX9_chance 26 = .ok (.iload_n 1, 1) := by decide +kernel
theorem dX9_chance_27 : decode cX9_chance 27 = .ok (.invokevirtual 174, 3) := by decide +kernel
theorem dX9_chance_30 : decode cX9_chance 30 = .ok (.aload_n 0, 1) := by decide +kernel
theorem dX9_chance_31 : decode cX9_chance 31 = .ok (.getfield 40, 3) := by decide +kernel
theorem dX9_chance_34 : decode cX9_chance 34 = .ok (.invokevirtual 178, 3) := by decide +kernel
theorem dX9_chance_37 : decode cX9_chance 37 = .ok (.bipush (-6), 2) := by decide +kernel
theorem dX9_chance_39 : decode cX9_chance 39 = .ok (.if_icmp .ne 7, 3) := by decide +kernel
theorem dX9_chance_42 : decode cX9_chance 42 = .ok (.ldc2_w 189, 3) := by decide +kernel
theorem dX9_chance_45 : decode cX9_chance 45 = .ok (.lreturn, 1) := by decide +kernel
theorem dX9_chance_46 : decode cX9_chance 46 = .ok (.aload_n 0, 1) := by decide +kernel
theorem dX9_chance_47 : decode cX9_chance 47 = .ok (.getfield 40, 3) := by decide +kernel
theorem dX9_chance_50 : decode cX9_chance 50 = .ok (.aload_n 0, 1) := by decide +kernel
theorem dX9_chance_51 : decode cX9_chance 51 = .ok (.getfield 10, 3) := by decide +kernel
theorem dX9_chance_54 : decode cX9_chance 54 = .ok (.iload_n 1, 1) := by decide +kernel
theorem dX9_chance_55 : decode cX9_chance 55 = .ok (.invokevirtual 191, 3) := by decide +kernel
theorem dX9_chance_58 : decode cX9_chance 58 = .ok (.ifCond .eq 7, 3) := by decide +kernel
theorem dX9_chance_61 : decode cX9_chance 61 = .ok (.lconst 1, 1) := by decide +kernel
theorem dX9_chance_62 : decode cX9_chance 62 = .ok (.goto 4, 3) := by decide +kernel
theorem dX9_chance_65 : decode cX9_chance 65 = .ok (.lconst 0, 1) := by decide +kernel
theorem dX9_chance_66 : decode cX9_chance 66 = .ok (.lstore_n 3, 1) := by decide +kernel
theorem dX9_chance_67 : decode cX9_chance 67 = .ok (.lload_n 3, 1) := by decide +kernel
theorem dX9_chance_68 : decode cX9_chance 68 = .ok (.aload_n 0, 1) := by decide +kernel
theorem dX9_chance_69 : decode cX9_chance 69 = .ok (.getfield 40, 3) := by decide +kernel
theorem dX9_chance_72 : decode cX9_chance 72 = .ok (.aload_n 0, 1) := by decide +kernel
theorem dX9_chance_73 : decode cX9_chance 73 = .ok (.getfield 10, 3) := by decide +kernel
theorem dX9_chance_76 : decode cX9_chance 76 = .ok (.iload_n 1, 1) := by decide +kernel
theorem dX9_chance_77 : decode cX9_chance 77 = .ok (.invokevirtual 195, 3) := by decide +kernel
theorem dX9_chance_80 : decode cX9_chance 80 = .ok (.iload_n 2, 1) := by decide +kernel
theorem dX9_chance_81 : decode cX9_chance 81 = .ok (.invokestatic 199, 3) := by decide +kernel
theorem dX9_chance_84 : decode cX9_chance 84 = .ok (.lreturn, 1) := by decide +kernel
theorem dX9_did_0 : decode cX9_did 0 = .ok (.aload_n 0, 1) := by decide +kernel
theorem dX9_did_1 : decode cX9_did 1 = .ok (.getfield 10, 3) := by decide +kernel
theorem dX9_did_4 : decode cX9_did 4 = .ok (.iload_n 1, 1) := by decide +kernel
theorem dX9_did_5 : decode cX9_did 5 = .ok (.invokevirtual 75, 3) := by decide +kernel
theorem dX9_did_8 : decode cX9_did 8 = .ok (.astore 4, 2) := by decide +kernel
theorem dX9_did_10 : decode cX9_did 10 = .ok (.aload 4, 2) := by decide +kernel
theorem dX9_did_12 : decode cX9_did 12 = .ok (.ifnonnull 5, 3) := by decide +kernel
theorem dX9_did_15 : decode cX9_did 15 = .ok (.iconst (-1), 1) := by decide +kernel
theorem dX9_did_16 : decode cX9_did 16 = .ok (.ireturn, 1) := by decide +kernel
theorem dX9_did_17 : decode cX9_did 17 = .ok (.iload_n 2, 1) := by decide +kernel
theorem dX9_did_18 : decode cX9_did 18 = .ok (.invokestatic 59, 3) := by decide +kernel
theorem dX9_did_21 : decode cX9_did 21 = .ok (.ifCond .ne 6, 3) := by decide +kernel
theorem dX9_did_24 : decode cX9_did 24 = .ok (.bipush (-2), 2) := by decide +kernel
theorem dX9_did_26 : decode cX9_did 26 = .ok (.ireturn, 1) := by decide +kernel
theorem dX9_did_27 : decode cX9_did 27 = .ok (.aload 4, 2) := by decide +kernel
theorem dX9_did_29 : decode cX9_did 29 = .ok (.iload_n 2, 1) := by decide +kernel
theorem dX9_did_30 : decode cX9_did 30 = .ok (.iload_n 3, 1) := by decide +kernel
theorem dX9_did_31 : decode cX9_did 31 = .ok (.invokevirtual 203, 3) := by decide +kernel
theorem dX9_did_34 : decode cX9_did 34 = .ok (.ifCond .eq 7, 3) := by decide +kernel
theorem dX9_did_37 : decode cX9_did 37 = .ok (.iconst 1, 1) := by decide +kernel
theorem dX9_did_38 : decode cX9_did 38 = .ok (.goto 4, 3) := by decide +kernel
theorem dX9_did_41 : decode cX9_did 41 = .ok (.iconst 0, 1) := by decide +kernel
theorem dX9_did_42 : decode cX9_did 42 = .ok (.ireturn, 1) := by decide +kernel
theorem dX9_decoy_0 : decode cX9_decoy 0 = .ok (.aload_n 0, 1) := by decide +kernel
theorem dX9_decoy_1 : decode cX9_decoy 1 = .ok (.getfield 10, 3) := by decide +kernel
theorem dX9_decoy_4 : decode cX9_decoy 4 = .ok (.iload_n 1, 1) := by decide +kernel
theorem dX9_decoy_5 : decode cX9_decoy 5 = .ok (.invokevirtual 75, 3) := by decide +kernel
theorem dX9_decoy_8 : decode cX9_decoy 8 = .ok (.astore 6, 2) := by decide +kernel
theorem dX9_decoy_10 : decode cX9_decoy 10 = .ok (.aload 6, 2) := by decide +kernel
theorem dX9_decoy_12 : decode cX9_decoy 12 = .ok (.ifnonnull 7, 3) := by decide +kernel
theorem dX9_decoy_15 : decode cX9_decoy 15 = .ok (.ldc2_w 206, 3) := by decide +kernel
theorem dX9_decoy_18 : decode cX9_decoy 18 = .ok (.lreturn, 1) := by decide +kernel
theorem dX9_decoy_19 : decode cX9_decoy 19 = .ok (.iload_n 2, 1) := by decide +kernel
theorem dX9_decoy_20 : decode cX9_decoy 20 = .ok (.invokestatic 59, 3) := by decide +kernel
theorem dX9_decoy_23 : decode cX9_decoy 23 = .ok (.ifCond .eq 15, 3) := by decide +kernel
theorem dX9_decoy_26 : decode cX9_decoy 26 = .ok (.iload_n 3, 1) := by decide +kernel
theorem dX9_decoy_27 : decode cX9_decoy 27 = .ok (.invokestatic 59, 3) := by decide +kernel
theorem dX9_decoy_30 : decode cX9_decoy 30 = .ok (.ifCond .eq 8, 3) := by decide +kernel
theorem dX9_decoy_33 : decode cX9_decoy 33 = .ok (.iload_n 2, 1) := by decide +kernel
theorem dX9_decoy_34 : decode cX9_decoy 34 = .ok (.iload_n 3, 1) := by decide +kernel
theorem dX9_decoy_35 : decode cX9_decoy 35 = .ok (.if_icmp .le 7, 3) := by decide +kernel
theorem dX9_decoy_38 : decode cX9_decoy 38 = .ok (.ldc2_w 187, 3) := by decide +kernel
theorem dX9_decoy_41 : decode cX9_decoy 41 = .ok (.lreturn, 1) := by decide +kernel
theorem dX9_decoy_42 : decode cX9_decoy 42 = .ok (.iload 4, 2) := by decide +kernel
theorem dX9_decoy_44 : decode cX9_decoy 44 = .ok (.iconst 1, 1) := by decide +kernel
theorem dX9_decoy_45 : decode cX9_decoy 45 = .ok (.bipush 19, 2) := by decide +kernel
theorem dX9_decoy_47 : decode cX9_decoy 47 = .ok (.invokestatic 55, 3) := by decide +kernel
theorem dX9_decoy_50 : decode cX9_decoy 50 = .ok (.ifCond .eq 11, 3) := by decide +kernel
theorem dX9_decoy_53 : decode cX9_decoy 53 = .ok (.iload 5, 2) := by decide +kernel
theorem dX9_decoy_55 : decode cX9_decoy 55 = .ok (.invokestatic 184, 3) := by decide +kernel
theorem dX9_decoy_58 : decode cX9_decoy 58 = .ok (.ifCond .ne 7, 3) := by decide +kernel
theorem dX9_decoy_61 : decode cX9_decoy 61 = .ok (.ldc2_w 187, 3) := by decide +kernel
theorem dX9_decoy_64 : decode cX9_decoy 64 = .ok (.lreturn, 1) := by decide +kernel
theorem dX9_decoy_65 : decode cX9_decoy 65 = .ok (.aload 6, 2) := by decide +kernel
theorem dX9_decoy_67 : decode cX9_decoy 67 = .ok (.iload_n 2, 1) := by decide +kernel
theorem dX9_decoy_68 : decode cX9_decoy 68 = .ok (.iload_n 3, 1) := by decide +kernel
theorem dX9_decoy_69 : decode cX9_decoy 69 = .ok (.invokevirtual 208, 3) := by decide +kernel
theorem dX9_decoy_72 : decode cX9_decoy 72 = .ok (.istore 7, 2) := by decide +kernel
theorem dX9_decoy_74 : decode cX9_decoy 74 = .ok (.iload 7, 2) := by decide +kernel
theorem dX9_decoy_76 : decode cX9_decoy 76 = .ok (.bipush 12, 2) := by decide +kernel
theorem dX9_decoy_78 : decode cX9_decoy 78 = .ok (.if_icmp .le 7, 3) := by decide +kernel
theorem dX9_decoy_81 : decode cX9_decoy 81 = .ok (.ldc2_w 187, 3) := by decide +kernel
theorem dX9_decoy_84 : decode cX9_decoy 84 = .ok (.lreturn, 1) := by decide +kernel
theorem dX9_decoy_85 : decode cX9_decoy 85 = .ok (.bipush 20, 2) := by decide +kernel
theorem dX9_decoy_87 : decode cX9_decoy 87 = .ok (.iload 4, 2) := by decide +kernel
theorem dX9_decoy_89 : decode cX9_decoy 89 = .ok (.isub, 1) := by decide +kernel
theorem dX9_decoy_90 : decode cX9_decoy 90 = .ok (.i2l, 1) := by decide +kernel
theorem dX9_decoy_91 : decode cX9_decoy 91 = .ok (.iload 7, 2) := by decide +kernel
theorem dX9_decoy_93 : decode cX9_decoy 93 = .ok (.invokestatic 211, 3) := by decide +kernel
theorem dX9_decoy_96 : decode cX9_decoy 96 = .ok (.ldc2_w 215, 3) := by decide +kernel
theorem dX9_decoy_99 : decode cX9_decoy 99 = .ok (.iload 7, 2) := by decide +kernel
theorem dX9_decoy_101 : decode cX9_decoy 101 = .ok (.invokestatic 211, 3) := by decide +kernel
theorem dX9_decoy_104 : decode cX9_decoy 104 = .ok (.iload 5, 2) := by decide +kernel
theorem dX9_decoy_106 : decode cX9_decoy 106 = .ok (.invokestatic 199, 3) := by decide +kernel
theorem dX9_decoy_109 : decode cX9_decoy 109 = .ok (.lreturn, 1) := by decide +kernel
theorem dX9_sure_0 : decode cX9_sure 0 = .ok (.iload_n 1, 1) := by decide +kernel
theorem dX9_sure_1 : decode cX9_sure 1 = .ok (.iconst 1, 1) := by decide +kernel
theorem dX9_sure_2 : decode cX9_sure 2 = .ok (.bipush 19, 2) := by decide +kernel
theorem dX9_sure_4 : decode cX9_sure 4 = .ok (.invokestatic 55, 3) := by decide +kernel
theorem dX9_sure_7 : decode cX9_sure 7 = .ok (.ifCond .eq 13, 3) := by decide +kernel
theorem dX9_sure_10 : decode cX9_sure 10 = .ok (.iload_n 2, 1) := by decide +kernel
theorem dX9_sure_11 : decode cX9_sure 11 = .ok (.iconst 0, 1) := by decide +kernel
theorem dX9_sure_12 : decode cX9_sure 12 = .ok (.bipush 100, 2) := by decide +kernel
theorem dX9_sure_14 : decode cX9_sure 14 = .ok (.invokestatic 55, 3) := by decide +kernel
theorem dX9_sure_17 : decode cX9_sure 17 = .ok (.ifCond .ne 6, 3) := by decide +kernel
theorem dX9_sure_20 : decode cX9_sure 20 = .ok (.bipush (-2), 2) := by decide +kernel
theorem dX9_sure_22 : decode cX9_sure 22 = .ok (.ireturn, 1) := by decide +kernel
theorem dX9_sure_23 : decode cX9_sure 23 = .ok (.iconst 0, 1) := by decide +kernel
theorem dX9_sure_24 : decode cX9_sure 24 = .ok (.istore_n 3, 1) := by decide +kernel
theorem dX9_sure_25 : decode cX9_sure 25 = .ok (.iload_n 3, 1) := by decide +kernel
theorem dX9_sure_26 : decode cX9_sure 26 = .ok (.bipush 12, 2) := by decide +kernel
theorem dX9_sure_28 : decode cX9_sure 28 = .ok (.if_icmp .gt 38, 3) := by decide +kernel
theorem dX9_sure_31 : decode cX9_sure 31 = .ok (.bipush 20, 2) := by decide +kernel
theorem dX9_sure_33 : decode cX9_sure 33 = .ok (.iload_n 1, 1) := by decide +kernel
theorem dX9_sure_34 : decode cX9_sure 34 = .ok (.isub, 1) := by decide +kernel
theorem dX9_sure_35 : decode cX9_sure 35 = .ok (.i2l, 1) := by decide +kernel
theorem dX9_sure_36 : decode cX9_sure 36 = .ok (.iload_n 3, 1) := by decide +kernel
theorem dX9_sure_37 : decode cX9_sure 37 = .ok (.invokestatic 211, 3) := by decide +kernel
theorem dX9_sure_40 : decode cX9_sure 40 = .ok (.ldc2_w 217, 3) := by decide +kernel
theorem dX9_sure_43 : decode cX9_sure 43 = .ok (.lmul, 1) := by decide +kernel
theorem dX9_sure_44 : decode cX9_sure 44 = .ok (.ldc2_w 215, 3) := by decide +kernel
theorem dX9_sure_47 : decode cX9_sure 47 = .ok (.iload_n 3, 1) := by decide +kernel
theorem dX9_sure_48 : decode cX9_sure 48 = .ok (.invokestatic 211, 3) := by decide +kernel
theorem dX9_sure_51 : decode cX9_sure 51 = .ok (.iload_n 2, 1) := by decide +kernel
theorem dX9_sure_52 : decode cX9_sure 52 = .ok (.i2l, 1) := by decide +kernel
theorem dX9_sure_53 : decode cX9_sure 53 = .ok (.lmul, 1) := by decide +kernel
theorem dX9_sure_54 : decode cX9_sure 54 = .ok (.lcmp, 1) := by decide +kernel
theorem dX9_sure_55 : decode cX9_sure 55 = .ok (.ifCond .gt 5, 3) := by decide +kernel
theorem dX9_sure_58 : decode cX9_sure 58 = .ok (.iload_n 3, 1) := by decide +kernel
theorem dX9_sure_59 : decode cX9_sure 59 = .ok (.ireturn, 1) := by decide +kernel
theorem dX9_sure_60 : decode cX9_sure 60 = .ok (.iinc 3 1, 3) := by decide +kernel
theorem dX9_sure_63 : decode cX9_sure 63 = .ok (.goto (-38), 3) := by decide +kernel
theorem dX9_sure_66 : decode cX9_sure 66 = .ok (.bipush (-6), 2) := by decide +kernel
theorem dX9_sure_68 : decode cX9_sure 68 = .ok (.ireturn, 1) := by decide +kernel
theorem dX9_flight_0 : decode cX9_flight 0 = .ok (.iload_n 1, 1) := by decide +kernel
theorem dX9_flight_1 : decode cX9_flight 1 = .ok (.iconst 0, 1) := by decide +kernel
theorem dX9_flight_2 : decode cX9_flight 2 = .ok (.bipush 7, 2) := by decide +kernel
theorem dX9_flight_4 : decode cX9_flight 4 = .ok (.invokestatic 55, 3) := by decide +kernel
theorem dX9_flight_7 : decode cX9_flight 7 = .ok (.ifCond .ne 5, 3) := by decide +kernel
theorem dX9_flight_10 : decode cX9_flight 10 = .ok (.iconst (-1), 1) := by decide +kernel
theorem dX9_flight_11 : decode cX9_flight 11 = .ok (.ireturn, 1) := by decide +kernel
theorem dX9_flight_12 : decode cX9_flight 12 = .ok (.iload_n 2, 1) := by decide +kernel
theorem dX9_flight_13 : decode cX9_flight 13 = .ok (.iload_n 3, 1) := by decide +kernel
theorem dX9_flight_14 : decode cX9_flight 14 = .ok (.invokestatic 96, 3) := by decide +kernel
theorem dX9_flight_17 : decode cX9_flight 17 = .ok (.ifCond .eq 25, 3) := by decide +kernel
theorem dX9_flight_20 : decode cX9_flight 20 = .ok (.iload 4, 2) := by decide +kernel
theorem dX9_flight_22 : decode cX9_flight 22 = .ok (.iconst 0, 1) := by decide +kernel
theorem dX9_flight_23 : decode cX9_flight 23 = .ok (.bipush 10, 2) := by decide +kernel
theorem dX9_flight_25 : decode cX9_flight 25 = .ok (.invokestatic 55, 3) := by decide +kernel
theorem dX9_flight_28 : decode cX9_flight 28 = .ok (.ifCond .eq 14, 3) := by decide +kernel
theorem dX9_flight_31 : decode cX9_flight 31 = .ok (.iload 5, 2) := by decide +kernel
theorem dX9_flight_33 : decode cX9_flight 33 = .ok (.iconst 0, 1) := by decide +kernel
theorem dX9_flight_34 : decode cX9_flight 34 = .ok (.bipush 100, 2) := by decide +kernel
theorem dX9_flight_36 : decode cX9_flight 36 = .ok (.invokestatic 55, 3) := by decide +kernel
theorem dX9_flight_39 : decode cX9_flight 39 = .ok (.ifCond .ne 6, 3) := by decide +kernel
theorem dX9_flight_42 : decode cX9_flight 42 = .ok (.bipush (-2), 2) := by decide +kernel
theorem dX9_flight_44 : decode cX9_flight 44 = .ok (.ireturn, 1) := by decide +kernel
theorem dX9_flight_45 : decode cX9_flight 45 = .ok (.aload_n 0, 1) := by decide +kernel
theorem dX9_flight_46 : decode cX9_flight 46 = .ok (.getfield 47, 3) := by decide +kernel
theorem dX9_flight_49 : decode cX9_flight 49 = .ok (.iload_n 1, 1) := by decide +kernel
theorem dX9_flight_50 : decode cX9_flight 50 = .ok (.iload_n 2, 1) := by decide +kernel
theorem dX9_flight_51 : decode cX9_flight 51 = .ok (.iload_n 3, 1) := by decide +kernel
theorem dX9_flight_52 : decode cX9_flight 52 = .ok (.iload 4, 2) := by decide +kernel
theorem dX9_flight_54 : decode cX9_flight 54 = .ok (.iload 5, 2) := by decide +kernel
theorem dX9_flight_56 : decode cX9_flight 56 = .ok (.invokevirtual 219, 3) := by decide +kernel
theorem dX9_flight_59 : decode cX9_flight 59 = .ok (.iconst 1, 1) := by decide +kernel
theorem dX9_flight_60 : decode cX9_flight 60 = .ok (.ireturn, 1) := by decide +kernel
theorem dX9_worth_0 : decode cX9_worth 0 = .ok (.iload_n 1, 1) := by decide +kernel
theorem dX9_worth_1 : decode cX9_worth 1 = .ok (.iconst 0, 1) := by decide +kernel
theorem dX9_worth_2 : decode cX9_worth 2 = .ok (.sipush 255, 3) := by decide +kernel
theorem dX9_worth_5 : decode cX9_worth 5 = .ok (.invokestatic 55, 3) := by decide +kernel
theorem dX9_worth_8 : decode cX9_worth 8 = .ok (.ifCond .eq 10, 3) := by decide +kernel
theorem dX9_worth_11 : decode cX9_worth 11 = .ok (.iload_n 2, 1) := by decide +kernel
theorem dX9_worth_12 : decode cX9_worth 12 = .ok (.invokestatic 184, 3) := by decide +kernel
theorem dX9_worth_15 : decode cX9_worth 15 = .ok (.ifCond .ne 7, 3) := by decide +kernel
theorem dX9_worth_18 : decode cX9_worth 18 = .ok (.ldc2_w 187, 3) := by decide +kernel
theorem dX9_worth_21 : decode cX9_worth 21 = .ok (.lreturn, 1) := by decide +kernel
theorem dX9_worth_22 : decode cX9_worth 22 = .ok (.aload_n 0, 1) := by decide +kernel
theorem dX9_worth_23 : decode cX9_worth 23 = .ok (.getfield 47, 3) := by decide +kernel
theorem dX9_worth_26 : decode cX9_worth 26 = .ok (.aload_n 0, 1) := by decide +kernel
theorem dX9_worth_27 : decode cX9_worth 27 = .ok (.getfield 10, 3) := by decide +kernel
theorem dX9_worth_30 : decode cX9_worth 30 = .ok (.invokevirtual 222, 3) := by decide +kernel
theorem dX9_worth_33 : decode cX9_worth 33 = .ok (.aload_n 0, 1) := by decide +kernel
theorem dX9_worth_34 : decode cX9_worth 34 = .ok (.getfield 47, 3) := by decide +kernel
theorem dX9_worth_37 : decode cX9_worth 37 = .ok (.iload_n 1, 1) := by decide +kernel
theorem dX9_worth_38 : decode cX9_worth 38 = .ok (.invokevirtual 225, 3) := by decide +kernel
theorem dX9_worth_41 : decode cX9_worth 41 = .ok (.ldc2_w 229, 3) := by decide +kernel
theorem dX9_worth_44 : decode cX9_worth 44 = .ok (.iload_n 2, 1) := by decide +kernel
theorem dX9_worth_45 : decode cX9_worth 45 = .ok (.invokestatic 199, 3) := by decide +kernel
theorem dX9_worth_48 : decode cX9_worth 48 = .ok (.lreturn, 1) := by decide +kernel
theorem dX9_best_0 : decode cX9_best 0 = .ok (.iload_n 1, 1) := by decide +kernel
theorem dX9_best_1 : decode cX9_best 1 = .ok (.iconst 0, 1) := by decide +kernel
theorem dX9_best_2 : decode cX9_best 2 = .ok (.sipush 800, 3) := by decide +kernel
theorem dX9_best_5 : decode cX9_best 5 = .ok (.invokestatic 55, 3) := by decide +kernel
theorem dX9_best_8 : decode cX9_best 8 = .ok (.ifCond .eq 12, 3) := by decide +kernel
theorem dX9_best_11 : decode cX9_best 11 = .ok (.iload_n 2, 1) := by decide +kernel
theorem dX9_best_12 : decode cX9_best 12 = .ok (.iconst 0, 1) := by decide +kernel
theorem dX9_best_13 : decode cX9_best 13 = .ok (.iconst 1, 1) := by decide +kernel
theorem dX9_best_14 : decode cX9_best 14 = .ok (.invokestatic 55, 3) := by decide +kernel
theorem dX9_best_17 : decode cX9_best 17 = .ok (.ifCond .ne 6, 3) := by decide +kernel
theorem dX9_best_20 : decode cX9_best 20 = .ok (.bipush (-2), 2) := by decide +kernel
theorem dX9_best_22 : decode cX9_best 22 = .ok (.ireturn, 1) := by decide +kernel
theorem dX9_best_23 : decode cX9_best 23 = .ok (.aload_n 0, 1) := by decide +kernel
theorem dX9_best_24 : decode cX9_best 24 = .ok (.getfield 47, 3) := by decide +kernel
theorem dX9_best_27 : decode cX9_best 27 = .ok (.aload_n 0, 1) := by decide +kernel
theorem dX9_best_28 : decode cX9_best 28 = .ok (.getfield 10, 3) := by decide +kernel
theorem dX9_best_31 : decode cX9_best 31 = .ok (.invokevirtual 222, 3) := by decide +kernel
theorem dX9_best_34 : decode cX9_best 34 = .ok (.aload_n 0, 1) := by decide +kernel
theorem dX9_best_35 : decode cX9_best 35 = .ok (.getfield 47, 3) := by decide +kernel
theorem dX9_best_38 : decode cX9_best 38 = .ok (.iload_n 1, 1) := by decide +kernel
theorem dX9_best_39 : decode cX9_best 39 = .ok (.invokevirtual 231, 3) := by decide +kernel
theorem dX9_best_42 : decode cX9_best 42 = .ok (.istore_n 3, 1) := by decide +kernel
theorem dX9_best_43 : decode cX9_best 43 = .ok (.iload_n 2, 1) := by decide +kernel
theorem dX9_best_44 : decode cX9_best 44 = .ok (.ifCond .ne 7, 3) := by decide +kernel
theorem dX9_best_47 : decode cX9_best 47 = .ok (.iload_n 3, 1) := by decide +kernel
theorem dX9_best_48 : decode cX9_best 48 = .ok (.goto 11, 3) := by decide +kernel
theorem dX9_best_51 : decode cX9_best 51 = .ok (.aload_n 0, 1) := by decide +kernel
theorem dX9_best_52 : decode cX9_best 52 = .ok (.getfield 47, 3) := by decide +kernel
theorem dX9_best_55 : decode cX9_best 55 = .ok (.iload_n 3, 1) := by decide +kernel
theorem dX9_best_56 : decode cX9_best 56 = .ok (.invokevirtual 234, 3) := by decide +kernel
theorem dX9_best_59 : decode cX9_best 59 = .ok (.ireturn, 1) := by decide +kernel
theorem dX9_lean_0 : decode cX9_lean 0 = .ok (.iload_n 2, 1) := by decide +kernel
theorem dX9_lean_1 : decode cX9_lean 1 = .ok (.iconst 1, 1) := by decide +kernel
theorem dX9_lean_2 : decode cX9_lean 2 = .ok (.bipush 20, 2) := by decide +kernel
theorem dX9_lean_4 : decode cX9_lean 4 = .ok (.invokestatic 55, 3) := by decide +kernel
theorem dX9_lean_7 : decode cX9_lean 7 = .ok (.ifCond .eq 12, 3) := by decide +kernel
theorem dX9_lean_10 : decode cX9_lean 10 = .ok (.iload_n 1, 1) := by decide +kernel
theorem dX9_lean_11 : decode cX9_lean 11 = .ok (.iconst 0, 1) := by decide +kernel
theorem dX9_lean_12 : decode cX9_lean 12 = .ok (.iload_n 2, 1) := by decide +kernel
theorem dX9_lean_13 : decode cX9_lean 13 = .ok (.invokestatic 55, 3) := by decide +kernel
theorem dX9_lean_16 : decode cX9_lean 16 = .ok (.ifCond .ne 7, 3) := by decide +kernel
theorem dX9_lean_19 : decode cX9_lean 19 = .ok (.ldc2_w 187, 3) := by decide +kernel
theorem dX9_lean_22 : decode cX9_lean 22 = .ok (.lreturn, 1) := by decide +kernel
theorem dX9_lean_23 : decode cX9_lean 23 = .ok (.iload 4, 2) := by decide +kernel
theorem dX9_lean_25 : decode cX9_lean 25 = .ok (.iconst 1, 1) := by decide +kernel
theorem dX9_lean_26 : decode cX9_lean 26 = .ok (.bipush 20, 2) := by decide +kernel
theorem dX9_lean_28 : decode cX9_lean 28 = .ok (.invokestatic 55, 3) := by decide +kernel
theorem dX9_lean_31 : decode cX9_lean 31 = .ok (.ifCond .eq 13, 3) := by decide +kernel
theorem dX9_lean_34 : decode cX9_lean 34 = .ok (.iload_n 3, 1) := by decide +kernel
theorem dX9_lean_35 : decode cX9_lean 35 = .ok (.iconst 0, 1) := by decide +kernel
theorem dX9_lean_36 : decode cX9_lean 36 = .ok (.iload 4, 2) := by decide +kernel
theorem dX9_lean_38 : decode cX9_lean 38 = .ok (.invokestatic 55, 3) := by decide +kernel
theorem dX9_lean_41 : decode cX9_lean 41 = .ok (.ifCond .ne 7, 3) := by decide +kernel
theorem dX9_lean_44 : decode cX9_lean 44 = .ok (.ldc2_w 187, 3) := by decide +kernel
theorem dX9_lean_47 : decode cX9_lean 47 = .ok (.lreturn, 1) := by decide +kernel
theorem dX9_lean_48 : decode cX9_lean 48 = .ok (.iload 5, 2) := by decide +kernel
theorem dX9_lean_50 : decode cX9_lean 50 = .ok (.invokestatic 184, 3) := by decide +kernel
theorem dX9_lean_53 : decode cX9_lean 53 = .ok (.ifCond .ne 7, 3) := by decide +kernel
theorem dX9_lean_56 : decode cX9_lean 56 = .ok (.ldc2_w 187, 3) := by decide +kernel
theorem dX9_lean_59 : decode cX9_lean 59 = .ok (.lreturn, 1) := by decide +kernel
theorem dX9_lean_60 : decode cX9_lean 60 = .ok (.iload_n 1, 1) := by decide +kernel
theorem dX9_lean_61 : decode cX9_lean 61 = .ok (.iload_n 3, 1) := by decide +kernel
theorem dX9_lean_62 : decode cX9_lean 62 = .ok (.iadd, 1) := by decide +kernel
theorem dX9_lean_63 : decode cX9_lean 63 = .ok (.istore 6, 2) := by decide +kernel
theorem dX9_lean_65 : decode cX9_lean 65 = .ok (.lconst 0, 1) := by decide +kernel
theorem dX9_lean_66 : decode cX9_lean 66 = .ok (.lstore 7, 2) := by decide +kernel
theorem dX9_lean_68 : decode cX9_lean 68 = .ok (.iload_n 1, 1) := by decide +kernel
theorem dX9_lean_69 : decode cX9_lean 69 = .ok (.istore 9, 2) := by decide +kernel
theorem dX9_lean_71 : decode cX9_lean 71 = .ok (.iload 9, 2) := by decide +kernel
theorem dX9_lean_73 : decode cX9_lean 73 = .ok (.iload_n 2, 1) := by decide +kernel
theorem dX9_lean_74 : decode cX9_lean 74 = .ok (.if_icmp .gt 38, 3) := by decide +kernel
theorem dX9_lean_77 : decode cX9_lean 77 = .ok (.iload 9, 2) := by decide +kernel
theorem dX9_lean_79 : decode cX9_lean 79 = .ok (.iload 6, 2) := by decide +kernel
theorem dX9_lean_81 : decode cX9_lean 81 = .ok (.if_icmp .gt 31, 3) := by decide +kernel
theorem dX9_lean_84 : decode cX9_lean 84 = .ok (.lload 7, 2) := by decide +kernel
theorem dX9_lean_86 : decode cX9_lean 86 = .ok (.iload_n 2, 1) := by decide +kernel
theorem dX9_lean_87 : decode cX9_lean 87 = .ok (.iload 9, 2) := by decide +kernel
theorem dX9_lean_89 : decode cX9_lean 89 = .ok (.invokestatic 237, 3) := by decide +kernel
theorem dX9_lean_92 : decode cX9_lean 92 = .ok (.iload 4, 2) := by decide +kernel
theorem dX9_lean_94 : decode cX9_lean 94 = .ok (.iload 6, 2) := by decide +kernel
theorem dX9_lean_96 : decode cX9_lean 96 = .ok (.iload 9, 2) := by decide +kernel
theorem dX9_lean_98 : decode cX9_lean 98 = .ok (.isub, 1) := by decide +kernel
theorem dX9_lean_99 : decode cX9_lean 99 = .ok (.invokestatic 237, 3) := by decide +kernel
theorem dX9_lean_102 : decode cX9_lean 102 = .ok (.lmul, 1) := by decide +kernel
theorem dX9_lean_103 : decode cX9_lean 103 = .ok (.ladd, 1) := by decide +kernel
theorem dX9_lean_104 : decode cX9_lean 104 = .ok (.lstore 7, 2) := by decide +kernel
theorem dX9_lean_106 : decode cX9_lean 106 = .ok (.iinc 9 1, 3) := by decide +kernel
theorem dX9_lean_109 : decode cX9_lean 109 = .ok (.goto (-38), 3) := by decide +kernel
theorem dX9_lean_112 : decode cX9_lean 112 = .ok (.lload 7, 2) := by decide +kernel
theorem dX9_lean_114 : decode cX9_lean 114 = .ok (.iload_n 2, 1) := by decide +kernel
theorem dX9_lean_115 : decode cX9_lean 115 = .ok (.iload 4, 2) := by decide +kernel
theorem dX9_lean_117 : decode cX9_lean 117 = .ok (.iadd, 1) := by decide +kernel
theorem dX9_lean_118 : decode cX9_lean 118 = .ok (.iload 6, 2) := by decide +kernel
theorem dX9_lean_120 : decode cX9_lean 120 = .ok (.invokestatic 237, 3) := by decide +kernel
theorem dX9_lean_123 : decode cX9_lean 123 = .ok (.iload 5, 2) := by decide +kernel
theorem dX9_lean_125 : decode cX9_lean 125 = .ok (.invokestatic 199, 3) := by decide +kernel
theorem dX9_lean_128 : decode cX9_lean 128 = .ok (.lreturn, 1) := by decide +kernel
theorem dX9_told_0 : decode cX9_told 0 = .ok (.iload_n 1, 1) := by decide +kernel
theorem dX9_told_1 : decode cX9_told 1 = .ok (.tableswitch 63 0 3 #[31, 39, 47, 55], 31) := by decide +kernel
theorem dX9_told_32 : decode cX9_told 32 = .ok (.aload_n 0, 1) := by decide +kernel
theorem dX9_told_33 : decode cX9_told 33 = .ok (.getfield 10, 3) := by decide +kernel
theorem dX9_told_36 : decode cX9_told 36 = .ok (.invokevirtual 171, 3) := by decide +kernel
theorem dX9_told_39 : decode cX9_told 39 = .ok (.ireturn, 1) := by decide +kernel
theorem dX9_told_40 : decode cX9_told 40 = .ok (.aload_n 0, 1) := by decide +kernel
theorem dX9_told_41 : decode cX9_told 41 = .ok (.getfield 19, 3) := by decide +kernel
theorem dX9_told_44 : decode cX9_told 44 = .ok (.invokevirtual 241, 3) := by decide +kernel
theorem dX9_told_47 : decode cX9_told 47 = .ok (.ireturn, 1) := by decide +kernel
theorem dX9_told_48 : decode cX9_told 48 = .ok (.aload_n 0, 1) := by decide +kernel
theorem dX9_told_49 : decode cX9_told 49 = .ok (.getfield 33, 3) := by decide +kernel
theorem dX9_told_52 : decode cX9_told 52 = .ok (.invokevirtual 242, 3) := by decide +kernel
theorem dX9_told_55 : decode cX9_told 55 = .ok (.ireturn, 1) := by decide +kernel
theorem dX9_told_56 : decode cX9_told 56 = .ok (.aload_n 0, 1) := by decide +kernel
theorem dX9_told_57 : decode cX9_told 57 = .ok (.getfield 33, 3) := by decide +kernel
theorem dX9_told_60 : decode cX9_told 60 = .ok (.invokevirtual 245, 3) := by decide +kernel
theorem dX9_told_63 : decode cX9_told 63 = .ok (.ireturn, 1) := by decide +kernel
theorem dX9_told_64 : decode cX9_told 64 = .ok (.bipush (-2), 2) := by decide +kernel
theorem dX9_told_66 : decode cX9_told 66 = .ok (.ireturn, 1) := by decide +kernel
theorem dX9_judge_0 : decode cX9_judge 0 = .ok (.aload_n 0, 1) := by decide +kernel
theorem dX9_judge_1 : decode cX9_judge 1 = .ok (.getfield 26, 3) := by decide +kernel
theorem dX9_judge_4 : decode cX9_judge 4 = .ok (.aload_n 2, 1) := by decide +kernel
theorem dX9_judge_5 : decode cX9_judge 5 = .ok (.aload_n 0, 1) := by decide +kernel
theorem dX9_judge_6 : decode cX9_judge 6 = .ok (.getfield 19, 3) := by decide +kernel
theorem dX9_judge_9 : decode cX9_judge 9 = .ok (.iload_n 3, 1) := by decide +kernel
theorem dX9_judge_10 : decode cX9_judge 10 = .ok (.invokevirtual 157, 3) := by decide +kernel
theorem dX9_judge_13 : decode cX9_judge 13 = .ok (.aload_n 0, 1) := by decide +kernel
theorem dX9_judge_14 : decode cX9_judge 14 = .ok (.getfield 33, 3) := by decide +kernel
theorem dX9_judge_17 : decode cX9_judge 17 = .ok (.iload_n 1, 1) := by decide +kernel
theorem dX9_judge_18 : decode cX9_judge 18 = .ok (.aload_n 0, 1) := by decide +kernel
theorem dX9_judge_19 : decode cX9_judge 19 = .ok (.getfield 26, 3) := by decide +kernel
theorem dX9_judge_22 : decode cX9_judge 22 = .ok (.invokevirtual 248, 3) := by decide +kernel
theorem dX9_judge_25 : decode cX9_judge 25 = .ok (.ireturn, 1) := by decide +kernel
theorem dX9_isWithin_0 : decode cX9_isWithin 0 = .ok (.iload_n 0, 1) := by decide +kernel
theorem dX9_isWithin_1 : decode cX9_isWithin 1 = .ok (.iload_n 1, 1) := by decide +kernel
theorem dX9_isWithin_2 : decode cX9_isWithin 2 = .ok (.if_icmp .lt 12, 3) := by decide +kernel
theorem dX9_isWithin_5 : decode cX9_isWithin 5 = .ok (.iload_n 0, 1) := by decide +kernel
theorem dX9_isWithin_6 : decode cX9_isWithin 6 = .ok (.iload_n 2, 1) := by decide +kernel
theorem dX9_isWithin_7 : decode cX9_isWithin 7 = .ok (.if_icmp .gt 7, 3) := by decide +kernel
theorem dX9_isWithin_10 : decode cX9_isWithin 10 = .ok (.iconst 1, 1) := by decide +kernel
theorem dX9_isWithin_11 : decode cX9_isWithin 11 = .ok (.goto 4, 3) := by decide +kernel
theorem dX9_isWithin_14 : decode cX9_isWithin 14 = .ok (.iconst 0, 1) := by decide +kernel
theorem dX9_isWithin_15 : decode cX9_isWithin 15 = .ok (.ireturn, 1) := by decide +kernel
theorem dX9_isOnLand_0 : decode cX9_isOnLand 0 = .ok (.iload_n 0, 1) := by decide +kernel
theorem dX9_isOnLand_1 : decode cX9_isOnLand 1 = .ok (.iconst 0, 1) := by decide +kernel
theorem dX9_isOnLand_2 : decode cX9_isOnLand 2 = .ok (.bipush 11, 2) := by decide +kernel
theorem dX9_isOnLand_4 : decode cX9_isOnLand 4 = .ok (.invokestatic 55, 3) := by decide +kernel
theorem dX9_isOnLand_7 : decode cX9_isOnLand 7 = .ok (.ifCond .eq 17, 3) := by decide +kernel
theorem dX9_isOnLand_10 : decode cX9_isOnLand 10 = .ok (.iload_n 1, 1) := by decide +kernel
theorem dX9_isOnLand_11 : decode cX9_isOnLand 11 = .ok (.iconst 0, 1) := by decide +kernel
theorem dX9_isOnLand_12 : decode cX9_isOnLand 12 = .ok (.bipush 7, 2) := by decide +kernel
theorem dX9_isOnLand_14 : decode cX9_isOnLand 14 = .ok (.invokestatic 55, 3) := by decide +kernel
theorem dX9_isOnLand_17 : decode cX9_isOnLand 17 = .ok (.ifCond .eq 7, 3) := by decide +kernel
theorem dX9_isOnLand_20 : decode cX9_isOnLand 20 = .ok (.iconst 1, 1) := by decide +kernel
theorem dX9_isOnLand_21 : decode cX9_isOnLand 21 = .ok (.goto 4, 3) := by decide +kernel
theorem dX9_isOnLand_24 : decode cX9_isOnLand 24 = .ok (.iconst 0, 1) := by decide +kernel
theorem dX9_isOnLand_25 : decode cX9_isOnLand 25 = .ok (.ireturn, 1) := by decide +kernel
theorem dX9_isCell_0 : decode cX9_isCell 0 = .ok (.iload_n 0, 1) := by decide +kernel
theorem dX9_isCell_1 : decode cX9_isCell 1 = .ok (.ifCond .lt 13, 3) := by decide +kernel
theorem dX9_isCell_4 : decode cX9_isCell 4 = .ok (.iload_n 0, 1) := by decide +kernel
theorem dX9_isCell_5 : decode cX9_isCell 5 = .ok (.bipush 96, 2) := by decide +kernel
theorem dX9_isCell_7 : decode cX9_isCell 7 = .ok (.if_icmp .ge 7, 3) := by decide +kernel
theorem dX9_isCell_10 : decode cX9_isCell 10 = .ok (.iconst 1, 1) := by decide +kernel
theorem dX9_isCell_11 : decode cX9_isCell 11 = .ok (.goto 4, 3) := by decide +kernel
theorem dX9_isCell_14 : decode cX9_isCell 14 = .ok (.iconst 0, 1) := by decide +kernel
theorem dX9_isCell_15 : decode cX9_isCell 15 = .ok (.ireturn, 1) := by decide +kernel
theorem dX9_isDay_0 : decode cX9_isDay 0 = .ok (.iload_n 0, 1) := by decide +kernel
theorem dX9_isDay_1 : decode cX9_isDay 1 = .ok (.iconst 0, 1) := by decide +kernel
theorem dX9_isDay_2 : decode cX9_isDay 2 = .ok (.bipush 99, 2) := by decide +kernel
theorem dX9_isDay_4 : decode cX9_isDay 4 = .ok (.invokestatic 55, 3) := by decide +kernel
theorem dX9_isDay_7 : decode cX9_isDay 7 = .ok (.ireturn, 1) := by decide +kernel
theorem dX9_isStrip_0 : decode cX9_isStrip 0 = .ok (.iload_n 0, 1) := by decide +kernel
theorem dX9_isStrip_1 : decode cX9_isStrip 1 = .ok (.iconst 0, 1) := by decide +kernel
theorem dX9_isStrip_2 : decode cX9_isStrip 2 = .ok (.bipush 11, 2) := by decide +kernel
theorem dX9_isStrip_4 : decode cX9_isStrip 4 = .ok (.invokestatic 55, 3) := by decide +kernel
theorem dX9_isStrip_7 : decode cX9_isStrip 7 = .ok (.ifCond .eq 17, 3) := by decide +kernel
theorem dX9_isStrip_10 : decode cX9_isStrip 10 = .ok (.iload_n 1, 1) := by decide +kernel
theorem dX9_isStrip_11 : decode cX9_isStrip 11 = .ok (.iload_n 0, 1) := by decide +kernel
theorem dX9_isStrip_12 : decode cX9_isStrip 12 = .ok (.bipush 11, 2) := by decide +kernel
theorem dX9_isStrip_14 : decode cX9_isStrip 14 = .ok (.invokestatic 55, 3) := by decide +kernel
theorem dX9_isStrip_17 : decode cX9_isStrip 17 = .ok (.ifCond .eq 7, 3) := by decide +kernel
theorem dX9_isStrip_20 : decode cX9_isStrip 20 = .ok (.iconst 1, 1) := by decide +kernel
theorem dX9_isStrip_21 : decode cX9_isStrip 21 = .ok (.goto 4, 3) := by decide +kernel
theorem dX9_isStrip_24 : decode cX9_isStrip 24 = .ok (.iconst 0, 1) := by decide +kernel
theorem dX9_isStrip_25 : decode cX9_isStrip 25 = .ok (.ireturn, 1) := by decide +kernel
theorem dX9_isPart_0 : decode cX9_isPart 0 = .ok (.iload_n 0, 1) := by decide +kernel
theorem dX9_isPart_1 : decode cX9_isPart 1 = .ok (.iconst 0, 1) := by decide +kernel
theorem dX9_isPart_2 : decode cX9_isPart 2 = .ok (.iconst 1, 1) := by decide +kernel
theorem dX9_isPart_3 : decode cX9_isPart 3 = .ok (.invokestatic 55, 3) := by decide +kernel
theorem dX9_isPart_6 : decode cX9_isPart 6 = .ok (.ireturn, 1) := by decide +kernel
