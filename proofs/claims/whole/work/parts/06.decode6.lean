theorem dX9_cellOf_0 : decode cX9_cellOf 0 = .ok (.bipush 12, 2) := by decide +kernel
theorem dX9_cellOf_2 : decode cX9_cellOf 2 = .ok (.iload_n 1, 1) := by decide +kernel
theorem dX9_cellOf_3 : decode cX9_cellOf 3 = .ok (.imul, 1) := by decide +kernel
theorem dX9_cellOf_4 : decode cX9_cellOf 4 = .ok (.iload_n 0, 1) := by decide +kernel
theorem dX9_cellOf_5 : decode cX9_cellOf 5 = .ok (.iadd, 1) := by decide +kernel
theorem dX9_cellOf_6 : decode cX9_cellOf 6 = .ok (.ireturn, 1) := by decide +kernel
theorem dX9_power_0 : decode cX9_power 0 = .ok (.lconst 1, 1) := by decide +kernel
theorem dX9_power_1 : decode cX9_power 1 = .ok (.lstore_n 3, 1) := by decide +kernel
theorem dX9_power_2 : decode cX9_power 2 = .ok (.iconst 0, 1) := by decide +kernel
theorem dX9_power_3 : decode cX9_power 3 = .ok (.istore 5, 2) := by decide +kernel
theorem dX9_power_5 : decode cX9_power 5 = .ok (.iload 5, 2) := by decide +kernel
theorem dX9_power_7 : decode cX9_power 7 = .ok (.iload_n 2, 1) := by decide +kernel
theorem dX9_power_8 : decode cX9_power 8 = .ok (.if_icmp .ge 13, 3) := by decide +kernel
theorem dX9_power_11 : decode cX9_power 11 = .ok (.lload_n 3, 1) := by decide +kernel
theorem dX9_power_12 : decode cX9_power 12 = .ok (.lload_n 0, 1) := by decide +kernel
theorem dX9_power_13 : decode cX9_power 13 = .ok (.lmul, 1) := by decide +kernel
theorem dX9_power_14 : decode cX9_power 14 = .ok (.lstore_n 3, 1) := by decide +kernel
theorem dX9_power_15 : decode cX9_power 15 = .ok (.iinc 5 1, 3) := by decide +kernel
theorem dX9_power_18 : decode cX9_power 18 = .ok (.goto (-13), 3) := by decide +kernel
theorem dX9_power_21 : decode cX9_power 21 = .ok (.lload_n 3, 1) := by decide +kernel
theorem dX9_power_22 : decode cX9_power 22 = .ok (.lreturn, 1) := by decide +kernel
theorem dX9_choices_0 : decode cX9_choices 0 = .ok (.iload_n 1, 1) := by decide +kernel
theorem dX9_choices_1 : decode cX9_choices 1 = .ok (.ifCond .lt 8, 3) := by decide +kernel
theorem dX9_choices_4 : decode cX9_choices 4 = .ok (.iload_n 1, 1) := by decide +kernel
theorem dX9_choices_5 : decode cX9_choices 5 = .ok (.iload_n 0, 1) := by decide +kernel
theorem dX9_choices_6 : decode cX9_choices 6 = .ok (.if_icmp .le 5, 3) := by decide +kernel
theorem dX9_choices_9 : decode cX9_choices 9 = .ok (.lconst 0, 1) := by decide +kernel
theorem dX9_choices_10 : decode cX9_choices 10 = .ok (.lreturn, 1) := by decide +kernel
theorem dX9_choices_11 : decode cX9_choices 11 = .ok (.lconst 1, 1) := by decide +kernel
theorem dX9_choices_12 : decode cX9_choices 12 = .ok (.lstore_n 2, 1) := by decide +kernel
theorem dX9_choices_13 : decode cX9_choices 13 = .ok (.iconst 1, 1) := by decide +kernel
theorem dX9_choices_14 : decode cX9_choices 14 = .ok (.istore 4, 2) := by decide +kernel
theorem dX9_choices_16 : decode cX9_choices 16 = .ok (.iload 4, 2) := by decide +kernel
theorem dX9_choices_18 : decode cX9_choices 18 = .ok (.iload_n 1, 1) := by decide +kernel
theorem dX9_choices_19 : decode cX9_choices 19 = .ok (.if_icmp .gt 23, 3) := by decide +kernel
theorem dX9_choices_22 : decode cX9_choices 22 = .ok (.lload_n 2, 1) := by decide +kernel
theorem dX9_choices_23 : decode cX9_choices 23 = .ok (.iload_n 0, 1) := by decide +kernel
theorem dX9_choices_24 : decode cX9_choices 24 = .ok (.iload_n 1, 1) := by decide +kernel
theorem dX9_choices_25 : decode cX9_choices 25 = .ok (.isub, 1) := by decide +kernel
theorem dX9_choices_26 : decode cX9_choices 26 = .ok (.iload 4, 2) := by decide +kernel
theorem dX9_choices_28 : decode cX9_choices 28 = .ok (.iadd, 1) := by decide +kernel
theorem dX9_choices_29 : decode cX9_choices 29 = .ok (.i2l, 1) := by decide +kernel
theorem dX9_choices_30 : decode cX9_choices 30 = .ok (.lmul, 1) := by decide +kernel
theorem dX9_choices_31 : decode cX9_choices 31 = .ok (.iload 4, 2) := by decide +kernel
theorem dX9_choices_33 : decode cX9_choices 33 = .ok (.i2l, 1) := by decide +kernel
theorem dX9_choices_34 : decode cX9_choices 34 = .ok (.ldiv, 1) := by decide +kernel
theorem dX9_choices_35 : decode cX9_choices 35 = .ok (.lstore_n 2, 1) := by decide +kernel
theorem dX9_choices_36 : decode cX9_choices 36 = .ok (.iinc 4 1, 3) := by decide +kernel
theorem dX9_choices_39 : decode cX9_choices 39 = .ok (.goto (-23), 3) := by decide +kernel
theorem dX9_choices_42 : decode cX9_choices 42 = .ok (.lload_n 2, 1) := by decide +kernel
theorem dX9_choices_43 : decode cX9_choices 43 = .ok (.lreturn, 1) := by decide +kernel
theorem dX9_partOf_0 : decode cX9_partOf 0 = .ok (.lload_n 0, 1) := by decide +kernel
theorem dX9_partOf_1 : decode cX9_partOf 1 = .ok (.lload_n 2, 1) := by decide +kernel
theorem dX9_partOf_2 : decode cX9_partOf 2 = .ok (.invokestatic 251, 3) := by decide +kernel
theorem dX9_partOf_5 : decode cX9_partOf 5 = .ok (.lstore 5, 2) := by decide +kernel
theorem dX9_partOf_7 : decode cX9_partOf 7 = .ok (.lload 5, 2) := by decide +kernel
theorem dX9_partOf_9 : decode cX9_partOf 9 = .ok (.lconst 0, 1) := by decide +kernel
theorem dX9_partOf_10 : decode cX9_partOf 10 = .ok (.lcmp, 1) := by decide +kernel
theorem dX9_partOf_11 : decode cX9_partOf 11 = .ok (.ifCond .ne 7, 3) := by decide +kernel
theorem dX9_partOf_14 : decode cX9_partOf 14 = .ok (.iload 4, 2) := by decide +kernel
theorem dX9_partOf_16 : decode cX9_partOf 16 = .ok (.i2l, 1) := by decide +kernel
theorem dX9_partOf_17 : decode cX9_partOf 17 = .ok (.lreturn, 1) := by decide +kernel
theorem dX9_partOf_18 : decode cX9_partOf 18 = .ok (.iload 4, 2) := by decide +kernel
theorem dX9_partOf_20 : decode cX9_partOf 20 = .ok (.ifCond .ne 7, 3) := by decide +kernel
theorem dX9_partOf_23 : decode cX9_partOf 23 = .ok (.lload_n 0, 1) := by decide +kernel
theorem dX9_partOf_24 : decode cX9_partOf 24 = .ok (.goto 4, 3) := by decide +kernel
theorem dX9_partOf_27 : decode cX9_partOf 27 = .ok (.lload_n 2, 1) := by decide +kernel
theorem dX9_partOf_28 : decode cX9_partOf 28 = .ok (.lload 5, 2) := by decide +kernel
theorem dX9_partOf_30 : decode cX9_partOf 30 = .ok (.ldiv, 1) := by decide +kernel
theorem dX9_partOf_31 : decode cX9_partOf 31 = .ok (.lreturn, 1) := by decide +kernel
theorem dX9_commonDivisor_0 : decode cX9_commonDivisor 0 = .ok (.lload_n 0, 1) := by decide +kernel
theorem dX9_commonDivisor_1 : decode cX9_commonDivisor 1 = .ok (.lstore 4, 2) := by decide +kernel
theorem dX9_commonDivisor_3 : decode cX9_commonDivisor 3 = .ok (.lload_n 2, 1) := by decide +kernel
theorem dX9_commonDivisor_4 : decode cX9_commonDivisor 4 = .ok (.lstore 6, 2) := by decide +kernel
theorem dX9_commonDivisor_6 : decode cX9_commonDivisor 6 = .ok (.iconst 0, 1) := by decide +kernel
theorem dX9_commonDivisor_7 : decode cX9_commonDivisor 7 = .ok (.istore 8, 2) := by decide +kernel
theorem dX9_commonDivisor_9 : decode cX9_commonDivisor 9 = .ok (.iload 8, 2) := by decide +kernel
theorem dX9_commonDivisor_11 : decode cX9_commonDivisor 11 = .ok (.bipush 100, 2) := by decide +kernel
theorem dX9_commonDivisor_13 : decode cX9_commonDivisor 13 = .ok (.if_icmp .ge 31, 3) := by decide +kernel
theorem dX9_commonDivisor_16 : decode cX9_commonDivisor 16 = .ok (.lload 6, 2) := by decide +kernel
theorem dX9_commonDivisor_18 : decode cX9_commonDivisor 18 = .ok (.lconst 0, 1) := by decide +kernel
theorem dX9_commonDivisor_19 : decode cX9_commonDivisor 19 = .ok (.lcmp, 1) := by decide +kernel
theorem dX9_commonDivisor_20 : decode cX9_commonDivisor 20 = .ok (.ifCond .eq 24, 3) := by decide +kernel
theorem dX9_commonDivisor_23 : decode cX9_commonDivisor 23 = .ok (.lload 4, 2) := by decide +kernel
theorem dX9_commonDivisor_25 : decode cX9_commonDivisor 25 = .ok (.lload 6, 2) := by decide +kernel
theorem dX9_commonDivisor_27 : decode cX9_commonDivisor 27 = .ok (.lrem, 1) := by decide +kernel
theorem dX9_commonDivisor_28 : decode cX9_commonDivisor 28 = .ok (.lstore 9, 2) := by decide +kernel
theorem dX9_commonDivisor_30 : decode cX9_commonDivisor 30 = .ok (.lload 6, 2) := by decide +kernel
theorem dX9_commonDivisor_32 : decode cX9_commonDivisor 32 = .ok (.lstore 4, 2) := by decide +kernel
theorem dX9_commonDivisor_34 : decode cX9_commonDivisor 34 = .ok (.lload 9, 2) := by decide +kernel
theorem dX9_commonDivisor_36 : decode cX9_commonDivisor 36 = .ok (.lstore 6, 2) := by decide +kernel
theorem dX9_commonDivisor_38 : decode cX9_commonDivisor 38 = .ok (.iinc 8 1, 3) := by decide +kernel
theorem dX9_commonDivisor_41 : decode cX9_commonDivisor 41 = .ok (.goto (-32), 3) := by decide +kernel
theorem dX9_commonDivisor_44 : decode cX9_commonDivisor 44 = .ok (.lload 4, 2) := by decide +kernel
theorem dX9_commonDivisor_46 : decode cX9_commonDivisor 46 = .ok (.lreturn, 1) := by decide +kernel
theorem dX10_init_0 : decode cX10_init 0 = .ok (.aload_n 0, 1) := by decide +kernel
theorem dX10_init_1 : decode cX10_init 1 = .ok (.invokespecial 1, 3) := by decide +kernel
theorem dX10_init_4 : decode cX10_init 4 = .ok (.aload_n 0, 1) := by decide +kernel
theorem dX10_init_5 : decode cX10_init 5 = .ok (.sipush 132, 3) := by decide +kernel
theorem dX10_init_8 : decode cX10_init 8 = .ok (.newarray .int, 2) := by decide +kernel
theorem dX10_init_10 : decode cX10_init 10 = .ok (.putfield 7, 3) := by decide +kernel
theorem dX10_init_13 : decode cX10_init 13 = .ok (.aload_n 0, 1) := by decide +kernel
theorem dX10_init_14 : decode cX10_init 14 = .ok (.sipush 1200, 3) := by decide +kernel
theorem dX10_init_17 : decode cX10_init 17 = .ok (.newarray .boolean, 2) := by decide +kernel
theorem dX10_init_19 : decode cX10_init 19 = .ok (.putfield 13, 3) := by decide +kernel
theorem dX10_init_22 : decode cX10_init 22 = .ok (.aload_n 0, 1) := by decide +kernel
theorem dX10_init_23 : decode cX10_init 23 = .ok (.bipush 50, 2) := by decide +kernel
theorem dX10_init_25 : decode cX10_init 25 = .ok (.newarray .int, 2) := by decide +kernel
theorem dX10_init_27 : decode cX10_init 27 = .ok (.putfield 17, 3) := by decide +kernel
theorem dX10_init_30 : decode cX10_init 30 = .ok (.aload_n 0, 1) := by decide +kernel
theorem dX10_init_31 : decode cX10_init 31 = .ok (.sipush 960, 3) := by decide +kernel
theorem dX10_init_34 : decode cX10_init 34 = .ok (.newarray .boolean, 2) := by decide +kernel
theorem dX10_init_36 : decode cX10_init 36 = .ok (.putfield 20, 3) := by decide +kernel
theorem dX10_init_39 : decode cX10_init 39 = .ok (.aload_n 0, 1) := by decide +kernel
theorem dX10_init_40 : decode cX10_init 40 = .ok (.bipush 40, 2) := by decide +kernel
theorem dX10_init_42 : decode cX10_init 42 = .ok (.newarray .int, 2) := by decide +kernel
theorem dX10_init_44 : decode cX10_init 44 = .ok (.putfield 23, 3) := by decide +kernel
theorem dX10_init_47 : decode cX10_init 47 = .ok (.aload_n 0, 1) := by decide +kernel
theorem dX10_init_48 : decode cX10_init 48 = .ok (.iconst 5, 1) := by decide +kernel
theorem dX10_init_49 : decode cX10_init 49 = .ok (.newarray .int, 2) := by decide +kernel
theorem dX10_init_51 : decode cX10_init 51 = .ok (.putfield 26, 3) := by decide +kernel
theorem dX10_init_54 : decode cX10_init 54 = .ok (.aload_n 0, 1) := by decide +kernel
theorem dX10_init_55 : decode cX10_init 55 = .ok (.sipush 200, 3) := by decide +kernel
theorem dX10_init_58 : decode cX10_init 58 = .ok (.newarray .int, 2) := by decide +kernel
theorem dX10_init_60 : decode cX10_init 60 = .ok (.putfield 29, 3) := by decide +kernel
theorem dX10_init_63 : decode cX10_init 63 = .ok (.aload_n 0, 1) := by decide +kernel
theorem dX10_init_64 : decode cX10_init 64 = .ok (.bipush 32, 2) := by decide +kernel
theorem dX10_init_66 : decode cX10_init 66 = .ok (.newarray .int, 2) := by decide +kernel
theorem dX10_init_68 : decode cX10_init 68 = .ok (.putfield 32, 3) := by decide +kernel
theorem dX10_init_71 : decode cX10_init 71 = .ok (.aload_n 0, 1) := by decide +kernel
theorem dX10_init_72 : decode cX10_init 72 = .ok (.getfield 26, 3) := by decide +kernel
theorem dX10_init_75 : decode cX10_init 75 = .ok (.iconst 0, 1) := by decide +kernel
theorem dX10_init_76 : decode cX10_init 76 = .ok (.iconst 0, 1) := by decide +kernel
theorem dX10_init_77 : decode cX10_init 77 = .ok (.iastore, 1) := by decide +kernel
theorem dX10_init_78 : decode cX10_init 78 = .ok (.return_, 1) := by decide +kernel
theorem dX10_in_0 : decode cX10_in 0 = .ok (.iload_n 0, 1) := by decide +kernel
theorem dX10_in_1 : decode cX10_in 1 = .ok (.iload_n 1, 1) := by decide +kernel
theorem dX10_in_2 : decode cX10_in 2 = .ok (.if_icmp .lt 12, 3) := by decide +kernel
theorem dX10_in_5 : decode cX10_in 5 = .ok (.iload_n 0, 1) := by decide +kernel
theorem dX10_in_6 : decode cX10_in 6 = .ok (.iload_n 2, 1) := by decide +kernel
theorem dX10_in_7 : decode cX10_in 7 = .ok (.if_icmp .gt 7, 3) := by decide +kernel
theorem dX10_in_10 : decode cX10_in 10 = .ok (.iconst 1, 1) := by decide +kernel
theorem dX10_in_11 : decode cX10_in 11 = .ok (.goto 4, 3) := by decide +kernel
theorem dX10_in_14 : decode cX10_in 14 = .ok (.iconst 0, 1) := by decide +kernel
theorem dX10_in_15 : decode cX10_in 15 = .ok (.ireturn, 1) := by decide +kernel
theorem dX10_isDay_0 : decode cX10_isDay 0 = .ok (.iload_n 0, 1) := by decide +kernel
theorem dX10_isDay_1 : decode cX10_isDay 1 = .ok (.iconst 0, 1) := by decide +kernel
theorem dX10_isDay_2 : decode cX10_isDay 2 = .ok (.bipush 99, 2) := by decide +kernel
theorem dX10_isDay_4 : decode cX10_isDay 4 = .ok (.invokestatic 35, 3) := by decide +kernel
theorem dX10_isDay_7 : decode cX10_isDay 7 = .ok (.ireturn, 1) := by decide +kernel
theorem dX10_isCell_0 : decode cX10_isCell 0 = .ok (.iload_n 0, 1) := by decide +kernel
theorem dX10_isCell_1 : decode cX10_isCell 1 = .ok (.iconst 0, 1) := by decide +kernel
theorem dX10_isCell_2 : decode cX10_isCell 2 = .ok (.bipush 95, 2) := by decide +kernel
theorem dX10_isCell_4 : decode cX10_isCell 4 = .ok (.invokestatic 35, 3) := by decide +kernel
theorem dX10_isCell_7 : decode cX10_isCell 7 = .ok (.ireturn, 1) := by decide +kernel
theorem dX10_isPart_0 : decode cX10_isPart 0 = .ok (.iload_n 0, 1) := by decide +kernel
theorem dX10_isPart_1 : decode cX10_isPart 1 = .ok (.iconst 0, 1) := by decide +kernel
theorem dX10_isPart_2 : decode cX10_isPart 2 = .ok (.iconst 1, 1) := by decide +kernel
theorem dX10_isPart_3 : decode cX10_isPart 3 = .ok (.invokestatic 35, 3) := by decide +kernel
theorem dX10_isPart_6 : decode cX10_isPart 6 = .ok (.ireturn, 1) := by decide +kernel
theorem dX10_isThing_0 : decode cX10_isThing 0 = .ok (.iload_n 1, 1) := by decide +kernel
theorem dX10_isThing_1 : decode cX10_isThing 1 = .ok (.iconst 0, 1) := by decide +kernel
theorem dX10_isThing_2 : decode cX10_isThing 2 = .ok (.aload_n 0, 1) := by decide +kernel
theorem dX10_isThing_3 : decode cX10_isThing 3 = .ok (.getfield 39, 3) := by decide +kernel
theorem dX10_isThing_6 : decode cX10_isThing 6 = .ok (.iconst 1, 1) := by decide +kernel
theorem dX10_isThing_7 : decode cX10_isThing 7 = .ok (.isub, 1) := by decide +kernel
theorem dX10_isThing_8 : decode cX10_isThing 8 = .ok (.invokestatic 35, 3) := by decide +kernel
theorem dX10_isThing_11 : decode cX10_isThing 11 = .ok (.ireturn, 1) := by decide +kernel
theorem dX10_isPicture_0 : decode cX10_isPicture 0 = .ok (.iload_n 1, 1) := by decide +kernel
theorem dX10_isPicture_1 : decode cX10_isPicture 1 = .ok (.iconst 0, 1) := by decide +kernel
theorem dX10_isPicture_2 : decode cX10_isPicture 2 = .ok (.aload_n 0, 1) := by decide +kernel
theorem dX10_isPicture_3 : decode cX10_isPicture 3 = .ok (.getfield 43, 3) := by decide +kernel
theorem dX10_isPicture_6 : decode cX10_isPicture 6 = .ok (.iconst 1, 1) := by decide +kernel
theorem dX10_isPicture_7 : decode cX10_isPicture 7 = .ok (.isub, 1) := by decide +kernel
theorem dX10_isPicture_8 : decode cX10_isPicture 8 = .ok (.invokestatic 35, 3) := by decide +kernel
theorem dX10_isPicture_11 : decode cX10_isPicture 11 = .ok (.ireturn, 1) := by decide +kernel
theorem dX10_thing_0 : decode cX10_thing 0 = .ok (.iload_n 1, 1) := by decide +kernel
theorem dX10_thing_1 : decode cX10_thing 1 = .ok (.iconst 0, 1) := by decide +kernel
theorem dX10_thing_2 : decode cX10_thing 2 = .ok (.bipush 11, 2) := by decide +kernel
theorem dX10_thing_4 : decode cX10_thing 4 = .ok (.invokestatic 35, 3) := by decide +kernel
theorem dX10_thing_7 : decode cX10_thing 7 = .ok (.ifCond .eq 53, 3) := by decide +kernel
theorem dX10_thing_10 : decode cX10_thing 10 = .ok (.iload_n 2, 1) := by decide +kernel
theorem dX10_thing_11 : decode cX10_thing 11 = .ok (.iconst 0, 1) := by decide +kernel
theorem dX10_thing_12 : decode cX10_thing 12 = .ok (.bipush 7, 2) := by decide +kernel
theorem dX10_thing_14 : decode cX10_thing 14 = .ok (.invokestatic 35, 3) := by decide +kernel
theorem dX10_thing_17 : decode cX10_thing 17 = .ok (.ifCond .eq 43, 3) := by decide +kernel
theorem dX10_thing_20 : decode cX10_thing 20 = .ok (.iload_n 3, 1) := by decide +kernel
theorem dX10_thing_21 : decode cX10_thing 21 = .ok (.iconst 1, 1) := by decide +kernel
theorem dX10_thing_22 : decode cX10_thing 22 = .ok (.iconst 4, 1) := by decide +kernel
theorem dX10_thing_23 : decode cX10_thing 23 = .ok (.invokestatic 35, 3) := by decide +kernel
theorem dX10_thing_26 : decode cX10_thing 26 = .ok (.ifCond .eq 34, 3) := by decide +kernel
theorem dX10_thing_29 : decode cX10_thing 29 = .ok (.iload 4, 2) := by decide +kernel
theorem dX10_thing_31 : decode cX10_thing 31 = .ok (.iconst 1, 1) := by decide +kernel
theorem dX10_thing_32 : decode cX10_thing 32 = .ok (.iconst 4, 1) := by decide +kernel
theorem dX10_thing_33 : decode cX10_thing 33 = .ok (.invokestatic 35, 3) := by decide +kernel
theorem dX10_thing_36 : decode cX10_thing 36 = .ok (.ifCond .eq 24, 3) := by decide +kernel
theorem dX10_thing_39 : decode cX10_thing 39 = .ok (.iload_n 1, 1) := by decide +kernel
theorem dX10_thing_40 : decode cX10_thing 40 = .ok (.iload_n 3, 1) := by decide +kernel
theorem dX10_thing_41 : decode cX10_thing 41 = .ok (.iadd, 1) := by decide +kernel
theorem dX10_thing_42 : decode cX10_thing 42 = .ok (.bipush 12, 2) := by decide +kernel
theorem dX10_thing_44 : decode cX10_thing 44 = .ok (.if_icmp .gt 16, 3) := by decide +kernel
theorem dX10_thing_47 : decode cX10_thing 47 = .ok (.iload_n 2, 1) := by decide +kernel
theorem dX10_thing_48 : decode cX10_thing 48 = .ok (.iload 4, 2) := by decide +kernel
theorem dX10_thing_50 : decode cX10_thing 50 = .ok (.iadd, 1) := by decide +kernel
theorem dX10_thing_51 : decode cX10_thing 51 = .ok (.bipush 8, 2) := by decide +kernel
theorem dX10_thing_53 : decode cX10_thing 53 = .ok (.if_icmp .gt 7, 3) := by decide +kernel
theorem dX10_thing_56 : decode cX10_thing 56 = .ok (.iconst 1, 1) := by decide +kernel
theorem dX10_thing_57 : decode cX10_thing 57 = .ok (.goto 4, 3) := by decide +kernel
theorem dX10_thing_60 : decode cX10_thing 60 = .ok (.iconst 0, 1) := by decide +kernel
theorem dX10_thing_61 : decode cX10_thing 61 = .ok (.istore 9, 2) := by decide +kernel
theorem dX10_thing_63 : decode cX10_thing 63 = .ok (.iload 9, 2) := by decide +kernel
theorem dX10_thing_65 : decode cX10_thing 65 = .ok (.ifCond .eq 47, 3) := by decide +kernel
theorem dX10_thing_68 : decode cX10_thing 68 = .ok (.iload 5, 2) := by decide +kernel
theorem dX10_thing_70 : decode cX10_thing 70 = .ok (.iconst 1, 1) := by decide +kernel
theorem dX10_thing_71 : decode cX10_thing 71 = .ok (.bipush 20, 2) := by decide +kernel
theorem dX10_thing_73 : decode cX10_thing 73 = .ok (.invokestatic 35, 3) := by decide +kernel
theorem dX10_thing_76 : decode cX10_thing 76 = .ok (.ifCond .eq 36, 3) := by decide +kernel
theorem dX10_thing_79 : decode cX10_thing 79 = .ok (.iload 6, 2) := by decide +kernel
theorem dX10_thing_81 : decode cX10_thing 81 = .ok (.iconst 0, 1) := by decide +kernel
theorem dX10_thing_82 : decode cX10_thing 82 = .ok (.iconst 5, 1) := by decide +kernel
theorem dX10_thing_83 : decode cX10_thing 83 = .ok (.invokestatic 35, 3) := by decide +kernel
theorem dX10_thing_86 : decode cX10_thing 86 = .ok (.ifCond .eq 26, 3) := by decide +kernel
theorem dX10_thing_89 : decode cX10_thing 89 = .ok (.iload 7, 2) := by decide +kernel
theorem dX10_thing_91 : decode cX10_thing 91 = .ok (.invokestatic 46, 3) := by decide +kernel
theorem dX10_thing_94 : decode cX10_thing 94 = .ok (.ifCond .eq 18, 3) := by decide +kernel
theorem dX10_thing_97 : decode cX10_thing 97 = .ok (.iload 8, 2) := by decide +kernel
theorem dX10_thing_99 : decode cX10_thing 99 = .ok (.invokestatic 46, 3) := by decide +kernel
theorem dX10_thing_102 : decode cX10_thing 102 = .ok (.ifCond .eq 10, 3) := by decide +kernel
theorem dX10_thing_105 : decode cX10_thing 105 = .ok (.iload 7, 2) := by decide +kernel
theorem dX10_thing_107 : decode cX10_thing 107 = .ok (.iload 8, 2) := by decide +kernel
theorem dX10_thing_109 : decode cX10_thing 109 = .ok (.if_icmp .le 6, 3) := by decide +kernel
theorem dX10_thing_112 : decode cX10_thing 112 = .ok (.bipush (-2), 2) := by decide +kernel
theorem dX10_thing_114 : decode cX10_thing 114 = .ok (.ireturn, 1) := by decide +kernel
theorem dX10_thing_115 : decode cX10_thing 115 = .ok (.aload_n 0, 1) := by decide +kernel
theorem dX10_thing_116 : decode cX10_thing 116 = .ok (.getfield 39, 3) := by decide +kernel
theorem dX10_thing_119 : decode cX10_thing 119 = .ok (.bipush 12, 2) := by decide +kernel
theorem dX10_thing_121 : decode cX10_thing 121 = .ok (.if_icmp .ne 6, 3) := by decide +kernel
theorem dX10_thing_124 : decode cX10_thing 124 = .ok (.bipush (-4), 2) := by decide +kernel
theorem dX10_thing_126 : decode cX10_thing 126 = .ok (.ireturn, 1) := by decide +kernel
theorem dX10_thing_127 : decode cX10_thing 127 = .ok (.bipush 11, 2) := by decide +kernel
theorem dX10_thing_129 : decode cX10_thing 129 = .ok (.aload_n 0, 1) := by decide +kernel
theorem dX10_thing_130 : decode cX10_thing 130 = .ok (.getfield 39, 3) := by decide +kernel
theorem dX10_thing_133 : decode cX10_thing 133 = .ok (.imul, 1) := by decide +kernel
theorem dX10_thing_134 : decode cX10_thing 134 = .ok (.istore 10, 2) := by decide +kernel
theorem dX10_thing_136 : decode cX10_thing 136 = .ok (.aload_n 0, 1) := by decide +kernel
theorem dX10_thing_137 : decode cX10_thing 137 = .ok (.getfield 7, 3) := by decide +kernel
theorem dX10_thing_140 : decode cX10_thing 140 = .ok (.iload 10, 2) := by decide +kernel
theorem dX10_thing_142 : decode cX10_thing 142 = .ok (.iload_n 1, 1) := by decide +kernel
theorem dX10_thing_143 : decode cX10_thing 143 = .ok (.iastore, 1) := by decide +kernel
theorem dX10_thing_144 : decode cX10_thing 144 = .ok (.aload_n 0, 1) := by decide +kernel
theorem dX10_thing_145 : decode cX10_thing 145 = .ok (.getfield 7, 3) := by decide +kernel
theorem dX10_thing_148 : decode cX10_thing 148 = .ok (.iload 10, 2) := by decide +kernel
theorem dX10_thing_150 : decode cX10_thing 150 = .ok (.iconst 1, 1) := by decide +kernel
theorem dX10_thing_151 : decode cX10_thing 151 = .ok (.iadd, 1) := by decide +kernel
theorem dX10_thing_152 : decode cX10_thing 152 = .ok (.iload_n 2, 1) := by decide +kernel
theorem dX10_thing_153 : decode cX10_thing 153 = .ok (.iastore, 1) := by decide +kernel
theorem dX10_thing_154 : decode cX10_thing 154 = .ok (.aload_n 0, 1) := by decide +kernel
theorem dX10_thing_155 : decode cX10_thing 155 = .ok (.getfield 7, 3) := by decide +kernel
theorem dX10_thing_158 : decode cX10_thing 158 = .ok (.iload 10, 2) := by decide +kernel
theorem dX10_thing_160 : decode cX10_thing 160 = .ok (.iconst 2, 1) := by decide +kernel
theorem dX10_thing_161 : decode cX10_thing 161 = .ok (.iadd, 1) := by decide +kernel
theorem dX10_thing_162 : decode cX10_thing 162 = .ok (.iload_n 3, 1) := by decide +kernel
theorem dX10_thing_163 : decode cX10_thing 163 = .ok (.iastore, 1) := by decide +kernel
theorem dX10_thing_164 : decode cX10_thing 164 = .ok (.aload_n 0, 1) := by decide +kernel
theorem dX10_thing_165 : decode cX10_thing 165 = .ok (.getfield 7, 3) := by decide +kernel
theorem dX10_thing_168 : decode cX10_thing 168 = .ok (.iload 10, 2) := by decide +kernel
theorem dX10_thing_170 : decode cX10_thing 170 = .ok (.iconst 3, 1) := by decide +kernel
theorem dX10_thing_171 : decode cX10_thing 171 = .ok (.iadd, 1) := by decide +kernel
theorem dX10_thing_172 : decode cX10_thing 172 = .ok (.iload 4, 2) := by decide +kernel
theorem dX10_thing_174 : decode cX10_thing 174 = .ok (.iastore, 1) := by decide +kernel
theorem dX10_thing_175 : decode cX10_thing 175 = .ok (.aload_n 0, 1) := by decide +kernel
theorem dX10_thing_176 : decode cX10_thing 176 = .ok (.getfield 7, 3) := by decide +kernel
theorem dX10_thing_179 : decode cX10_thing 179 = .ok (.iload 10, 2) := by decide +kernel
theorem dX10_thing_181 : decode cX10_thing 181 = .ok (.iconst 4, 1) := by decide +kernel
theorem dX10_thing_182 : decode cX10_thing 182 = .ok (.iadd, 1) := by decide +kernel
theorem dX10_thing_183 : decode cX10_thing 183 = .ok (.iload 5, 2) := by decide +kernel
theorem dX10_thing_185 : decode cX10_thing 185 = .ok (.iastore, 1) := by decide +kernel
theorem dX10_thing_186 : decode cX10_thing 186 = .ok (.aload_n 0, 1) := by decide +kernel
theorem dX10_thing_187 : decode cX10_thing 187 = .ok (.getfield 7, 3) := by decide +kernel
theorem dX10_thing_190 : decode cX10_thing 190 = .ok (.iload 10, 2) := by decide +kernel
theorem dX10_thing_192 : decode cX10_thing 192 = .ok (.iconst 5, 1) := by decide +kernel
theorem dX10_thing_193 : decode cX10_thing 193 = .ok (.iadd, 1) := by decide +kernel
theorem dX10_thing_194 : decode cX10_thing 194 = .ok (.iload 6, 2) := by decide +kernel
theorem dX10_thing_196 : decode cX10_thing 196 = .ok (.iastore, 1) := by decide +kernel
theorem dX10_thing_197 : decode cX10_thing 197 = .ok (.aload_n 0, 1) := by decide +kernel
theorem dX10_thing_198 : decode cX10_thing 198 = .ok (.getfield 7, 3) := by decide +kernel
theorem dX10_thing_201 : decode cX10_thing 201 = .ok (.iload 10, 2) := by decide +kernel
theorem dX10_thing_203 : decode cX10_thing 203 = .ok (.bipush 6, 2) := by decide +kernel
theorem dX10_thing_205 : decode cX10_thing 205 = .ok (.iadd, 1) := by decide +kernel
theorem dX10_thing_206 : decode cX10_thing 206 = .ok (.iload 7, 2) := by decide +kernel
theorem dX10_thing_208 : decode cX10_thing 208 = .ok (.iastore, 1) := by decide +kernel
theorem dX10_thing_209 : decode cX10_thing 209 = .ok (.aload_n 0, 1) := by decide +kernel
theorem dX10_thing_210 : decode cX10_thing 210 = .ok (.getfield 7, 3) := by decide +kernel
theorem dX10_thing_213 : decode cX10_thing 213 = .ok (.iload 10, 2) := by decide +kernel
theorem dX10_thing_215 : decode cX10_thing 215 = .ok (.bipush 7, 2) := by decide +kernel
theorem dX10_thing_217 : decode cX10_thing 217 = .ok (.iadd, 1) := by decide +kernel
theorem dX10_thing_218 : decode cX10_thing 218 = .ok (.iload 8, 2) := by decide +kernel
theorem dX10_thing_220 : decode cX10_thing 220 = .ok (.iastore, 1) := by decide +kernel
theorem dX10_thing_221 : decode cX10_thing 221 = .ok (.aload_n 0, 1) := by decide +kernel
theorem dX10_thing_222 : decode cX10_thing 222 = .ok (.getfield 7, 3) := by decide +kernel
theorem dX10_thing_225 : decode cX10_thing 225 = .ok (.iload 10, 2) := by decide +kernel
theorem dX10_thing_227 : decode cX10_thing 227 = .ok (.bipush 8, 2) := by decide +kernel
theorem dX10_thing_229 : decode cX10_thing 229 = .ok (.iadd, 1) := by decide +kernel
theorem dX10_thing_230 : decode cX10_thing 230 = .ok (.bipush 8, 2) := by decide +kernel
theorem dX10_thing_232 : decode cX10_thing 232 = .ok (.iastore, 1) := by decide +kernel
theorem dX10_thing_233 : decode cX10_thing 233 = .ok (.aload_n 0, 1) := by decide +kernel
theorem dX10_thing_234 : decode cX10_thing 234 = .ok (.getfield 7, 3) := by decide +kernel
theorem dX10_thing_237 : decode cX10_thing 237 = .ok (.iload 10, 2) := by decide +kernel
theorem dX10_thing_239 : decode cX10_thing 239 = .ok (.bipush 9, 2) := by decide +kernel
theorem dX10_thing_241 : decode cX10_thing 241 = .ok (.iadd, 1) := by decide +kernel
theorem dX10_thing_242 : decode cX10_thing 242 = .ok (.iconst 0, 1) := by decide +kernel
theorem dX10_thing_243 : decode cX10_thing 243 = .ok (.iastore, 1) := by decide +kernel
theorem dX10_thing_244 : decode cX10_thing 244 = .ok (.aload_n 0, 1) := by decide +kernel
theorem dX10_thing_245 : decode cX10_thing 245 = .ok (.getfield 7, 3) := by decide +kernel
theorem dX10_thing_248 : decode cX10_thing 248 = .ok (.iload 10, 2) := by decide +kernel
theorem dX10_thing_250 : decode cX10_thing 250 = .ok (.bipush 10, 2) := by decide +kernel
theorem dX10_thing_252 : decode cX10_thing 252 = .ok (.iadd, 1) := by decide +kernel
theorem dX10_thing_253 : decode cX10_thing 253 = .ok (.iconst 0, 1) := by decide +kernel
theorem dX10_thing_254 : decode cX10_thing 254 = .ok (.iastore, 1) := by decide +kernel
theorem dX10_thing_255 : decode cX10_thing 255 = .ok (.aload_n 0, 1) := by decide +kernel
theorem dX10_thing_256 : decode cX10_thing 256 = .ok (.dup, 1) := by decide +kernel
theorem dX10_thing_257 : decode cX10_thing 257 = .ok (.getfield 39, 3) := by decide +kernel
theorem dX10_thing_260 : decode cX10_thing 260 = .ok (.iconst 1, 1) := by decide +kernel
theorem dX10_thing_261 : decode cX10_thing 261 = .ok (.iadd, 1) := by decide +kernel
theorem dX10_thing_262 : decode cX10_thing 262 = .ok (.putfield 39, 3) := by decide +kernel
theorem dX10_thing_265 : decode cX10_thing 265 = .ok (.aload_n 0, 1) := by decide +kernel
theorem dX10_thing_266 : decode cX10_thing 266 = .ok (.getfield 39, 3) := by decide +kernel
theorem dX10_thing_269 : decode cX10_thing 269 = .ok (.iconst 1, 1) := by decide +kernel
theorem dX10_thing_270 : decode cX10_thing 270 = .ok (.isub, 1) := by decide +kernel
theorem dX10_thing_271 : decode cX10_thing 271 = .ok (.ireturn, 1) := by decide +kernel
theorem dX10_of_0 : decode cX10_of 0 = .ok (.aload_n 0, 1) := by decide +kernel
theorem dX10_of_1 : decode cX10_of 1 = .ok (.iload_n 1, 1) := by decide +kernel
theorem dX10_of_2 : decode cX10_of 2 = .ok (.invokevirtual 50, 3) := by decide +kernel
theorem dX10_of_5 : decode cX10_of 5 = .ok (.ifCond .ne 5, 3) := by decide +kernel
theorem dX10_of_8 : decode cX10_of 8 = .ok (.iconst (-1), 1) := by decide +kernel
theorem dX10_of_9 : decode cX10_of 9 = .ok (.ireturn, 1) := by decide +kernel
theorem dX10_of_10 : decode cX10_of 10 = .ok (.iload_n 2, 1) := by decide +kernel
theorem dX10_of_11 : decode cX10_of 11 = .ok (.iconst 0, 1) := by decide +kernel
theorem dX10_of_12 : decode cX10_of 12 = .ok (.bipush 10, 2) := by decide +kernel
theorem dX10_of_14 : decode cX10_of 14 = .ok (.invokestatic 35, 3) := by decide +kernel
theorem dX10_of_17 : decode cX10_of 17 = .ok (.ifCond .eq 17, 3) := by decide +kernel
theorem dX10_of_20 : decode cX10_of 20 = .ok (.aload_n 0, 1) := by decide +kernel
theorem dX10_of_21 : decode cX10_of 21 = .ok (.getfield 7, 3) := by decide +kernel
theorem dX10_of_24 : decode cX10_of 24 = .ok (.bipush 11, 2) := by decide +kernel
theorem dX10_of_26 : decode cX10_of 26 = .ok (.iload_n 1, 1) := by decide +kernel
theorem dX10_of_27 : decode cX10_of 27 = .ok (.imul, 1) := by decide +kernel
theorem dX10_of_28 : decode cX10_of 28 = .ok (.iload_n 2, 1) := by decide +kernel
theorem dX10_of_29 : decode cX10_of 29 = .ok (.iadd, 1) := by decide +kernel
theorem dX10_of_30 : decode cX10_of 30 = .ok (.iaload, 1) := by decide +kernel
theorem dX10_of_31 : decode cX10_of 31 = .ok (.goto 5, 3) := by decide +kernel
theorem dX10_of_34 : decode cX10_of 34 = .ok (.bipush (-2), 2) := by decide +kernel
theorem dX10_of_36 : decode cX10_of 36 = .ok (.ireturn, 1) := by decide +kernel
theorem dX10_set_0 : decode cX10_set 0 = .ok (.aload_n 0, 1) := by decide +kernel
theorem dX10_set_1 : decode cX10_set 1 = .ok (.iload_n 1, 1) := by decide +kernel
theorem dX10_set_2 : decode cX10_set 2 = .ok (.invokevirtual 50, 3) := by decide +kernel
theorem dX10_set_5 : decode cX10_set 5 = .ok (.ifCond .ne 5, 3) := by decide +kernel
theorem dX10_set_8 : decode cX10_set 8 = .ok (.iconst (-1), 1) := by decide +kernel
theorem dX10_set_9 : decode cX10_set 9 = .ok (.ireturn, 1) := by decide +kernel
theorem dX10_set_10 : decode cX10_set 10 = .ok (.iload_n 2, 1) := by decide +kernel
theorem dX10_set_11 : decode cX10_set 11 = .ok (.bipush 8, 2) := by decide +kernel
theorem dX10_set_13 : decode cX10_set 13 = .ok (.bipush 10, 2) := by decide +kernel
theorem dX10_set_15 : decode cX10_set 15 = .ok (.invokestatic 35, 3) := by decide +kernel
theorem dX10_set_18 : decode cX10_set 18 = .ok (.ifCond .eq 23, 3) := by decide +kernel
theorem dX10_set_21 : decode cX10_set 21 = .ok (.iload_n 3, 1) := by decide +kernel
theorem dX10_set_22 : decode cX10_set 22 = .ok (.iconst 0, 1) := by decide +kernel
theorem dX10_set_23 : decode cX10_set 23 = .ok (.iload_n 2, 1) := by decide +kernel
theorem dX10_set_24 : decode cX10_set 24 = .ok (.bipush 8, 2) := by decide +kernel
theorem dX10_set_26 : decode cX10_set 26 = .ok (.if_icmp .ne 8, 3) := by decide +kernel
theorem dX10_set_29 : decode cX10_set 29 = .ok (.bipush 8, 2) := by decide +kernel
theorem dX10_set_31 : decode cX10_set 31 = .ok (.goto 4, 3) := by decide +kernel
theorem dX10_set_34 : decode cX10_set 34 = .ok (.iconst 1, 1) := by decide +kernel
theorem dX10_set_35 : decode cX10_set 35 = .ok (.invokestatic 35, 3) := by decide +kernel
theorem dX10_set_38 : decode cX10_set 38 = .ok (.ifCond .ne 6, 3) := by decide +kernel
theorem dX10_set_41 : decode cX10_set 41 = .ok (.bipush (-2), 2) := by decide +kernel
theorem dX10_set_43 : decode cX10_set 43 = .ok (.ireturn, 1) := by decide +kernel
theorem dX10_set_44 : decode cX10_set 44 = .ok (.aload_n 0, 1) := by decide +kernel
theorem dX10_set_45 : decode cX10_set 45 = .ok (.getfield 7, 3) := by decide +kernel
theorem dX10_set_48 : decode cX10_set 48 = .ok (.bipush 11, 2) := by decide +kernel
theorem dX10_set_50 : decode cX10_set 50 = .ok (.iload_n 1, 1) := by decide +kernel
theorem dX10_set_51 : decode cX10_set 51 = .ok (.imul, 1) := by decide +kernel
theorem dX10_set_52 : decode cX10_set 52 = .ok (.iload_n 2, 1) := by decide +kernel
theorem dX10_set_53 : decode cX10_set 53 = .ok (.iadd, 1) := by decide +kernel
theorem dX10_set_54 : decode cX10_set 54 = .ok (.iaload, 1) := by decide +kernel
theorem dX10_set_55 : decode cX10_set 55 = .ok (.istore 4, 2) := by decide +kernel
theorem dX10_set_57 : decode cX10_set 57 = .ok (.aload_n 0, 1) := by decide +kernel
theorem dX10_set_58 : decode cX10_set 58 = .ok (.getfield 7, 3) := by decide +kernel
theorem dX10_set_61 : decode cX10_set 61 = .ok (.bipush 11, 2) := by decide +kernel
theorem dX10_set_63 : decode cX10_set 63 = .ok (.iload_n 1, 1) := by decide +kernel
theorem dX10_set_64 : decode cX10_set 64 = .ok (.imul, 1) := by decide +kernel
theorem dX10_set_65 : decode cX10_set 65 = .ok (.iload_n 2, 1) := by decide +kernel
theorem dX10_set_66 : decode cX10_set 66 = .ok (.iadd, 1) := by decide +kernel
theorem dX10_set_67 : decode cX10_set 67 = .ok (.iload_n 3, 1) := by decide +kernel
theorem dX10_set_68 : decode cX10_set 68 = .ok (.iastore, 1) := by decide +kernel
theorem dX10_set_69 : decode cX10_set 69 = .ok (.iload 4, 2) := by decide +kernel
theorem dX10_set_71 : decode cX10_set 71 = .ok (.ireturn, 1) := by decide +kernel
theorem dX10_isThere_0 : decode cX10_isThere 0 = .ok (.iload_n 2, 1) := by decide +kernel
theorem dX10_isThere_1 : decode cX10_isThere 1 = .ok (.aload_n 0, 1) := by decide +kernel
theorem dX10_isThere_2 : decode cX10_isThere 2 = .ok (.getfield 7, 3) := by decide +kernel
theorem dX10_isThere_5 : decode cX10_isThere 5 = .ok (.bipush 11, 2) := by decide +kernel
theorem dX10_isThere_7 : decode cX10_isThere 7 = .ok (.iload_n 1, 1) := by decide +kernel
theorem dX10_isThere_8 : decode cX10_isThere 8 = .ok (.imul, 1) := by decide +kernel
theorem dX10_isThere_9 : decode cX10_isThere 9 = .ok (.bipush 6, 2) := by decide +kernel
theorem dX10_isThere_11 : decode cX10_isThere 11 = .ok (.iadd, 1) := by decide +kernel
theorem dX10_isThere_12 : decode cX10_isThere 12 = .ok (.iaload, 1) := by decide +kernel
theorem dX10_isThere_13 : decode cX10_isThere 13 = .ok (.aload_n 0, 1) := by decide +kernel
theorem dX10_isThere_14 : decode cX10_isThere 14 = .ok (.getfield 7, 3) := by decide +kernel
theorem dX10_isThere_17 : decode cX10_isThere 17 = .ok (.bipush 11, 2) := by decide +kernel
theorem dX10_isThere_19 : decode cX10_isThere 19 = .ok (.iload_n 1, 1) := by decide +kernel
theorem dX10_isThere_20 : decode cX10_isThere 20 = .ok (.imul, 1) := by decide +kernel
theorem dX10_isThere_21 : decode cX10_isThere 21 = .ok (.bipush 7, 2) := by decide +kernel
theorem dX10_isThere_23 : decode cX10_isThere 23 = .ok (.iadd, 1) := by decide +kernel
theorem dX10_isThere_24 : decode cX10_isThere 24 = .ok (.iaload, 1) := by decide +kernel
theorem dX10_isThere_25 : decode cX10_isThere 25 = .ok (.invokestatic 35, 3) := by decide +kernel
theorem dX10_isThere_28 : decode cX10_isThere 28 = .ok (.ireturn, 1) := by decide +kernel
theorem dX10_isOwn_0 : decode cX10_isOwn 0 = .ok (.bipush 11, 2) := by decide +kernel
theorem dX10_isOwn_2 : decode cX10_isOwn 2 = .ok (.iload_n 1, 1) := by decide +kernel
theorem dX10_isOwn_3 : decode cX10_isOwn 3 = .ok (.imul, 1) := by decide +kernel
theorem dX10_isOwn_4 : decode cX10_isOwn 4 = .ok (.istore 4, 2) := by decide +kernel
theorem dX10_isOwn_6 : decode cX10_isOwn 6 = .ok (.iload_n 2, 1) := by decide +kernel
theorem dX10_isOwn_7 : decode cX10_isOwn 7 = .ok (.aload_n 0, 1) := by decide +kernel
theorem dX10_isOwn_8 : decode cX10_isOwn 8 = .ok (.getfield 7, 3) := by decide +kernel
theorem dX10_isOwn_11 : decode cX10_isOwn 11 = .ok (.iload 4, 2) := by decide +kernel
theorem dX10_isOwn_13 : decode cX10_isOwn 13 = .ok (.iaload, 1) := by decide +kernel
theorem dX10_isOwn_14 : decode cX10_isOwn 14 = .ok (.if_icmp .lt 64, 3) := by decide +kernel
theorem dX10_isOwn_17 : decode cX10_isOwn 17 = .ok (.iload_n 2, 1) := by decide +kernel
theorem dX10_isOwn_18 : decode cX10_isOwn 18 = .ok (.aload_n 0, 1) := by decide +kernel
theorem dX10_isOwn_19 : decode cX10_isOwn 19 = .ok (.getfield 7, 3) := by decide +kernel
theorem dX10_isOwn_22 : decode cX10_isOwn 22 = .ok (.iload 4, 2) := by decide +kernel
theorem dX10_isOwn_24 : decode cX10_isOwn 24 = .ok (.iaload, 1) := by decide +kernel
theorem dX10_isOwn_25 : decode cX10_isOwn 25 = .ok (.aload_n 0, 1) := by decide +kernel
theorem dX10_isOwn_26 : decode cX10_isOwn 26 = .ok (.getfield 7, 3) := by decide +kernel
theorem dX10_isOwn_29 : decode cX10_isOwn 29 = .ok (.iload 4, 2) := by decide +kernel
theorem dX10_isOwn_31 : decode cX10_isOwn 31 = .ok (.iconst 2, 1) := by decide +kernel
theorem dX10_isOwn_32 : decode cX10_isOwn 32 = .ok (.iadd, 1) := by decide +kernel
theorem dX10_isOwn_33 : decode cX10_isOwn 33 = .ok (.iaload, 1) := by decide +kernel
theorem dX10_isOwn_34 : decode cX10_isOwn 34 = .ok (.iadd, 1) := by decide +kernel
theorem dX10_isOwn_35 : decode cX10_isOwn 35 = .ok (.if_icmp .ge 43, 3) := by decide +kernel
theorem dX10_isOwn_38 : decode cX10_isOwn 38 = .ok (.iload_n 3, 1) := by decide +kernel
theorem dX10_isOwn_39 : decode cX10_isOwn 39 = .ok (.aload_n 0, 1) := by decide +kernel
theorem dX10_isOwn_40 : decode cX10_isOwn 40 = .ok (.getfield 7, 3) := by decide +kernel
theorem dX10_isOwn_43 : decode cX10_isOwn 43 = .ok (.iload 4, 2) := by decide +kernel
theorem dX10_isOwn_45 : decode cX10_isOwn 45 = .ok (.iconst 1, 1) := by decide +kernel
theorem dX10_isOwn_46 : decode cX10_isOwn 46 = .ok (.iadd, 1) := by decide +kernel
theorem dX10_isOwn_47 : decode cX10_isOwn 47 = .ok (.iaload, 1) := by decide +kernel
theorem dX10_isOwn_48 : decode cX10_isOwn 48 = .ok (.if_icmp .lt 30, 3) := by decide +kernel
theorem dX10_isOwn_51 : decode cX10_isOwn 51 = .ok (.iload_n 3, 1) := by decide +kernel
theorem dX10_isOwn_52 : decode cX10_isOwn 52 = .ok (.aload_n 0, 1) := by decide +kernel
theorem dX10_isOwn_53 : decode cX10_isOwn 53 = .ok (.getfield 7, 3) := by decide +kernel
theorem dX10_isOwn_56 : decode cX10_isOwn 56 = .ok (.iload 4, 2) := by decide +kernel
theorem dX10_isOwn_58 : decode cX10_isOwn 58 = .ok (.iconst 1, 1) := by decide +kernel
theorem dX10_isOwn_59 : decode cX10_isOwn 59 = .ok (.iadd, 1) := by decide +kernel
theorem dX10_isOwn_60 : decode cX10_isOwn 60 = .ok (.iaload, 1) := by decide +kernel
theorem dX10_isOwn_61 : decode cX10_isOwn 61 = .ok (.aload_n 0, 1) := by decide +kernel
theorem dX10_isOwn_62 : decode cX10_isOwn 62 = .ok (.getfield 7, 3) := by decide +kernel
theorem dX10_isOwn_65 : decode cX10_isOwn 65 = .ok (.iload 4, 2) := by decide +kernel
theorem dX10_isOwn_67 : decode cX10_isOwn 67 = .ok (.iconst 3, 1) := by decide +kernel
theorem dX10_isOwn_68 : decode cX10_isOwn 68 = .ok (.iadd, 1) := by decide +kernel
theorem dX10_isOwn_69 : decode cX10_isOwn 69 = .ok (.iaload, 1) := by decide +kernel
theorem dX10_isOwn_70 : decode cX10_isOwn 70 = .ok (.iadd, 1) := by decide +kernel
theorem dX10_isOwn_71 : decode cX10_isOwn 71 = .ok (.if_icmp .ge 7, 3) := by decide +kernel
theorem dX10_isOwn_74 : decode cX10_isOwn 74 = .ok (.iconst 1, 1) := by decide +kernel
theorem dX10_isOwn_75 : decode cX10_isOwn 75 = .ok (.goto 4, 3) := by decide +kernel
theorem dX10_isOwn_78 : decode cX10_isOwn 78 = .ok (.iconst 0, 1) := by decide +kernel
theorem dX10_isOwn_79 : decode cX10_isOwn 79 = .ok (.ireturn, 1) := by decide +kernel
theorem dX10_thingAt_0 : decode cX10_thingAt 0 = .ok (.bipush (-6), 2) := by decide +kernel
theorem dX10_thingAt_2 : decode cX10_thingAt 2 = .ok (.istore 4, 2) := by decide +kernel
theorem dX10_thingAt_4 : decode cX10_thingAt 4 = .ok (.iconst 0, 1) := by decide +kernel
theorem dX10_thingAt_5 : decode cX10_thingAt 5 = .ok (.istore 5, 2) := by decide +kernel
theorem dX10_thingAt_7 : decode cX10_thingAt 7 = .ok (.iload 5, 2) := by decide +kernel
theorem dX10_thingAt_9 : decode cX10_thingAt 9 = .ok (.aload_n 0, 1) := by decide +kernel
theorem dX10_thingAt_10 : decode cX10_thingAt 10 = .ok (.getfield 39, 3) := by decide +kernel
theorem dX10_thingAt_13 : decode cX10_thingAt 13 = .ok (.if_icmp .ge 66, 3) := by decide +kernel
theorem dX10_thingAt_16 : decode cX10_thingAt 16 = .ok (.aload_n 0, 1) := by decide +kernel
theorem dX10_thingAt_17 : decode cX10_thingAt 17 = .ok (.iload 5, 2) := by decide +kernel
theorem dX10_thingAt_19 : decode cX10_thingAt 19 = .ok (.iload_n 3, 1) := by decide +kernel
theorem dX10_thingAt_20 : decode cX10_thingAt 20 = .ok (.invokevirtual 53, 3) := by decide +kernel
theorem dX10_thingAt_23 : decode cX10_thingAt 23 = .ok (.ifCond .eq 50, 3) := by decide +kernel
theorem dX10_thingAt_26 : decode cX10_thingAt 26 = .ok (.aload_n 0, 1) := by decide +kernel
theorem dX10_thingAt_27 : decode cX10_thingAt 27 = .ok (.iload 5, 2) := by decide +kernel
theorem dX10_thingAt_29 : decode cX10_thingAt 29 = .ok (.iload_n 1, 1) := by decide +kernel
theorem dX10_thingAt_30 : decode cX10_thingAt 30 = .ok (.iload_n 2, 1) := by decide +kernel
theorem dX10_thingAt_31 : decode cX10_thingAt 31 = .ok (.invokevirtual 57, 3) := by decide +kernel
theorem dX10_thingAt_34 : decode cX10_thingAt 34 = .ok (.ifCond .eq 39, 3) := by decide +kernel
theorem dX10_thingAt_37 : decode cX10_thingAt 37 = .ok (.iload 4, 2) := by decide +kernel
theorem dX10_thingAt_39 : decode cX10_thingAt 39 = .ok (.ifCond .lt 30, 3) := by decide +kernel
theorem dX10_thingAt_42 : decode cX10_thingAt 42 = .ok (.aload_n 0, 1) := by decide +kernel
theorem dX10_thingAt_43 : decode cX10_thingAt 43 = .ok (.getfield 7, 3) := by decide +kernel
theorem dX10_thingAt_46 : decode cX10_thingAt 46 = .ok (.bipush 11, 2) := by decide +kernel
theorem dX10_thingAt_48 : decode cX10_thingAt 48 = .ok (.iload 5, 2) := by decide +kernel
theorem dX10_thingAt_50 : decode cX10_thingAt 50 = .ok (.imul, 1) := by decide +kernel
theorem dX10_thingAt_51 : decode cX10_thingAt 51 = .ok (.iconst 4, 1) := by decide +kernel
theorem dX10_thingAt_52 : decode cX10_thingAt 52 = .ok (.iadd, 1) := by decide +kernel
theorem dX10_thingAt_53 : decode cX10_thingAt 53 = .ok (.iaload, 1) := by decide +kernel
theorem dX10_thingAt_54 : decode cX10_thingAt 54 = .ok (.aload_n 0, 1) := by decide +kernel
theorem dX10_thingAt_55 : decode cX10_thingAt 55 = .ok (.getfield 7, 3) := by decide +kernel
theorem dX10_thingAt_58 : decode cX10_thingAt 58 = .ok (.bipush 11, 2) := by decide +kernel
theorem dX10_thingAt_60 : decode cX10_thingAt 60 = .ok (.iload 4, 2) := by decide +kernel
theorem dX10_thingAt_62 : decode cX10_thingAt 62 = .ok (.imul, 1) := by decide +kernel
theorem dX10_thingAt_63 : decode cX10_thingAt 63 = .ok (.iconst 4, 1) := by decide +kernel
theorem dX10_thingAt_64 : decode cX10_thingAt 64 = .ok (.iadd, 1) := by decide +kernel
theorem dX10_thingAt_65 : decode cX10_thingAt 65 = .ok (.iaload, 1) := by decide +kernel
theorem dX10_thingAt_66 : decode cX10_thingAt 66 = .ok (.if_icmp .le 7, 3) := by decide +kernel
theorem dX10_thingAt_69 : decode cX10_thingAt 69 = .ok (.iload 5, 2) := by decide +kernel
theorem dX10_thingAt_71 : decode cX10_thingAt 71 = .ok (.istore 4, 2) := by decide +kernel
theorem dX10_thingAt_73 : decode cX10_thingAt 73 = .ok (.iinc 5 1, 3) := by decide +kernel
theorem dX10_thingAt_76 : decode cX10_thingAt 76 = .ok (.goto (-69), 3) := by decide +kernel
theorem dX10_thingAt_79 : decode cX10_thingAt 79 = .ok (.iload 4, 2) := by decide +kernel
theorem dX10_thingAt_81 : decode cX10_thingAt 81 = .ok (.ireturn, 1) := by decide +kernel
theorem dX10_at_0 : decode cX10_at 0 = .ok (.iload_n 1, 1) := by decide +kernel
theorem dX10_at_1 : decode cX10_at 1 = .ok (.invokestatic 60, 3) := by decide +kernel
theorem dX10_at_4 : decode cX10_at 4 = .ok (.ifCond .eq 26, 3) := by decide +kernel
theorem dX10_at_7 : decode cX10_at 7 = .ok (.iload_n 2, 1) := by decide +kernel
theorem dX10_at_8 : decode cX10_at 8 = .ok (.invokestatic 46, 3) := by decide +kernel
theorem dX10_at_11 : decode cX10_at 11 = .ok (.ifCond .eq 19, 3) := by decide +kernel
theorem dX10_at_14 : decode cX10_at 14 = .ok (.aload_n 0, 1) := by decide +kernel
theorem dX10_at_15 : decode cX10_at 15 = .ok (.iload_n 1, 1) := by decide +kernel
theorem dX10_at_16 : decode cX10_at 16 = .ok (.bipush 12, 2) := by decide +kernel
theorem dX10_at_18 : decode cX10_at 18 = .ok (.irem, 1) := by decide +kernel
theorem dX10_at_19 : decode cX10_at 19 = .ok (.iload_n 1, 1) := by decide +kernel
theorem dX10_at_20 : decode cX10_at 20 = .ok (.bipush 12, 2) := by decide +kernel
theorem dX10_at_22 : decode cX10_at 22 = .ok (.idiv, 1) := by decide +kernel
theorem dX10_at_23 : decode cX10_at 23 = .ok (.iload_n 2, 1) := by decide +kernel
theorem dX10_at_24 : decode cX10_at 24 = .ok (.invokevirtual 63, 3) := by decide +kernel
theorem dX10_at_27 : decode cX10_at 27 = .ok (.goto 5, 3) := by decide +kernel
theorem dX10_at_30 : decode cX10_at 30 = .ok (.bipush (-2), 2) := by decide +kernel
theorem dX10_at_32 : decode cX10_at 32 = .ok (.ireturn, 1) := by decide +kernel
theorem dX10_picture_0 : decode cX10_picture 0 = .ok (.iload_n 1, 1) := by decide +kernel
theorem dX10_picture_1 : decode cX10_picture 1 = .ok (.iconst 0, 1) := by decide +kernel
theorem dX10_picture_2 : decode cX10_picture 2 = .ok (.bipush 11, 2) := by decide +kernel
theorem dX10_picture_4 : decode cX10_picture 4 = .ok (.invokestatic 35, 3) := by decide +kernel
theorem dX10_picture_7 : decode cX10_picture 7 = .ok (.ifCond .eq 46, 3) := by decide +kernel
theorem dX10_picture_10 : decode cX10_picture 10 = .ok (.iload_n 2, 1) := by decide +kernel
theorem dX10_picture_11 : decode cX10_picture 11 = .ok (.iconst 0, 1) := by decide +kernel
theorem dX10_picture_12 : decode cX10_picture 12 = .ok (.bipush 11, 2) := by decide +kernel
theorem dX10_picture_14 : decode cX10_picture 14 = .ok (.invokestatic 35, 3) := by decide +kernel
theorem dX10_picture_17 : decode cX10_picture 17 = .ok (.ifCond .eq 36, 3) := by decide +kernel
theorem dX10_picture_20 : decode cX10_picture 20 = .ok (.iload_n 1, 1) := by decide +kernel
theorem dX10_picture_21 : decode cX10_picture 21 = .ok (.iload_n 2, 1) := by decide +kernel
theorem dX10_picture_22 : decode cX10_picture 22 = .ok (.if_icmp .gt 31, 3) := by decide +kernel
theorem dX10_picture_25 : decode cX10_picture 25 = .ok (.iload_n 3, 1) := by decide +kernel
theorem dX10_picture_26 : decode cX10_picture 26 = .ok (.invokestatic 46, 3) := by decide +kernel
theorem dX10_picture_29 : decode cX10_picture 29 = .ok (.ifCond .eq 24, 3) := by decide +kernel
theorem dX10_picture_32 : decode cX10_picture 32 = .ok (.iload 4, 2) := by decide +kernel
theorem dX10_picture_34 : decode cX10_picture 34 = .ok (.iconst 0, 1) := by decide +kernel
theorem dX10_picture_35 : decode cX10_picture 35 = .ok (.iconst 3, 1) := by decide +kernel
theorem dX10_picture_36 : decode cX10_picture 36 = .ok (.invokestatic 35, 3) := by decide +kernel
theorem dX10_picture_39 : decode cX10_picture 39 = .ok (.ifCond .eq 14, 3) := by decide +kernel
theorem dX10_picture_42 : decode cX10_picture 42 = .ok (.iload 5, 2) := by decide +kernel
theorem dX10_picture_44 : decode cX10_picture 44 = .ok (.iconst 0, 1) := by decide +kernel
theorem dX10_picture_45 : decode cX10_picture 45 = .ok (.bipush 20, 2) := by decide +kernel
theorem dX10_picture_47 : decode cX10_picture 47 = .ok (.invokestatic 35, 3) := by decide +kernel
theorem dX10_picture_50 : decode cX10_picture 50 = .ok (.ifCond .ne 6, 3) := by decide +kernel
theorem dX10_picture_53 : decode cX10_picture 53 = .ok (.bipush (-2), 2) := by decide +kernel
theorem dX10_picture_55 : decode cX10_picture 55 = .ok (.ireturn, 1) := by decide +kernel
theorem dX10_picture_56 : decode cX10_picture 56 = .ok (.aload_n 0, 1) := by decide +kernel
theorem dX10_picture_57 : decode cX10_picture 57 = .ok (.getfield 43, 3) := by decide +kernel
theorem dX10_picture_60 : decode cX10_picture 60 = .ok (.bipush 10, 2) := by decide +kernel
theorem dX10_picture_62 : decode cX10_picture 62 = .ok (.if_icmp .ne 6, 3) := by decide +kernel
theorem dX10_picture_65 : decode cX10_picture 65 = .ok (.bipush (-4), 2) := by decide +kernel
theorem dX10_picture_67 : decode cX10_picture 67 = .ok (.ireturn, 1) := by decide +kernel
theorem dX10_picture_68 : decode cX10_picture 68 = .ok (.iconst 5, 1) := by decide +kernel
theorem dX10_picture_69 : decode cX10_picture 69 = .ok (.aload_n 0, 1) := by decide +kernel
theorem dX10_picture_70 : decode cX10_picture 70 = .ok (.getfield 43, 3) := by decide +kernel
theorem dX10_picture_73 : decode cX10_picture 73 = .ok (.imul, 1) := by decide +kernel
theorem dX10_picture_74 : decode cX10_picture 74 = .ok (.istore 6, 2) := by decide +kernel
theorem dX10_picture_76 : decode cX10_picture 76 = .ok (.aload_n 0, 1) := by decide +kernel
theorem dX10_picture_77 : decode cX10_picture 77 = .ok (.getfield 17, 3) := by decide +kernel
theorem dX10_picture_80 : decode cX10_picture 80 = .ok (.iload 6, 2) := by decide +kernel
theorem dX10_picture_82 : decode cX10_picture 82 = .ok (.iload_n 1, 1) := by decide +kernel
theorem dX10_picture_83 : decode cX10_picture 83 = .ok (.iastore, 1) := by decide +kernel
theorem dX10_picture_84 : decode cX10_picture 84 = .ok (.aload_n 0, 1) := by decide +kernel
theorem dX10_picture_85 : decode cX10_picture 85 = .ok (.getfield 17, 3) := by decide +kernel
theorem dX10_picture_88 : decode cX10_picture 88 = .ok (.iload 6, 2) := by decide +kernel
theorem dX10_picture_90 : decode cX10_picture 90 = .ok (.iconst 1, 1) := by decide +kernel
theorem dX10_picture_91 : decode cX10_picture 91 = .ok (.iadd, 1) := by decide +kernel
theorem dX10_picture_92 : decode cX10_picture 92 = .ok (.iload_n 2, 1) := by decide +kernel
theorem dX10_picture_93 : decode cX10_picture 93 = .ok (.iastore, 1) := by decide +kernel
theorem dX10_picture_94 : decode cX10_picture 94 = .ok (.aload_n 0, 1) := by decide +kernel
theorem dX10_picture_95 : decode cX10_picture 95 = .ok (.getfield 17, 3) := by decide +kernel
theorem dX10_picture_98 : decode cX10_picture 98 = .ok (.iload 6, 2) := by decide +kernel
theorem dX10_picture_100 : decode cX10_picture 100 = .ok (.iconst 2, 1) := by decide +kernel
theorem dX10_picture_101 : decode cX10_picture 101 = .ok (.iadd, 1) := by decide +kernel
theorem dX10_picture_102 : decode cX10_picture 102 = .ok (.iload_n 3, 1) := by decide +kernel
theorem dX10_picture_103 : decode cX10_picture 103 = .ok (.iastore, 1) := by decide +kernel
theorem dX10_picture_104 : decode cX10_picture 104 = .ok (.aload_n 0, 1) := by decide +kernel
theorem dX10_picture_105 : decode cX10_picture 105 = .ok (.getfield 17, 3) := by decide +kernel
theorem dX10_picture_108 : decode cX10_picture 108 = .ok (.iload 6, 2) := by decide +kernel
theorem dX10_picture_110 : decode cX10_picture 110 = .ok (.iconst 3, 1) := by decide +kernel
theorem dX10_picture_111 : decode cX10_picture 111 = .ok (.iadd, 1) := by decide +kernel
theorem dX10_picture_112 : decode cX10_picture 112 = .ok (.iload 4, 2) := by decide +kernel
theorem dX10_picture_114 : decode cX10_picture 114 = .ok (.iastore, 1) := by decide +kernel
theorem dX10_picture_115 : decode cX10_picture 115 = .ok (.aload_n 0, 1) := by decide +kernel
theorem dX10_picture_116 : decode cX10_picture 116 = .ok (.getfield 17, 3) := by decide +kernel
theorem dX10_picture_119 : decode cX10_picture 119 = .ok (.iload 6, 2) := by decide +kernel
theorem dX10_picture_121 : decode cX10_picture 121 = .ok (.iconst 4, 1) := by decide +kernel
theorem dX10_picture_122 : decode cX10_picture 122 = .ok (.iadd, 1) := by decide +kernel
theorem dX10_picture_123 : decode cX10_picture 123 = .ok (.iload 5, 2) := by decide +kernel
theorem dX10_picture_125 : decode cX10_picture 125 = .ok (.iastore, 1) := by decide +kernel
theorem dX10_picture_126 : decode cX10_picture 126 = .ok (.aload_n 0, 1) := by decide +kernel
theorem dX10_picture_127 : decode cX10_picture 127 = .ok (.dup, 1) := by decide +kernel
theorem dX10_picture_128 : decode cX10_picture 128 = .ok (.getfield 43, 3) := by decide +kernel
theorem dX10_picture_131 : decode cX10_picture 131 = .ok (.iconst 1, 1) := by decide +kernel
theorem dX10_picture_132 : decode cX10_picture 132 = .ok (.iadd, 1) := by decide +kernel
theorem dX10_picture_133 : decode cX10_picture 133 = .ok (.putfield 43, 3) := by decide +kernel
theorem dX10_picture_136 : decode cX10_picture 136 = .ok (.aload_n 0, 1) := by decide +kernel
theorem dX10_picture_137 : decode cX10_picture 137 = .ok (.getfield 43, 3) := by decide +kernel
theorem dX10_picture_140 : decode cX10_picture 140 = .ok (.iconst 1, 1) := by decide +kernel
theorem dX10_picture_141 : decode cX10_picture 141 = .ok (.isub, 1) := by decide +kernel
theorem dX10_picture_142 : decode cX10_picture 142 = .ok (.ireturn, 1) := by decide +kernel
theorem dX10_cloud_0 : decode cX10_cloud 0 = .ok (.aload_n 0, 1) := by decide +kernel
theorem dX10_cloud_1 : decode cX10_cloud 1 = .ok (.iload_n 1, 1) := by decide +kernel
theorem dX10_cloud_2 : decode cX10_cloud 2 = .ok (.invokevirtual 67, 3) := by decide +kernel
theorem dX10_cloud_5 : decode cX10_cloud 5 = .ok (.ifCond .ne 5, 3) := by decide +kernel
theorem dX10_cloud_8 : decode cX10_cloud 8 = .ok (.iconst (-1), 1) := by decide +kernel
theorem dX10_cloud_9 : decode cX10_cloud 9 = .ok (.ireturn, 1) := by decide +kernel
theorem dX10_cloud_10 : decode cX10_cloud 10 = .ok (.iload_n 2, 1) := by decide +kernel
theorem dX10_cloud_11 : decode cX10_cloud 11 = .ok (.invokestatic 60, 3) := by decide +kernel
theorem dX10_cloud_14 : decode cX10_cloud 14 = .ok (.ifCond .ne 6, 3) := by decide +kernel
theorem dX10_cloud_17 : decode cX10_cloud 17 = .ok (.bipush (-2), 2) := by decide +kernel
theorem dX10_cloud_19 : decode cX10_cloud 19 = .ok (.ireturn, 1) := by decide +kernel
theorem dX10_cloud_20 : decode cX10_cloud 20 = .ok (.aload_n 0, 1) := by decide +kernel
theorem dX10_cloud_21 : decode cX10_cloud 21 = .ok (.getfield 20, 3) := by decide +kernel
theorem dX10_cloud_24 : decode cX10_cloud 24 = .ok (.bipush 96, 2) := by decide +kernel
theorem dX10_cloud_26 : decode cX10_cloud 26 = .ok (.iload_n 1, 1) := by decide +kernel
theorem dX10_cloud_27 : decode cX10_cloud 27 = .ok (.imul, 1) := by decide +kernel
theorem dX10_cloud_28 : decode cX10_cloud 28 = .ok (.iload_n 2, 1) := by decide +kernel
theorem dX10_cloud_29 : decode cX10_cloud 29 = .ok (.iadd, 1) := by decide +kernel
theorem dX10_cloud_30 : decode cX10_cloud 30 = .ok (.baload, 1) := by decide +kernel
theorem dX10_cloud_31 : decode cX10_cloud 31 = .ok (.ifCond .eq 7, 3) := by decide +kernel
theorem dX10_cloud_34 : decode cX10_cloud 34 = .ok (.iconst 1, 1) := by decide +kernel
theorem dX10_cloud_35 : decode cX10_cloud 35 = .ok (.goto 4, 3) := by decide +kernel
theorem dX10_cloud_38 : decode cX10_cloud 38 = .ok (.iconst 0, 1) := by decide +kernel
theorem dX10_cloud_39 : decode cX10_cloud 39 = .ok (.istore 4, 2) := by decide +kernel
theorem dX10_cloud_41 : decode cX10_cloud 41 = .ok (.aload_n 0, 1) := by decide +kernel
theorem dX10_cloud_42 : decode cX10_cloud 42 = .ok (.getfield 20, 3) := by decide +kernel
theorem dX10_cloud_45 : decode cX10_cloud 45 = .ok (.bipush 96, 2) := by decide +kernel
theorem dX10_cloud_47 : decode cX10_cloud 47 = .ok (.iload_n 1, 1) := by decide +kernel
theorem dX10_cloud_48 : decode cX10_cloud 48 = .ok (.imul, 1) := by decide +kernel
theorem dX10_cloud_49 : decode cX10_cloud 49 = .ok (.iload_n 2, 1) := by decide +kernel
theorem dX10_cloud_50 : decode cX10_cloud 50 = .ok (.iadd, 1) := by decide +kernel
theorem dX10_cloud_51 : decode cX10_cloud 51 = .ok (.iload_n 3, 1) := by decide +kernel
theorem dX10_cloud_52 : decode cX10_cloud 52 = .ok (.bastore, 1) := by decide +kernel
theorem dX10_cloud_53 : decode cX10_cloud 53 = .ok (.iload 4, 2) := by decide +kernel
theorem dX10_cloud_55 : decode cX10_cloud 55 = .ok (.ireturn, 1) := by decide +kernel
theorem dX10_covers_0 : decode cX10_covers 0 = .ok (.iload_n 2, 1) := by decide +kernel
theorem dX10_covers_1 : decode cX10_covers 1 = .ok (.bipush 12, 2) := by decide +kernel
theorem dX10_covers_3 : decode cX10_covers 3 = .ok (.irem, 1) := by decide +kernel
theorem dX10_covers_4 : decode cX10_covers 4 = .ok (.aload_n 0, 1) := by decide +kernel
theorem dX10_covers_5 : decode cX10_covers 5 = .ok (.getfield 17, 3) := by decide +kernel
theorem dX10_covers_8 : decode cX10_covers 8 = .ok (.iconst 5, 1) := by decide +kernel
theorem dX10_covers_9 : decode cX10_covers 9 = .ok (.iload_n 1, 1) := by decide +kernel
theorem dX10_covers_10 : decode cX10_covers 10 = .ok (.imul, 1) := by decide +kernel
theorem dX10_covers_11 : decode cX10_covers 11 = .ok (.iaload, 1) := by decide +kernel
theorem dX10_covers_12 : decode cX10_covers 12 = .ok (.aload_n 0, 1) := by decide +kernel
theorem dX10_covers_13 : decode cX10_covers 13 = .ok (.getfield 17, 3) := by decide +kernel
theorem dX10_covers_16 : decode cX10_covers 16 = .ok (.iconst 5, 1) := by decide +kernel
theorem dX10_covers_17 : decode cX10_covers 17 = .ok (.iload_n 1, 1) := by decide +kernel
theorem dX10_covers_18 : decode cX10_covers 18 = .ok (.imul, 1) := by decide +kernel
theorem dX10_covers_19 : decode cX10_covers 19 = .ok (.iconst 1, 1) := by decide +kernel
theorem dX10_covers_20 : decode cX10_covers 20 = .ok (.iadd, 1) := by decide +kernel
theorem dX10_covers_21 : decode cX10_covers 21 = .ok (.iaload, 1) := by decide +kernel
theorem dX10_covers_22 : decode cX10_covers 22 = .ok (.invokestatic 35, 3) := by decide +kernel
theorem dX10_covers_25 : decode cX10_covers 25 = .ok (.ifCond .eq 21, 3) := by decide +kernel
theorem dX10_covers_28 : decode cX10_covers 28 = .ok (.aload_n 0, 1) := by decide +kernel
theorem dX10_covers_29 : decode cX10_covers 29 = .ok (.getfield 20, 3) := by decide +kernel
theorem dX10_covers_32 : decode cX10_covers 32 = .ok (.bipush 96, 2) := by decide +kernel
theorem dX10_covers_34 : decode cX10_covers 34 = .ok (.iload_n 1, 1) := by decide +kernel
theorem dX10_covers_35 : decode cX10_covers 35 = .ok (.imul, 1) := by decide +kernel
theorem dX10_covers_36 : decode cX10_covers 36 = .ok (.iload_n 2, 1) := by decide +kernel
theorem dX10_covers_37 : decode cX10_covers 37 = .ok (.iadd, 1) := by decide +kernel
theorem dX10_covers_38 : decode cX10_covers 38 = .ok (.baload, 1) := by decide +kernel
theorem dX10_covers_39 : decode cX10_covers 39 = .ok (.ifCond .ne 7, 3) := by decide +kernel
theorem dX10_covers_42 : decode cX10_covers 42 = .ok (.iconst 1, 1) := by decide +kernel
theorem dX10_covers_43 : decode cX10_covers 43 = .ok (.goto 4, 3) := by decide +kernel
theorem dX10_covers_46 : decode cX10_covers 46 = .ok (.iconst 0, 1) := by decide +kernel
theorem dX10_covers_47 : decode cX10_covers 47 = .ok (.ireturn, 1) := by decide +kernel
theorem dX10_showsOf_0 : decode cX10_showsOf 0 = .ok (.aload_n 0, 1) := by decide +kernel
theorem dX10_showsOf_1 : decode cX10_showsOf 1 = .ok (.iload_n 1, 1) := by decide +kernel
theorem dX10_showsOf_2 : decode cX10_showsOf 2 = .ok (.iload_n 2, 1) := by decide +kernel
theorem dX10_showsOf_3 : decode cX10_showsOf 3 = .ok (.invokevirtual 70, 3) := by decide +kernel
theorem dX10_showsOf_6 : decode cX10_showsOf 6 = .ok (.ifCond .ne 6, 3) := by decide +kernel
theorem dX10_showsOf_9 : decode cX10_showsOf 9 = .ok (.bipush (-6), 2) := by decide +kernel
theorem dX10_showsOf_11 : decode cX10_showsOf 11 = .ok (.ireturn, 1) := by decide +kernel
theorem dX10_showsOf_12 : decode cX10_showsOf 12 = .ok (.aload_n 0, 1) := by decide +kernel
theorem dX10_showsOf_13 : decode cX10_showsOf 13 = .ok (.getfield 17, 3) := by decide +kernel
theorem dX10_showsOf_16 : decode cX10_showsOf 16 = .ok (.iconst 5, 1) := by decide +kernel
theorem dX10_showsOf_17 : decode cX10_showsOf 17 = .ok (.iload_n 1, 1) := by decide +kernel
theorem dX10_showsOf_18 : decode cX10_showsOf 18 = .ok (.imul, 1) := by decide +kernel
theorem dX10_showsOf_19 : decode cX10_showsOf 19 = .ok (.iconst 2, 1) := by decide +kernel
theorem dX10_showsOf_20 : decode cX10_showsOf 20 = .ok (.iadd, 1) := by decide +kernel
theorem dX10_showsOf_21 : decode cX10_showsOf 21 = .ok (.iaload, 1) := by decide +kernel
theorem dX10_showsOf_22 : decode cX10_showsOf 22 = .ok (.istore_n 3, 1) := by decide +kernel
theorem dX10_showsOf_23 : decode cX10_showsOf 23 = .ok (.aload_n 0, 1) := by decide +kernel
theorem dX10_showsOf_24 : decode cX10_showsOf 24 = .ok (.getfield 17, 3) := by decide +kernel
theorem dX10_showsOf_27 : decode cX10_showsOf 27 = .ok (.iconst 5, 1) := by decide +kernel
theorem dX10_showsOf_28 : decode cX10_showsOf 28 = .ok (.iload_n 1, 1) := by decide +kernel
theorem dX10_showsOf_29 : decode cX10_showsOf 29 = .ok (.imul, 1) := by decide +kernel
theorem dX10_showsOf_30 : decode cX10_showsOf 30 = .ok (.iconst 3, 1) := by decide +kernel
theorem dX10_showsOf_31 : decode cX10_showsOf 31 = .ok (.iadd, 1) := by decide +kernel
theorem dX10_showsOf_32 : decode cX10_showsOf 32 = .ok (.iaload, 1) := by decide +kernel
theorem dX10_showsOf_33 : decode cX10_showsOf 33 = .ok (.istore 4, 2) := by decide +kernel
theorem dX10_showsOf_35 : decode cX10_showsOf 35 = .ok (.aload_n 0, 1) := by decide +kernel
theorem dX10_showsOf_36 : decode cX10_showsOf 36 = .ok (.getfield 17, 3) := by decide +kernel
theorem dX10_showsOf_39 : decode cX10_showsOf 39 = .ok (.iconst 5, 1) := by decide +kernel
theorem dX10_showsOf_40 : decode cX10_showsOf 40 = .ok (.iload_n 1, 1) := by decide +kernel
theorem dX10_showsOf_41 : decode cX10_showsOf 41 = .ok (.imul, 1) := by decide +kernel
theorem dX10_showsOf_42 : decode cX10_showsOf 42 = .ok (.iconst 4, 1) := by decide +kernel
theorem dX10_showsOf_43 : decode cX10_showsOf 43 = .ok (.iadd, 1) := by decide +kernel
theorem dX10_showsOf_44 : decode cX10_showsOf 44 = .ok (.iaload, 1) := by decide +kernel
theorem dX10_showsOf_45 : decode cX10_showsOf 45 = .ok (.istore 5, 2) := by decide +kernel
theorem dX10_showsOf_47 : decode cX10_showsOf 47 = .ok (.iload_n 2, 1) := by decide +kernel
theorem dX10_showsOf_48 : decode cX10_showsOf 48 = .ok (.bipush 12, 2) := by decide +kernel
theorem dX10_showsOf_50 : decode cX10_showsOf 50 = .ok (.irem, 1) := by decide +kernel
theorem dX10_showsOf_51 : decode cX10_showsOf 51 = .ok (.istore 6, 2) := by decide +kernel
theorem dX10_showsOf_53 : decode cX10_showsOf 53 = .ok (.iload_n 2, 1) := by decide +kernel
theorem dX10_showsOf_54 : decode cX10_showsOf 54 = .ok (.bipush 12, 2) := by decide +kernel
theorem dX10_showsOf_56 : decode cX10_showsOf 56 = .ok (.idiv, 1) := by decide +kernel
theorem dX10_showsOf_57 : decode cX10_showsOf 57 = .ok (.istore 7, 2) := by decide +kernel
theorem dX10_showsOf_59 : decode cX10_showsOf 59 = .ok (.aload_n 0, 1) := by decide +kernel
theorem dX10_showsOf_60 : decode cX10_showsOf 60 = .ok (.iload 6, 2) := by decide +kernel
theorem dX10_showsOf_62 : decode cX10_showsOf 62 = .ok (.iload 7, 2) := by decide +kernel
theorem dX10_showsOf_64 : decode cX10_showsOf 64 = .ok (.iload_n 3, 1) := by decide +kernel
theorem dX10_showsOf_65 : decode cX10_showsOf 65 = .ok (.invokevirtual 63, 3) := by decide +kernel
theorem dX10_showsOf_68 : decode cX10_showsOf 68 = .ok (.istore 8, 2) := by decide +kernel
theorem dX10_showsOf_70 : decode cX10_showsOf 70 = .ok (.iload 8, 2) := by decide +kernel
theorem dX10_showsOf_72 : decode cX10_showsOf 72 = .ok (.ifCond .lt 35, 3) := by decide +kernel
theorem dX10_showsOf_75 : decode cX10_showsOf 75 = .ok (.aload_n 0, 1) := by decide +kernel
theorem dX10_showsOf_76 : decode cX10_showsOf 76 = .ok (.getfield 7, 3) := by decide +kernel
theorem dX10_showsOf_79 : decode cX10_showsOf 79 = .ok (.bipush 11, 2) := by decide +kernel
theorem dX10_showsOf_81 : decode cX10_showsOf 81 = .ok (.iload 8, 2) := by decide +kernel
theorem dX10_showsOf_83 : decode cX10_showsOf 83 = .ok (.imul, 1) := by decide +kernel
theorem dX10_showsOf_84 : decode cX10_showsOf 84 = .ok (.bipush 9, 2) := by decide +kernel
theorem dX10_showsOf_86 : decode cX10_showsOf 86 = .ok (.iadd, 1) := by decide +kernel
theorem dX10_showsOf_87 : decode cX10_showsOf 87 = .ok (.iaload, 1) := by decide +kernel
theorem dX10_showsOf_88 : decode cX10_showsOf 88 = .ok (.ifCond .ne 19, 3) := by decide +kernel
theorem dX10_showsOf_91 : decode cX10_showsOf 91 = .ok (.bipush 10, 2) := by decide +kernel
theorem dX10_showsOf_93 : decode cX10_showsOf 93 = .ok (.aload_n 0, 1) := by decide +kernel
theorem dX10_showsOf_94 : decode cX10_showsOf 94 = .ok (.getfield 7, 3) := by decide +kernel
theorem dX10_showsOf_97 : decode cX10_showsOf 97 = .ok (.bipush 11, 2) := by decide +kernel
theorem dX10_showsOf_99 : decode cX10_showsOf 99 = .ok (.iload 8, 2) := by decide +kernel
theorem dX10_showsOf_101 : decode cX10_showsOf 101 = .ok (.imul, 1) := by decide +kernel
theorem dX10_showsOf_102 : decode cX10_showsOf 102 = .ok (.iconst 5, 1) := by decide +kernel
theorem dX10_showsOf_103 : decode cX10_showsOf 103 = .ok (.iadd, 1) := by decide +kernel
theorem dX10_showsOf_104 : decode cX10_showsOf 104 = .ok (.iaload, 1) := by decide +kernel
theorem dX10_showsOf_105 : decode cX10_showsOf 105 = .ok (.iadd, 1) := by decide +kernel
theorem dX10_showsOf_106 : decode cX10_showsOf 106 = .ok (.ireturn, 1) := by decide +kernel
theorem dX10_showsOf_107 : decode cX10_showsOf 107 = .ok (.iload 4, 2) := by decide +kernel
theorem dX10_showsOf_109 : decode cX10_showsOf 109 = .ok (.iconst 1, 1) := by decide +kernel
theorem dX10_showsOf_110 : decode cX10_showsOf 110 = .ok (.if_icmp .ne 7, 3) := by decide +kernel
theorem dX10_showsOf_113 : decode cX10_showsOf 113 = .ok (.iconst (-1), 1) := by decide +kernel
theorem dX10_showsOf_114 : decode cX10_showsOf 114 = .ok (.goto 14, 3) := by decide +kernel
theorem dX10_showsOf_117 : decode cX10_showsOf 117 = .ok (.iload 4, 2) := by decide +kernel
theorem dX10_showsOf_119 : decode cX10_showsOf 119 = .ok (.iconst 3, 1) := by decide +kernel
theorem dX10_showsOf_120 : decode cX10_showsOf 120 = .ok (.if_icmp .ne 7, 3) := by decide +kernel
theorem dX10_showsOf_123 : decode cX10_showsOf 123 = .ok (.iconst 1, 1) := by decide +kernel
theorem dX10_showsOf_124 : decode cX10_showsOf 124 = .ok (.goto 4, 3) := by decide +kernel
theorem dX10_showsOf_127 : decode cX10_showsOf 127 = .ok (.iconst 0, 1) := by decide +kernel
theorem dX10_showsOf_128 : decode cX10_showsOf 128 = .ok (.istore 9, 2) := by decide +kernel
theorem dX10_showsOf_130 : decode cX10_showsOf 130 = .ok (.iload 4, 2) := by decide +kernel
theorem dX10_showsOf_132 : decode cX10_showsOf 132 = .ok (.ifCond .ne 7, 3) := by decide +kernel
theorem dX10_showsOf_135 : decode cX10_showsOf 135 = .ok (.iconst 1, 1) := by decide +kernel
theorem dX10_showsOf_136 : decode cX10_showsOf 136 = .ok (.goto 14, 3) := by decide +kernel
theorem dX10_showsOf_139 : decode cX10_showsOf 139 = .ok (.iload 4, 2) := by decide +kernel
theorem dX10_showsOf_141 : decode cX10_showsOf 141 = .ok (.iconst 2, 1) := by decide +kernel
theorem dX10_showsOf_142 : decode cX10_showsOf 142 = .ok (.if_icmp .ne 7, 3) := by decide +kernel
theorem dX10_showsOf_145 : decode cX10_showsOf 145 = .ok (.iconst (-1), 1) := by decide +kernel
theorem dX10_showsOf_146 : decode cX10_showsOf 146 = .ok (.goto 4, 3) := by decide +kernel
theorem dX10_showsOf_149 : decode cX10_showsOf 149 = .ok (.iconst 0, 1) := by decide +kernel
theorem dX10_showsOf_150 : decode cX10_showsOf 150 = .ok (.istore 10, 2) := by decide +kernel
theorem dX10_showsOf_152 : decode cX10_showsOf 152 = .ok (.iconst 1, 1) := by decide +kernel
theorem dX10_showsOf_153 : decode cX10_showsOf 153 = .ok (.istore 11, 2) := by decide +kernel
theorem dX10_showsOf_155 : decode cX10_showsOf 155 = .ok (.iload 11, 2) := by decide +kernel
theorem dX10_showsOf_157 : decode cX10_showsOf 157 = .ok (.bipush 12, 2) := by decide +kernel
theorem dX10_showsOf_159 : decode cX10_showsOf 159 = .ok (.if_icmp .ge 97, 3) := by decide +kernel
theorem dX10_showsOf_162 : decode cX10_showsOf 162 = .ok (.iload 6, 2) := by decide +kernel
theorem dX10_showsOf_164 : decode cX10_showsOf 164 = .ok (.iload 11, 2) := by decide +kernel
theorem dX10_showsOf_166 : decode cX10_showsOf 166 = .ok (.iload 9, 2) := by decide +kernel
theorem dX10_showsOf_168 : decode cX10_showsOf 168 = .ok (.imul, 1) := by decide +kernel
theorem dX10_showsOf_169 : decode cX10_showsOf 169 = .ok (.iadd, 1) := by decide +kernel
theorem dX10_showsOf_170 : decode cX10_showsOf 170 = .ok (.istore 12, 2) := by decide +kernel
theorem dX10_showsOf_172 : decode cX10_showsOf 172 = .ok (.iload 7, 2) := by decide +kernel
theorem dX10_showsOf_174 : decode cX10_showsOf 174 = .ok (.iload 11, 2) := by decide +kernel
theorem dX10_showsOf_176 : decode cX10_showsOf 176 = .ok (.iload 10, 2) := by decide +kernel
theorem dX10_showsOf_178 : decode cX10_showsOf 178 = .ok (.imul, 1) := by decide +kernel
theorem dX10_showsOf_179 : decode cX10_showsOf 179 = .ok (.iadd, 1) := by decide +kernel
theorem dX10_showsOf_180 : decode cX10_showsOf 180 = .ok (.istore 13, 2) := by decide +kernel
theorem dX10_showsOf_182 : decode cX10_showsOf 182 = .ok (.iload 12, 2) := by decide +kernel
theorem dX10_showsOf_184 : decode cX10_showsOf 184 = .ok (.iconst 0, 1) := by decide +kernel
theorem dX10_showsOf_185 : decode cX10_showsOf 185 = .ok (.bipush 11, 2) := by decide +kernel
theorem dX10_showsOf_187 : decode cX10_showsOf 187 = .ok (.invokestatic 35, 3) := by decide +kernel
theorem dX10_showsOf_190 : decode cX10_showsOf 190 = .ok (.ifCond .eq 26, 3) := by decide +kernel
theorem dX10_showsOf_193 : decode cX10_showsOf 193 = .ok (.iload 13, 2) := by decide +kernel
theorem dX10_showsOf_195 : decode cX10_showsOf 195 = .ok (.iconst 0, 1) := by decide +kernel
theorem dX10_showsOf_196 : decode cX10_showsOf 196 = .ok (.bipush 7, 2) := by decide +kernel
theorem dX10_showsOf_198 : decode cX10_showsOf 198 = .ok (.invokestatic 35, 3) := by decide +kernel
theorem dX10_showsOf_201 : decode cX10_showsOf 201 = .ok (.ifCond .eq 15, 3) := by decide +kernel
theorem dX10_showsOf_204 : decode cX10_showsOf 204 = .ok (.aload_n 0, 1) := by decide +kernel
theorem dX10_showsOf_205 : decode cX10_showsOf 205 = .ok (.iload 12, 2) := by decide +kernel
theorem dX10_showsOf_207 : decode cX10_showsOf 207 = .ok (.iload 13, 2) := by decide +kernel
theorem dX10_showsOf_209 : decode cX10_showsOf 209 = .ok (.iload_n 3, 1) := by decide +kernel
theorem dX10_showsOf_210 : decode cX10_showsOf 210 = .ok (.invokevirtual 63, 3) := by decide +kernel
theorem dX10_showsOf_213 : decode cX10_showsOf 213 = .ok (.goto 5, 3) := by decide +kernel
theorem dX10_showsOf_216 : decode cX10_showsOf 216 = .ok (.bipush (-6), 2) := by decide +kernel
theorem dX10_showsOf_218 : decode cX10_showsOf 218 = .ok (.istore 14, 2) := by decide +kernel
theorem dX10_showsOf_220 : decode cX10_showsOf 220 = .ok (.iload 14, 2) := by decide +kernel
theorem dX10_showsOf_222 : decode cX10_showsOf 222 = .ok (.ifCond .lt 28, 3) := by decide +kernel
theorem dX10_showsOf_225 : decode cX10_showsOf 225 = .ok (.aload_n 0, 1) := by decide +kernel
theorem dX10_showsOf_226 : decode cX10_showsOf 226 = .ok (.getfield 7, 3) := by decide +kernel
theorem dX10_showsOf_229 : decode cX10_showsOf 229 = .ok (.bipush 11, 2) := by decide +kernel
theorem dX10_showsOf_231 : decode cX10_showsOf 231 = .ok (.iload 14, 2) := by decide +kernel
theorem dX10_showsOf_233 : decode cX10_showsOf 233 = .ok (.imul, 1) := by decide +kernel
theorem dX10_showsOf_234 : decode cX10_showsOf 234 = .ok (.iconst 4, 1) := by decide +kernel
theorem dX10_showsOf_235 : decode cX10_showsOf 235 = .ok (.iadd, 1) := by decide +kernel
theorem dX10_showsOf_236 : decode cX10_showsOf 236 = .ok (.iaload, 1) := by decide +kernel
theorem dX10_showsOf_237 : decode cX10_showsOf 237 = .ok (.iload 5, 2) := by decide +kernel
theorem dX10_showsOf_239 : decode cX10_showsOf 239 = .ok (.imul, 1) := by decide +kernel
theorem dX10_showsOf_240 : decode cX10_showsOf 240 = .ok (.bipush 10, 2) := by decide +kernel
theorem dX10_showsOf_242 : decode cX10_showsOf 242 = .ok (.idiv, 1) := by decide +kernel
theorem dX10_showsOf_243 : decode cX10_showsOf 243 = .ok (.iload 11, 2) := by decide +kernel
theorem dX10_showsOf_245 : decode cX10_showsOf 245 = .ok (.if_icmp .lt 5, 3) := by decide +kernel
theorem dX10_showsOf_248 : decode cX10_showsOf 248 = .ok (.iconst 1, 1) := by decide +kernel
theorem dX10_showsOf_249 : decode cX10_showsOf 249 = .ok (.ireturn, 1) := by decide +kernel
theorem dX10_showsOf_250 : decode cX10_showsOf 250 = .ok (.iinc 11 1, 3) := by decide +kernel
theorem dX10_showsOf_253 : decode cX10_showsOf 253 = .ok (.goto (-98), 3) := by decide +kernel
theorem dX10_showsOf_256 : decode cX10_showsOf 256 = .ok (.iconst 0, 1) := by decide +kernel
theorem dX10_showsOf_257 : decode cX10_showsOf 257 = .ok (.ireturn, 1) := by decide +kernel
theorem dX10_shows_0 : decode cX10_shows 0 = .ok (.aload_n 0, 1) := by decide +kernel
theorem dX10_shows_1 : decode cX10_shows 1 = .ok (.iload_n 1, 1) := by decide +kernel
theorem dX10_shows_2 : decode cX10_shows 2 = .ok (.invokevirtual 67, 3) := by decide +kernel
theorem dX10_shows_5 : decode cX10_shows 5 = .ok (.ifCond .ne 5, 3) := by decide +kernel
theorem dX10_shows_8 : decode cX10_shows 8 = .ok (.iconst (-1), 1) := by decide +kernel
theorem dX10_shows_9 : decode cX10_shows 9 = .ok (.ireturn, 1) := by decide +kernel
theorem dX10_shows_10 : decode cX10_shows 10 = .ok (.iload_n 2, 1) := by decide +kernel
theorem dX10_shows_11 : decode cX10_shows 11 = .ok (.invokestatic 60, 3) := by decide +kernel
theorem dX10_shows_14 : decode cX10_shows 14 = .ok (.ifCond .eq 12, 3) := by decide +kernel
theorem dX10_shows_17 : decode cX10_shows 17 = .ok (.aload_n 0, 1) := by decide +kernel
theorem dX10_shows_18 : decode cX10_shows 18 = .ok (.iload_n 1, 1) := by decide +kernel
theorem dX10_shows_19 : decode cX10_shows 19 = .ok (.iload_n 2, 1) := by decide +kernel
theorem dX10_shows_20 : decode cX10_shows 20 = .ok (.invokevirtual 73, 3) := by decide +kernel
theorem dX10_shows_23 : decode cX10_shows 23 = .ok (.goto 5, 3) := by decide +kernel
theorem dX10_shows_26 : decode cX10_shows 26 = .ok (.bipush (-2), 2) := by decide +kernel
theorem dX10_shows_28 : decode cX10_shows 28 = .ok (.ireturn, 1) := by decide +kernel
theorem dX10_count_0 : decode cX10_count 0 = .ok (.aload_n 0, 1) := by decide +kernel
theorem dX10_count_1 : decode cX10_count 1 = .ok (.iload_n 1, 1) := by decide +kernel
theorem dX10_count_2 : decode cX10_count 2 = .ok (.invokevirtual 67, 3) := by decide +kernel
theorem dX10_count_5 : decode cX10_count 5 = .ok (.ifCond .ne 5, 3) := by decide +kernel
theorem dX10_count_8 : decode cX10_count 8 = .ok (.iconst (-1), 1) := by decide +kernel
theorem dX10_count_9 : decode cX10_count 9 = .ok (.ireturn, 1) := by decide +kernel
theorem dX10_count_10 : decode cX10_count 10 = .ok (.iload_n 2, 1) := by decide +kernel
theorem dX10_count_11 : decode cX10_count 11 = .ok (.iconst 0, 1) := by decide +kernel
theorem dX10_count_12 : decode cX10_count 12 = .ok (.iconst 3, 1) := by decide +kernel
theorem dX10_count_13 : decode cX10_count 13 = .ok (.invokestatic 35, 3) := by decide +kernel
theorem dX10_count_16 : decode cX10_count 16 = .ok (.ifCond .ne 6, 3) := by decide +kernel
theorem dX10_count_19 : decode cX10_count 19 = .ok (.bipush (-2), 2) := by decide +kernel
theorem dX10_count_21 : decode cX10_count 21 = .ok (.ireturn, 1) := by decide +kernel
theorem dX10_count_22 : decode cX10_count 22 = .ok (.iconst 0, 1) := by decide +kernel
theorem dX10_count_23 : decode cX10_count 23 = .ok (.istore_n 3, 1) := by decide +kernel
theorem dX10_count_24 : decode cX10_count 24 = .ok (.iconst 0, 1) := by decide +kernel
theorem dX10_count_25 : decode cX10_count 25 = .ok (.istore 4, 2) := by decide +kernel
theorem dX10_count_27 : decode cX10_count 27 = .ok (.iload 4, 2) := by decide +kernel
theorem dX10_count_29 : decode cX10_count 29 = .ok (.bipush 96, 2) := by decide +kernel
theorem dX10_count_31 : decode cX10_count 31 = .ok (.if_icmp .ge 63, 3) := by decide +kernel
theorem dX10_count_34 : decode cX10_count 34 = .ok (.aload_n 0, 1) := by decide +kernel
theorem dX10_count_35 : decode cX10_count 35 = .ok (.iload_n 1, 1) := by decide +kernel
theorem dX10_count_36 : decode cX10_count 36 = .ok (.iload 4, 2) := by decide +kernel
theorem dX10_count_38 : decode cX10_count 38 = .ok (.invokevirtual 73, 3) := by decide +kernel
theorem dX10_count_41 : decode cX10_count 41 = .ok (.istore 5, 2) := by decide +kernel
theorem dX10_count_43 : decode cX10_count 43 = .ok (.iload 5, 2) := by decide +kernel
theorem dX10_count_45 : decode cX10_count 45 = .ok (.ifCond .ge 7, 3) := by decide +kernel
theorem dX10_count_48 : decode cX10_count 48 = .ok (.iconst 0, 1) := by decide +kernel
theorem dX10_count_49 : decode cX10_count 49 = .ok (.goto 23, 3) := by decide +kernel
theorem dX10_count_52 : decode cX10_count 52 = .ok (.iload 5, 2) := by decide +kernel
theorem dX10_count_54 : decode cX10_count 54 = .ok (.ifCond .ne 7, 3) := by decide +kernel
theorem dX10_count_57 : decode cX10_count 57 = .ok (.iconst 1, 1) := by decide +kernel
theorem dX10_count_58 : decode cX10_count 58 = .ok (.goto 14, 3) := by decide +kernel
theorem dX10_count_61 : decode cX10_count 61 = .ok (.iload 5, 2) := by decide +kernel
theorem dX10_count_63 : decode cX10_count 63 = .ok (.iconst 1, 1) := by decide +kernel
theorem dX10_count_64 : decode cX10_count 64 = .ok (.if_icmp .ne 7, 3) := by decide +kernel
theorem dX10_count_67 : decode cX10_count 67 = .ok (.iconst 2, 1) := by decide +kernel
theorem dX10_count_68 : decode cX10_count 68 = .ok (.goto 4, 3) := by decide +kernel
theorem dX10_count_71 : decode cX10_count 71 = .ok (.iconst 3, 1) := by decide +kernel
theorem dX10_count_72 : decode cX10_count 72 = .ok (.istore 6, 2) := by decide +kernel
theorem dX10_count_74 : decode cX10_count 74 = .ok (.iload_n 3, 1) := by decide +kernel
theorem dX10_count_75 : decode cX10_count 75 = .ok (.iload 6, 2) := by decide +kernel
theorem dX10_count_77 : decode cX10_count 77 = .ok (.iload_n 2, 1) := by decide +kernel
theorem dX10_count_78 : decode cX10_count 78 = .ok (.if_icmp .ne 7, 3) := by decide +kernel
theorem dX10_count_81 : decode cX10_count 81 = .ok (.iconst 1, 1) := by decide +kernel
theorem dX10_count_82 : decode cX10_count 82 = .ok (.goto 4, 3) := by decide +kernel
theorem dX10_count_85 : decode cX10_count 85 = .ok (.iconst 0, 1) := by decide +kernel
theorem dX10_count_86 : decode cX10_count 86 = .ok (.iadd, 1) := by decide +kernel
theorem dX10_count_87 : decode cX10_count 87 = .ok (.istore_n 3, 1) := by decide +kernel
theorem dX10_count_88 : decode cX10_count 88 = .ok (.iinc 4 1, 3) := by decide +kernel
theorem dX10_count_91 : decode cX10_count 91 = .ok (.goto (-64), 3) := by decide +kernel
theorem dX10_count_94 : decode cX10_count 94 = .ok (.iload_n 3, 1) := by decide +kernel
theorem dX10_count_95 : decode cX10_count 95 = .ok (.ireturn, 1) := by decide +kernel
theorem dX10_span_0 : decode cX10_span 0 = .ok (.aload_n 0, 1) := by decide +kernel
theorem dX10_span_1 : decode cX10_span 1 = .ok (.iload_n 1, 1) := by decide +kernel
theorem dX10_span_2 : decode cX10_span 2 = .ok (.invokevirtual 67, 3) := by decide +kernel
theorem dX10_span_5 : decode cX10_span 5 = .ok (.ifCond .ne 5, 3) := by decide +kernel
theorem dX10_span_8 : decode cX10_span 8 = .ok (.iconst (-1), 1) := by decide +kernel
theorem dX10_span_9 : decode cX10_span 9 = .ok (.ireturn, 1) := by decide +kernel
theorem dX10_span_10 : decode cX10_span 10 = .ok (.iload_n 2, 1) := by decide +kernel
theorem dX10_span_11 : decode cX10_span 11 = .ok (.iconst 0, 1) := by decide +kernel
theorem dX10_span_12 : decode cX10_span 12 = .ok (.bipush 11, 2) := by decide +kernel
theorem dX10_span_14 : decode cX10_span 14 = .ok (.invokestatic 35, 3) := by decide +kernel
theorem dX10_span_17 : decode cX10_span 17 = .ok (.ifCond .eq 10, 3) := by decide +kernel
theorem dX10_span_20 : decode cX10_span 20 = .ok (.iload_n 3, 1) := by decide +kernel
theorem dX10_span_21 : decode cX10_span 21 = .ok (.invokestatic 77, 3) := by decide +kernel
theorem dX10_span_24 : decode cX10_span 24 = .ok (.ifCond .ne 6, 3) := by decide +kernel
theorem dX10_span_27 : decode cX10_span 27 = .ok (.bipush (-2), 2) := by decide +kernel
theorem dX10_span_29 : decode cX10_span 29 = .ok (.ireturn, 1) := by decide +kernel
theorem dX10_span_30 : decode cX10_span 30 = .ok (.bipush (-6), 2) := by decide +kernel
theorem dX10_span_32 : decode cX10_span 32 = .ok (.istore 4, 2) := by decide +kernel
theorem dX10_span_34 : decode cX10_span 34 = .ok (.iconst 1, 1) := by decide +kernel
theorem dX10_span_35 : decode cX10_span 35 = .ok (.istore 5, 2) := by decide +kernel
theorem dX10_span_37 : decode cX10_span 37 = .ok (.iload 5, 2) := by decide +kernel
theorem dX10_span_39 : decode cX10_span 39 = .ok (.bipush 21, 2) := by decide +kernel
theorem dX10_span_41 : decode cX10_span 41 = .ok (.if_icmp .ge 60, 3) := by decide +kernel
theorem dX10_span_44 : decode cX10_span 44 = .ok (.iload 5, 2) := by decide +kernel
theorem dX10_span_46 : decode cX10_span 46 = .ok (.aload_n 0, 1) := by decide +kernel
theorem dX10_span_47 : decode cX10_span 47 = .ok (.getfield 17, 3) := by decide +kernel
theorem dX10_span_50 : decode cX10_span 50 = .ok (.iconst 5, 1) := by decide +kernel
theorem dX10_span_51 : decode cX10_span 51 = .ok (.iload_n 1, 1) := by decide +kernel
theorem dX10_span_52 : decode cX10_span 52 = .ok (.imul, 1) := by decide +kernel
theorem dX10_span_53 : decode cX10_span 53 = .ok (.iconst 4, 1) := by decide +kernel
theorem dX10_span_54 : decode cX10_span 54 = .ok (.iadd, 1) := by decide +kernel
theorem dX10_span_55 : decode cX10_span 55 = .ok (.iaload, 1) := by decide +kernel
theorem dX10_span_56 : decode cX10_span 56 = .ok (.imul, 1) := by decide +kernel
theorem dX10_span_57 : decode cX10_span 57 = .ok (.bipush 10, 2) := by decide +kernel
theorem dX10_span_59 : decode cX10_span 59 = .ok (.idiv, 1) := by decide +kernel
theorem dX10_span_60 : decode cX10_span 60 = .ok (.iload_n 2, 1) := by decide +kernel
theorem dX10_span_61 : decode cX10_span 61 = .ok (.if_icmp .ne 7, 3) := by decide +kernel
theorem dX10_span_64 : decode cX10_span 64 = .ok (.iconst 1, 1) := by decide +kernel
theorem dX10_span_65 : decode cX10_span 65 = .ok (.goto 4, 3) := by decide +kernel
theorem dX10_span_68 : decode cX10_span 68 = .ok (.iconst 0, 1) := by decide +kernel
theorem dX10_span_69 : decode cX10_span 69 = .ok (.istore 6, 2) := by decide +kernel
theorem dX10_span_71 : decode cX10_span 71 = .ok (.iload 6, 2) := by decide +kernel
theorem dX10_span_73 : decode cX10_span 73 = .ok (.ifCond .eq 18, 3) := by decide +kernel
theorem dX10_span_76 : decode cX10_span 76 = .ok (.iload 4, 2) := by decide +kernel
theorem dX10_span_78 : decode cX10_span 78 = .ok (.ifCond .lt 8, 3) := by decide +kernel
theorem dX10_span_81 : decode cX10_span 81 = .ok (.iload_n 3, 1) := by decide +kernel
theorem dX10_span_82 : decode cX10_span 82 = .ok (.iconst 1, 1) := by decide +kernel
theorem dX10_span_83 : decode cX10_span 83 = .ok (.if_icmp .ne 8, 3) := by decide +kernel
theorem dX10_span_86 : decode cX10_span 86 = .ok (.iload 5, 2) := by decide +kernel
theorem dX10_span_88 : decode cX10_span 88 = .ok (.goto 5, 3) := by decide +kernel
theorem dX10_span_91 : decode cX10_span 91 = .ok (.iload 4, 2) := by decide +kernel
theorem dX10_span_93 : decode cX10_span 93 = .ok (.istore 4, 2) := by decide +kernel
theorem dX10_span_95 : decode cX10_span 95 = .ok (.iinc 5 1, 3) := by decide +kernel
theorem dX10_span_98 : decode cX10_span 98 = .ok (.goto (-61), 3) := by decide +kernel
theorem dX10_span_101 : decode cX10_span 101 = .ok (.iload 4, 2) := by decide +kernel
theorem dX10_span_103 : decode cX10_span 103 = .ok (.ireturn, 1) := by decide +kernel
theorem dX10_changed_0 : decode cX10_changed 0 = .ok (.aload_n 0, 1) := by decide +kernel
theorem dX10_changed_1 : decode cX10_changed 1 = .ok (.iload_n 1, 1) := by decide +kernel
theorem dX10_changed_2 : decode cX10_changed 2 = .ok (.invokevirtual 67, 3) := by decide +kernel
theorem dX10_changed_5 : decode cX10_changed 5 = .ok (.ifCond .eq 16, 3) := by decide +kernel
theorem dX10_changed_8 : decode cX10_changed 8 = .ok (.aload_n 0, 1) := by decide +kernel
theorem dX10_changed_9 : decode cX10_changed 9 = .ok (.iload_n 2, 1) := by decide +kernel
theorem dX10_changed_10 : decode cX10_changed 10 = .ok (.invokevirtual 67, 3) := by decide +kernel
theorem dX10_changed_13 : decode cX10_changed 13 = .ok (.ifCond .eq 8, 3) := by decide +kernel
theorem dX10_changed_16 : decode cX10_changed 16 = .ok (.iload_n 1, 1) := by decide +kernel
theorem dX10_changed_17 : decode cX10_changed 17 = .ok (.iload_n 2, 1) := by decide +kernel
theorem dX10_changed_18 : decode cX10_changed 18 = .ok (.if_icmp .ne 5, 3) := by decide +kernel
theorem dX10_changed_21 : decode cX10_changed 21 = .ok (.iconst (-1), 1) := by decide +kernel
theorem dX10_changed_22 : decode cX10_changed 22 = .ok (.ireturn, 1) := by decide +kernel
theorem dX10_changed_23 : decode cX10_changed 23 = .ok (.iload_n 3, 1) := by decide +kernel
theorem dX10_changed_24 : decode cX10_changed 24 = .ok (.iconst 0, 1) := by decide +kernel
theorem dX10_changed_25 : decode cX10_changed 25 = .ok (.iconst 2, 1) := by decide +kernel
theorem dX10_changed_26 : decode cX10_changed 26 = .ok (.invokestatic 35, 3) := by decide +kernel
theorem dX10_changed_29 : decode cX10_changed 29 = .ok (.ifCond .ne 6, 3) := by decide +kernel
theorem dX10_changed_32 : decode cX10_changed 32 = .ok (.bipush (-2), 2) := by decide +kernel
theorem dX10_changed_34 : decode cX10_changed 34 = .ok (.ireturn, 1) := by decide +kernel
theorem dX10_changed_35 : decode cX10_changed 35 = .ok (.iconst 0, 1) := by decide +kernel
theorem dX10_changed_36 : decode cX10_changed 36 = .ok (.istore 4, 2) := by decide +kernel
theorem dX10_changed_38 : decode cX10_changed 38 = .ok (.iconst 0, 1) := by decide +kernel
theorem dX10_changed_39 : decode cX10_changed 39 = .ok (.istore 5, 2) := by decide +kernel
theorem dX10_changed_41 : decode cX10_changed 41 = .ok (.bipush (-6), 2) := by decide +kernel
theorem dX10_changed_43 : decode cX10_changed 43 = .ok (.istore 6, 2) := by decide +kernel
theorem dX10_changed_45 : decode cX10_changed 45 = .ok (.iconst 0, 1) := by decide +kernel
theorem dX10_changed_46 : decode cX10_changed 46 = .ok (.istore 7, 2) := by decide +kernel
theorem dX10_changed_48 : decode cX10_changed 48 = .ok (.iload 7, 2) := by decide +kernel
theorem dX10_changed_50 : decode cX10_changed 50 = .ok (.bipush 96, 2) := by decide +kernel
theorem dX10_changed_52 : decode cX10_changed 52 = .ok (.if_icmp .ge 83, 3) := by decide +kernel
theorem dX10_changed_55 : decode cX10_changed 55 = .ok (.aload_n 0, 1) := by decide +kernel
theorem dX10_changed_56 : decode cX10_changed 56 = .ok (.iload_n 1, 1) := by decide +kernel
theorem dX10_changed_57 : decode cX10_changed 57 = .ok (.iload 7, 2) := by decide +kernel
theorem dX10_changed_59 : decode cX10_changed 59 = .ok (.invokevirtual 73, 3) := by decide +kernel
theorem dX10_changed_62 : decode cX10_changed 62 = .ok (.istore 8, 2) := by decide +kernel
theorem dX10_changed_64 : decode cX10_changed 64 = .ok (.aload_n 0, 1) := by decide +kernel
theorem dX10_changed_65 : decode cX10_changed 65 = .ok (.iload_n 2, 1) := by decide +kernel
theorem dX10_changed_66 : decode cX10_changed 66 = .ok (.iload 7, 2) := by decide +kernel
theorem dX10_changed_68 : decode cX10_changed 68 = .ok (.invokevirtual 73, 3) := by decide +kernel
theorem dX10_changed_71 : decode cX10_changed 71 = .ok (.istore 9, 2) := by decide +kernel
theorem dX10_changed_73 : decode cX10_changed 73 = .ok (.iload 8, 2) := by decide +kernel
theorem dX10_changed_75 : decode cX10_changed 75 = .ok (.ifCond .lt 54, 3) := by decide +kernel
theorem dX10_changed_78 : decode cX10_changed 78 = .ok (.iload 9, 2) := by decide +kernel
theorem dX10_changed_80 : decode cX10_changed 80 = .ok (.ifCond .lt 49, 3) := by decide +kernel
theorem dX10_changed_83 : decode cX10_changed 83 = .ok (.iload 8, 2) := by decide +kernel
theorem dX10_changed_85 : decode cX10_changed 85 = .ok (.iload 9, 2) := by decide +kernel
theorem dX10_changed_87 : decode cX10_changed 87 = .ok (.if_icmp .eq 42, 3) := by decide +kernel
theorem dX10_changed_90 : decode cX10_changed 90 = .ok (.iinc 4 1, 3) := by decide +kernel
theorem dX10_changed_93 : decode cX10_changed 93 = .ok (.iload 5, 2) := by decide +kernel
theorem dX10_changed_95 : decode cX10_changed 95 = .ok (.iload 8, 2) := by decide +kernel
theorem dX10_changed_97 : decode cX10_changed 97 = .ok (.iconst 2, 1) := by decide +kernel
theorem dX10_changed_98 : decode cX10_changed 98 = .ok (.if_icmp .ge 13, 3) := by decide +kernel
theorem dX10_changed_101 : decode cX10_changed 101 = .ok (.iload 9, 2) := by decide +kernel
theorem dX10_changed_103 : decode cX10_changed 103 = .ok (.iconst 2, 1) := by decide +kernel
theorem dX10_changed_104 : decode cX10_changed 104 = .ok (.if_icmp .ge 7, 3) := by decide +kernel
theorem dX10_changed_107 : decode cX10_changed 107 = .ok (.iconst 1, 1) := by decide +kernel
theorem dX10_changed_108 : decode cX10_changed 108 = .ok (.goto 4, 3) := by decide +kernel
theorem dX10_changed_111 : decode cX10_changed 111 = .ok (.iconst 0, 1) := by decide +kernel
theorem dX10_changed_112 : decode cX10_changed 112 = .ok (.iadd, 1) := by decide +kernel
theorem dX10_changed_113 : decode cX10_changed 113 = .ok (.istore 5, 2) := by decide +kernel
theorem dX10_changed_115 : decode cX10_changed 115 = .ok (.iload 6, 2) := by decide +kernel
theorem dX10_changed_117 : decode cX10_changed 117 = .ok (.ifCond .ge 8, 3) := by decide +kernel
theorem dX10_changed_120 : decode cX10_changed 120 = .ok (.iload 7, 2) := by decide +kernel
theorem dX10_changed_122 : decode cX10_changed 122 = .ok (.goto 5, 3) := by decide +kernel
theorem dX10_changed_125 : decode cX10_changed 125 = .ok (.iload 6, 2) := by decide +kernel
theorem dX10_changed_127 : decode cX10_changed 127 = .ok (.istore 6, 2) := by decide +kernel
theorem dX10_changed_129 : decode cX10_changed 129 = .ok (.iinc 7 1, 3) := by decide +kernel
theorem dX10_changed_132 : decode cX10_changed 132 = .ok (.goto (-84), 3) := by decide +kernel
theorem dX10_changed_135 : decode cX10_changed 135 = .ok (.iload_n 3, 1) := by decide +kernel
theorem dX10_changed_136 : decode cX10_changed 136 = .ok (.ifCond .ne 8, 3) := by decide +kernel
theorem dX10_changed_139 : decode cX10_changed 139 = .ok (.iload 4, 2) := by decide +kernel
theorem dX10_changed_141 : decode cX10_changed 141 = .ok (.goto 15, 3) := by decide +kernel
theorem dX10_changed_144 : decode cX10_changed 144 = .ok (.iload_n 3, 1) := by decide +kernel
theorem dX10_changed_145 : decode cX10_changed 145 = .ok (.iconst 1, 1) := by decide +kernel
theorem dX10_changed_146 : decode cX10_changed 146 = .ok (.if_icmp .ne 8, 3) := by decide +kernel
theorem dX10_changed_149 : decode cX10_changed 149 = .ok (.iload 5, 2) := by decide +kernel
theorem dX10_changed_151 : decode cX10_changed 151 = .ok (.goto 5, 3) := by decide +kernel
theorem dX10_changed_154 : decode cX10_changed 154 = .ok (.iload 6, 2) := by decide +kernel
theorem dX10_changed_156 : decode cX10_changed 156 = .ok (.ireturn, 1) := by decide +kernel
theorem dX10_say_0 : decode cX10_say 0 = .ok (.iload_n 1, 1) := by decide +kernel
theorem dX10_say_1 : decode cX10_say 1 = .ok (.bipush 33, 2) := by decide +kernel
theorem dX10_say_3 : decode cX10_say 3 = .ok (.bipush 126, 2) := by decide +kernel
theorem dX10_say_5 : decode cX10_say 5 = .ok (.invokestatic 35, 3) := by decide +kernel
theorem dX10_say_8 : decode cX10_say 8 = .ok (.ifCond .ne 6, 3) := by decide +kernel
theorem dX10_say_11 : decode cX10_say 11 = .ok (.bipush (-2), 2) := by decide +kernel
theorem dX10_say_13 : decode cX10_say 13 = .ok (.ireturn, 1) := by decide +kernel
theorem dX10_say_14 : decode cX10_say 14 = .ok (.aload_n 0, 1) := by decide +kernel
theorem dX10_say_15 : decode cX10_say 15 = .ok (.getfield 80, 3) := by decide +kernel
theorem dX10_say_18 : decode cX10_say 18 = .ok (.bipush 40, 2) := by decide +kernel
theorem dX10_say_20 : decode cX10_say 20 = .ok (.if_icmp .ne 6, 3) := by decide +kernel
theorem dX10_say_23 : decode cX10_say 23 = .ok (.bipush (-4), 2) := by decide +kernel
theorem dX10_say_25 : decode cX10_say 25 = .ok (.ireturn, 1) := by decide +kernel
theorem dX10_say_26 : decode cX10_say 26 = .ok (.aload_n 0, 1) := by decide +kernel
theorem dX10_say_27 : decode cX10_say 27 = .ok (.getfield 23, 3) := by decide +kernel
theorem dX10_say_30 : decode cX10_say 30 = .ok (.aload_n 0, 1) := by decide +kernel
theorem dX10_say_31 : decode cX10_say 31 = .ok (.getfield 80, 3) := by decide +kernel
theorem dX10_say_34 : decode cX10_say 34 = .ok (.iload_n 1, 1) := by decide +kernel
theorem dX10_say_35 : decode cX10_say 35 = .ok (.iastore, 1) := by decide +kernel
theorem dX10_say_36 : decode cX10_say 36 = .ok (.aload_n 0, 1) := by decide +kernel
theorem dX10_say_37 : decode cX10_say 37 = .ok (.dup, 1) := by decide +kernel
theorem dX10_say_38 : decode cX10_say 38 = .ok (.getfield 80, 3) := by decide +kernel
theorem dX10_say_41 : decode cX10_say 41 = .ok (.iconst 1, 1) := by decide +kernel
theorem dX10_say_42 : decode cX10_say 42 = .ok (.iadd, 1) := by decide +kernel
theorem dX10_say_43 : decode cX10_say 43 = .ok (.putfield 80, 3) := by decide +kernel
theorem dX10_say_46 : decode cX10_say 46 = .ok (.aload_n 0, 1) := by decide +kernel
theorem dX10_say_47 : decode cX10_say 47 = .ok (.getfield 80, 3) := by decide +kernel
theorem dX10_say_50 : decode cX10_say 50 = .ok (.ireturn, 1) := by decide +kernel
theorem dX10_wipe_0 : decode cX10_wipe 0 = .ok (.aload_n 0, 1) := by decide +kernel
theorem dX10_wipe_1 : decode cX10_wipe 1 = .ok (.getfield 80, 3) := by decide +kernel
theorem dX10_wipe_4 : decode cX10_wipe 4 = .ok (.istore_n 1, 1) := by decide +kernel
theorem dX10_wipe_5 : decode cX10_wipe 5 = .ok (.aload_n 0, 1) := by decide +kernel
theorem dX10_wipe_6 : decode cX10_wipe 6 = .ok (.iconst 0, 1) := by decide +kernel
theorem dX10_wipe_7 : decode cX10_wipe 7 = .ok (.putfield 80, 3) := by decide +kernel
theorem dX10_wipe_10 : decode cX10_wipe 10 = .ok (.iload_n 1, 1) := by decide +kernel
theorem dX10_wipe_11 : decode cX10_wipe 11 = .ok (.ireturn, 1) := by decide +kernel
theorem dX10_faultOf_0 : decode cX10_faultOf 0 = .ok (.iconst 0, 1) := by decide +kernel
theorem dX10_faultOf_1 : decode cX10_faultOf 1 = .ok (.istore_n 1, 1) := by decide +kernel
theorem dX10_faultOf_2 : decode cX10_faultOf 2 = .ok (.iconst 0, 1) := by decide +kernel
theorem dX10_faultOf_3 : decode cX10_faultOf 3 = .ok (.istore_n 2, 1) := by decide +kernel
theorem dX10_faultOf_4 : decode cX10_faultOf 4 = .ok (.iload_n 2, 1) := by decide +kernel
theorem dX10_faultOf_5 : decode cX10_faultOf 5 = .ok (.aload_n 0, 1) := by decide +kernel
theorem dX10_faultOf_6 : decode cX10_faultOf 6 = .ok (.getfield 80, 3) := by decide +kernel
theorem dX10_faultOf_9 : decode cX10_faultOf 9 = .ok (.if_icmp .ge 190, 3) := by decide +kernel
theorem dX10_faultOf_12 : decode cX10_faultOf 12 = .ok (.aload_n 0, 1) := by decide +kernel
theorem dX10_faultOf_13 : decode cX10_faultOf 13 = .ok (.getfield 23, 3) := by decide +kernel
theorem dX10_faultOf_16 : decode cX10_faultOf 16 = .ok (.iload_n 2, 1) := by decide +kernel
theorem dX10_faultOf_17 : decode cX10_faultOf 17 = .ok (.iaload, 1) := by decide +kernel
theorem dX10_faultOf_18 : decode cX10_faultOf 18 = .ok (.istore_n 3, 1) := by decide +kernel
theorem dX10_faultOf_19 : decode cX10_faultOf 19 = .ok (.bipush (-6), 2) := by decide +kernel
theorem dX10_faultOf_21 : decode cX10_faultOf 21 = .ok (.istore 4, 2) := by decide +kernel
theorem dX10_faultOf_23 : decode cX10_faultOf 23 = .ok (.iload_n 3, 1) := by decide +kernel
theorem dX10_faultOf_24 : decode cX10_faultOf 24 = .ok (.bipush 38, 2) := by decide +kernel
theorem dX10_faultOf_26 : decode cX10_faultOf 26 = .ok (.if_icmp .eq 9, 3) := by decide +kernel
theorem dX10_faultOf_29 : decode cX10_faultOf 29 = .ok (.iload_n 3, 1) := by decide +kernel
theorem dX10_faultOf_30 : decode cX10_faultOf 30 = .ok (.bipush 124, 2) := by decide +kernel
theorem dX10_faultOf_32 : decode cX10_faultOf 32 = .ok (.if_icmp .ne 7, 3) := by decide +kernel
theorem dX10_faultOf_35 : decode cX10_faultOf 35 = .ok (.iconst 1, 1) := by decide +kernel
theorem dX10_faultOf_36 : decode cX10_faultOf 36 = .ok (.goto 4, 3) := by decide +kernel
theorem dX10_faultOf_39 : decode cX10_faultOf 39 = .ok (.iconst 0, 1) := by decide +kernel
theorem dX10_faultOf_40 : decode cX10_faultOf 40 = .ok (.istore 5, 2) := by decide +kernel
theorem dX10_faultOf_42 : decode cX10_faultOf 42 = .ok (.iload_n 1, 1) := by decide +kernel
theorem dX10_faultOf_43 : decode cX10_faultOf 43 = .ok (.ifCond .ne 42, 3) := by decide +kernel
theorem dX10_faultOf_46 : decode cX10_faultOf 46 = .ok (.iload_n 3, 1) := by decide +kernel
theorem dX10_faultOf_47 : decode cX10_faultOf 47 = .ok (.bipush 115, 2) := by decide +kernel
theorem dX10_faultOf_49 : decode cX10_faultOf 49 = .ok (.if_icmp .eq 15, 3) := by decide +kernel
theorem dX10_faultOf_52 : decode cX10_faultOf 52 = .ok (.iload_n 3, 1) := by decide +kernel
theorem dX10_faultOf_53 : decode cX10_faultOf 53 = .ok (.bipush 107, 2) := by decide +kernel
theorem dX10_faultOf_55 : decode cX10_faultOf 55 = .ok (.if_icmp .eq 9, 3) := by decide +kernel
theorem dX10_faultOf_58 : decode cX10_faultOf 58 = .ok (.iload_n 3, 1) := by decide +kernel
theorem dX10_faultOf_59 : decode cX10_faultOf 59 = .ok (.bipush 104, 2) := by decide +kernel
theorem dX10_faultOf_61 : decode cX10_faultOf 61 = .ok (.if_icmp .ne 7, 3) := by decide +kernel
theorem dX10_faultOf_64 : decode cX10_faultOf 64 = .ok (.iconst 2, 1) := by decide +kernel
theorem dX10_faultOf_65 : decode cX10_faultOf 65 = .ok (.goto 15, 3) := by decide +kernel
theorem dX10_faultOf_68 : decode cX10_faultOf 68 = .ok (.iload_n 3, 1) := by decide +kernel
theorem dX10_faultOf_69 : decode cX10_faultOf 69 = .ok (.bipush 110, 2) := by decide +kernel
theorem dX10_faultOf_71 : decode cX10_faultOf 71 = .ok (.if_icmp .ne 7, 3) := by decide +kernel
theorem dX10_faultOf_74 : decode cX10_faultOf 74 = .ok (.iconst 1, 1) := by decide +kernel
theorem dX10_faultOf_75 : decode cX10_faultOf 75 = .ok (.goto 5, 3) := by decide +kernel
theorem dX10_faultOf_78 : decode cX10_faultOf 78 = .ok (.bipush (-6), 2) := by decide +kernel
theorem dX10_faultOf_80 : decode cX10_faultOf 80 = .ok (.istore 4, 2) := by decide +kernel
theorem dX10_faultOf_82 : decode cX10_faultOf 82 = .ok (.goto 101, 3) := by decide +kernel
theorem dX10_faultOf_85 : decode cX10_faultOf 85 = .ok (.iload_n 1, 1) := by decide +kernel
theorem dX10_faultOf_86 : decode cX10_faultOf 86 = .ok (.iconst 1, 1) := by decide +kernel
theorem dX10_faultOf_87 : decode cX10_faultOf 87 = .ok (.if_icmp .ne 25, 3) := by decide +kernel
theorem dX10_faultOf_90 : decode cX10_faultOf 90 = .ok (.iload_n 3, 1) := by decide +kernel
theorem dX10_faultOf_91 : decode cX10_faultOf 91 = .ok (.bipush 48, 2) := by decide +kernel
theorem dX10_faultOf_93 : decode cX10_faultOf 93 = .ok (.bipush 53, 2) := by decide +kernel
theorem dX10_faultOf_95 : decode cX10_faultOf 95 = .ok (.invokestatic 35, 3) := by decide +kernel
theorem dX10_faultOf_98 : decode cX10_faultOf 98 = .ok (.ifCond .eq 7, 3) := by decide +kernel
theorem dX10_faultOf_101 : decode cX10_faultOf 101 = .ok (.iconst 2, 1) := by decide +kernel
theorem dX10_faultOf_102 : decode cX10_faultOf 102 = .ok (.goto 5, 3) := by decide +kernel
theorem dX10_faultOf_105 : decode cX10_faultOf 105 = .ok (.bipush (-6), 2) := by decide +kernel
theorem dX10_faultOf_107 : decode cX10_faultOf 107 = .ok (.istore 4, 2) := by decide +kernel
theorem dX10_faultOf_109 : decode cX10_faultOf 109 = .ok (.goto 74, 3) := by decide +kernel
theorem dX10_faultOf_112 : decode cX10_faultOf 112 = .ok (.iload_n 1, 1) := by decide +kernel
theorem dX10_faultOf_113 : decode cX10_faultOf 113 = .ok (.iconst 2, 1) := by decide +kernel
theorem dX10_faultOf_114 : decode cX10_faultOf 114 = .ok (.if_icmp .ne 32, 3) := by decide +kernel
theorem dX10_faultOf_117 : decode cX10_faultOf 117 = .ok (.iload_n 3, 1) := by decide +kernel
theorem dX10_faultOf_118 : decode cX10_faultOf 118 = .ok (.bipush 60, 2) := by decide +kernel
theorem dX10_faultOf_120 : decode cX10_faultOf 120 = .ok (.if_icmp .eq 15, 3) := by decide +kernel
theorem dX10_faultOf_123 : decode cX10_faultOf 123 = .ok (.iload_n 3, 1) := by decide +kernel
theorem dX10_faultOf_124 : decode cX10_faultOf 124 = .ok (.bipush 62, 2) := by decide +kernel
theorem dX10_faultOf_126 : decode cX10_faultOf 126 = .ok (.if_icmp .eq 9, 3) := by decide +kernel
theorem dX10_faultOf_129 : decode cX10_faultOf 129 = .ok (.iload_n 3, 1) := by decide +kernel
theorem dX10_faultOf_130 : decode cX10_faultOf 130 = .ok (.bipush 61, 2) := by decide +kernel
theorem dX10_faultOf_132 : decode cX10_faultOf 132 = .ok (.if_icmp .ne 7, 3) := by decide +kernel
theorem dX10_faultOf_135 : decode cX10_faultOf 135 = .ok (.iconst 3, 1) := by decide +kernel
theorem dX10_faultOf_136 : decode cX10_faultOf 136 = .ok (.goto 5, 3) := by decide +kernel
theorem dX10_faultOf_139 : decode cX10_faultOf 139 = .ok (.bipush (-6), 2) := by decide +kernel
theorem dX10_faultOf_141 : decode cX10_faultOf 141 = .ok (.istore 4, 2) := by decide +kernel
theorem dX10_faultOf_143 : decode cX10_faultOf 143 = .ok (.goto 40, 3) := by decide +kernel
theorem dX10_faultOf_146 : decode cX10_faultOf 146 = .ok (.iload_n 1, 1) := by decide +kernel
theorem dX10_faultOf_147 : decode cX10_faultOf 147 = .ok (.iconst 5, 1) := by decide +kernel
theorem dX10_faultOf_148 : decode cX10_faultOf 148 = .ok (.if_icmp .ge 22, 3) := by decide +kernel
theorem dX10_faultOf_151 : decode cX10_faultOf 151 = .ok (.iload_n 3, 1) := by decide +kernel
theorem dX10_faultOf_152 : decode cX10_faultOf 152 = .ok (.bipush 48, 2) := by decide +kernel
theorem dX10_faultOf_154 : decode cX10_faultOf 154 = .ok (.bipush 57, 2) := by decide +kernel
theorem dX10_faultOf_156 : decode cX10_faultOf 156 = .ok (.invokestatic 35, 3) := by decide +kernel
theorem dX10_faultOf_159 : decode cX10_faultOf 159 = .ok (.ifCond .eq 11, 3) := by decide +kernel
theorem dX10_faultOf_162 : decode cX10_faultOf 162 = .ok (.iload_n 1, 1) := by decide +kernel
theorem dX10_faultOf_163 : decode cX10_faultOf 163 = .ok (.iconst 1, 1) := by decide +kernel
theorem dX10_faultOf_164 : decode cX10_faultOf 164 = .ok (.iadd, 1) := by decide +kernel
theorem dX10_faultOf_165 : decode cX10_faultOf 165 = .ok (.istore 4, 2) := by decide +kernel
theorem dX10_faultOf_167 : decode cX10_faultOf 167 = .ok (.goto 16, 3) := by decide +kernel
theorem dX10_faultOf_170 : decode cX10_faultOf 170 = .ok (.iload_n 1, 1) := by decide +kernel
theorem dX10_faultOf_171 : decode cX10_faultOf 171 = .ok (.iconst 3, 1) := by decide +kernel
theorem dX10_faultOf_172 : decode cX10_faultOf 172 = .ok (.if_icmp .le 11, 3) := by decide +kernel
theorem dX10_faultOf_175 : decode cX10_faultOf 175 = .ok (.iload 5, 2) := by decide +kernel
theorem dX10_faultOf_177 : decode cX10_faultOf 177 = .ok (.ifCond .eq 6, 3) := by decide +kernel
theorem dX10_faultOf_180 : decode cX10_faultOf 180 = .ok (.iconst 0, 1) := by decide +kernel
theorem dX10_faultOf_181 : decode cX10_faultOf 181 = .ok (.istore 4, 2) := by decide +kernel
theorem dX10_faultOf_183 : decode cX10_faultOf 183 = .ok (.iload 4, 2) := by decide +kernel
theorem dX10_faultOf_185 : decode cX10_faultOf 185 = .ok (.ifCond .ge 5, 3) := by decide +kernel
theorem dX10_faultOf_188 : decode cX10_faultOf 188 = .ok (.iload_n 2, 1) := by decide +kernel
theorem dX10_faultOf_189 : decode cX10_faultOf 189 = .ok (.ireturn, 1) := by decide +kernel
theorem dX10_faultOf_190 : decode cX10_faultOf 190 = .ok (.iload 4, 2) := by decide +kernel
theorem dX10_faultOf_192 : decode cX10_faultOf 192 = .ok (.istore_n 1, 1) := by decide +kernel
theorem dX10_faultOf_193 : decode cX10_faultOf 193 = .ok (.iinc 2 1, 3) := by decide +kernel
theorem dX10_faultOf_196 : decode cX10_faultOf 196 = .ok (.goto (-192), 3) := by decide +kernel
theorem dX10_faultOf_199 : decode cX10_faultOf 199 = .ok (.iload_n 1, 1) := by decide +kernel
theorem dX10_faultOf_200 : decode cX10_faultOf 200 = .ok (.iconst 3, 1) := by decide +kernel
theorem dX10_faultOf_201 : decode cX10_faultOf 201 = .ok (.if_icmp .le 8, 3) := by decide +kernel
theorem dX10_faultOf_204 : decode cX10_faultOf 204 = .ok (.bipush (-6), 2) := by decide +kernel
theorem dX10_faultOf_206 : decode cX10_faultOf 206 = .ok (.goto 7, 3) := by decide +kernel
theorem dX10_faultOf_209 : decode cX10_faultOf 209 = .ok (.aload_n 0, 1) := by decide +kernel
theorem dX10_faultOf_210 : decode cX10_faultOf 210 = .ok (.getfield 80, 3) := by decide +kernel
theorem dX10_faultOf_213 : decode cX10_faultOf 213 = .ok (.ireturn, 1) := by decide +kernel
theorem dX10_fault_0 : decode cX10_fault 0 = .ok (.aload_n 0, 1) := by decide +kernel
theorem dX10_fault_1 : decode cX10_fault 1 = .ok (.invokevirtual 83, 3) := by decide +kernel
theorem dX10_fault_4 : decode cX10_fault 4 = .ok (.ireturn, 1) := by decide +kernel
theorem dX10_use_0 : decode cX10_use 0 = .ok (.iload_n 1, 1) := by decide +kernel
theorem dX10_use_1 : decode cX10_use 1 = .ok (.iconst 0, 1) := by decide +kernel
theorem dX10_use_2 : decode cX10_use 2 = .ok (.iconst 4, 1) := by decide +kernel
theorem dX10_use_3 : decode cX10_use 3 = .ok (.invokestatic 35, 3) := by decide +kernel
theorem dX10_use_6 : decode cX10_use 6 = .ok (.ifCond .ne 5, 3) := by decide +kernel
theorem dX10_use_9 : decode cX10_use 9 = .ok (.iconst (-1), 1) := by decide +kernel
theorem dX10_use_10 : decode cX10_use 10 = .ok (.ireturn, 1) := by decide +kernel
theorem dX10_use_11 : decode cX10_use 11 = .ok (.aload_n 0, 1) := by decide +kernel
theorem dX10_use_12 : decode cX10_use 12 = .ok (.invokevirtual 83, 3) := by decide +kernel
theorem dX10_use_15 : decode cX10_use 15 = .ok (.ifCond .lt 6, 3) := by decide +kernel
theorem dX10_use_18 : decode cX10_use 18 = .ok (.bipush (-5), 2) := by decide +kernel
theorem dX10_use_20 : decode cX10_use 20 = .ok (.ireturn, 1) := by decide +kernel
theorem dX10_use_21 : decode cX10_use 21 = .ok (.aload_n 0, 1) := by decide +kernel
theorem dX10_use_22 : decode cX10_use 22 = .ok (.getfield 26, 3) := by decide +kernel
theorem dX10_use_25 : decode cX10_use 25 = .ok (.iload_n 1, 1) := by decide +kernel
theorem dX10_use_26 : decode cX10_use 26 = .ok (.iaload, 1) := by decide +kernel
theorem dX10_use_27 : decode cX10_use 27 = .ok (.ifCond .ne 7, 3) := by decide +kernel
theorem dX10_use_30 : decode cX10_use 30 = .ok (.iconst 1, 1) := by decide +kernel
theorem dX10_use_31 : decode cX10_use 31 = .ok (.goto 4, 3) := by decide +kernel
theorem dX10_use_34 : decode cX10_use 34 = .ok (.iconst 0, 1) := by decide +kernel
theorem dX10_use_35 : decode cX10_use 35 = .ok (.istore_n 2, 1) := by decide +kernel
theorem dX10_use_36 : decode cX10_use 36 = .ok (.aload_n 0, 1) := by decide +kernel
theorem dX10_use_37 : decode cX10_use 37 = .ok (.getfield 26, 3) := by decide +kernel
theorem dX10_use_40 : decode cX10_use 40 = .ok (.iload_n 1, 1) := by decide +kernel
theorem dX10_use_41 : decode cX10_use 41 = .ok (.aload_n 0, 1) := by decide +kernel
theorem dX10_use_42 : decode cX10_use 42 = .ok (.getfield 80, 3) := by decide +kernel
theorem dX10_use_45 : decode cX10_use 45 = .ok (.iastore, 1) := by decide +kernel
theorem dX10_use_46 : decode cX10_use 46 = .ok (.iconst 0, 1) := by decide +kernel
theorem dX10_use_47 : decode cX10_use 47 = .ok (.istore_n 3, 1) := by decide +kernel
theorem dX10_use_48 : decode cX10_use 48 = .ok (.iload_n 3, 1) := by decide +kernel
theorem dX10_use_49 : decode cX10_use 49 = .ok (.aload_n 0, 1) := by decide +kernel
theorem dX10_use_50 : decode cX10_use 50 = .ok (.getfield 80, 3) := by decide +kernel
theorem dX10_use_53 : decode cX10_use 53 = .ok (.if_icmp .ge 26, 3) := by decide +kernel
theorem dX10_use_56 : decode cX10_use 56 = .ok (.aload_n 0, 1) := by decide +kernel
theorem dX10_use_57 : decode cX10_use 57 = .ok (.getfield 29, 3) := by decide +kernel
theorem dX10_use_60 : decode cX10_use 60 = .ok (.bipush 40, 2) := by decide +kernel
theorem dX10_use_62 : decode cX10_use 62 = .ok (.iload_n 1, 1) := by decide +kernel
theorem dX10_use_63 : decode cX10_use 63 = .ok (.imul, 1) := by decide +kernel
theorem dX10_use_64 : decode cX10_use 64 = .ok (.iload_n 3, 1) := by decide +kernel
theorem dX10_use_65 : decode cX10_use 65 = .ok (.iadd, 1) := by decide +kernel
theorem dX10_use_66 : decode cX10_use 66 = .ok (.aload_n 0, 1) := by decide +kernel
theorem dX10_use_67 : decode cX10_use 67 = .ok (.getfield 23, 3) := by decide +kernel
theorem dX10_use_70 : decode cX10_use 70 = .ok (.iload_n 3, 1) := by decide +kernel
theorem dX10_use_71 : decode cX10_use 71 = .ok (.iaload, 1) := by decide +kernel
theorem dX10_use_72 : decode cX10_use 72 = .ok (.iastore, 1) := by decide +kernel
theorem dX10_use_73 : decode cX10_use 73 = .ok (.iinc 3 1, 3) := by decide +kernel
theorem dX10_use_76 : decode cX10_use 76 = .ok (.goto (-28), 3) := by decide +kernel
theorem dX10_use_79 : decode cX10_use 79 = .ok (.aload_n 0, 1) := by decide +kernel
theorem dX10_use_80 : decode cX10_use 80 = .ok (.iconst 0, 1) := by decide +kernel
theorem dX10_use_81 : decode cX10_use 81 = .ok (.putfield 80, 3) := by decide +kernel
theorem dX10_use_84 : decode cX10_use 84 = .ok (.iload_n 2, 1) := by decide +kernel
theorem dX10_use_85 : decode cX10_use 85 = .ok (.ireturn, 1) := by decide +kernel
theorem dX10_isSeen_0 : decode cX10_isSeen 0 = .ok (.aload_n 0, 1) := by decide +kernel
theorem dX10_isSeen_1 : decode cX10_isSeen 1 = .ok (.getfield 17, 3) := by decide +kernel
theorem dX10_isSeen_4 : decode cX10_isSeen 4 = .ok (.iconst 5, 1) := by decide +kernel
theorem dX10_isSeen_5 : decode cX10_isSeen 5 = .ok (.iload_n 1, 1) := by decide +kernel
theorem dX10_isSeen_6 : decode cX10_isSeen 6 = .ok (.imul, 1) := by decide +kernel
theorem dX10_isSeen_7 : decode cX10_isSeen 7 = .ok (.iconst 2, 1) := by decide +kernel
theorem dX10_isSeen_8 : decode cX10_isSeen 8 = .ok (.iadd, 1) := by decide +kernel
theorem dX10_isSeen_9 : decode cX10_isSeen 9 = .ok (.iaload, 1) := by decide +kernel
theorem dX10_isSeen_10 : decode cX10_isSeen 10 = .ok (.iload_n 2, 1) := by decide +kernel
theorem dX10_isSeen_11 : decode cX10_isSeen 11 = .ok (.if_icmp .gt 7, 3) := by decide +kernel
theorem dX10_isSeen_14 : decode cX10_isSeen 14 = .ok (.iconst 1, 1) := by decide +kernel
theorem dX10_isSeen_15 : decode cX10_isSeen 15 = .ok (.goto 4, 3) := by decide +kernel
theorem dX10_isSeen_18 : decode cX10_isSeen 18 = .ok (.iconst 0, 1) := by decide +kernel
theorem dX10_isSeen_19 : decode cX10_isSeen 19 = .ok (.ireturn, 1) := by decide +kernel
theorem dX10_isShown_0 : decode cX10_isShown 0 = .ok (.iconst 0, 1) := by decide +kernel
theorem dX10_isShown_1 : decode cX10_isShown 1 = .ok (.istore 6, 2) := by decide +kernel
theorem dX10_isShown_3 : decode cX10_isShown 3 = .ok (.iload 6, 2) := by decide +kernel
theorem dX10_isShown_5 : decode cX10_isShown 5 = .ok (.aload_n 0, 1) := by decide +kernel
theorem dX10_isShown_6 : decode cX10_isShown 6 = .ok (.getfield 43, 3) := by decide +kernel
theorem dX10_isShown_9 : decode cX10_isShown 9 = .ok (.if_icmp .ge 85, 3) := by decide +kernel
theorem dX10_isShown_12 : decode cX10_isShown 12 = .ok (.aload_n 0, 1) := by decide +kernel
theorem dX10_isShown_13 : decode cX10_isShown 13 = .ok (.iload 6, 2) := by decide +kernel
theorem dX10_isShown_15 : decode cX10_isShown 15 = .ok (.iload_n 3, 1) := by decide +kernel
theorem dX10_isShown_16 : decode cX10_isShown 16 = .ok (.invokevirtual 87, 3) := by decide +kernel
theorem dX10_isShown_19 : decode cX10_isShown 19 = .ok (.ifCond .eq 21, 3) := by decide +kernel
theorem dX10_isShown_22 : decode cX10_isShown 22 = .ok (.aload_n 0, 1) := by decide +kernel
theorem dX10_isShown_23 : decode cX10_isShown 23 = .ok (.iload 6, 2) := by decide +kernel
theorem dX10_isShown_25 : decode cX10_isShown 25 = .ok (.iload_n 1, 1) := by decide +kernel
theorem dX10_isShown_26 : decode cX10_isShown 26 = .ok (.invokevirtual 73, 3) := by decide +kernel
theorem dX10_isShown_29 : decode cX10_isShown 29 = .ok (.bipush 10, 2) := by decide +kernel
theorem dX10_isShown_31 : decode cX10_isShown 31 = .ok (.iload_n 2, 1) := by decide +kernel
theorem dX10_isShown_32 : decode cX10_isShown 32 = .ok (.iadd, 1) := by decide +kernel
theorem dX10_isShown_33 : decode cX10_isShown 33 = .ok (.if_icmp .ne 7, 3) := by decide +kernel
theorem dX10_isShown_36 : decode cX10_isShown 36 = .ok (.iconst 1, 1) := by decide +kernel
theorem dX10_isShown_37 : decode cX10_isShown 37 = .ok (.goto 4, 3) := by decide +kernel
theorem dX10_isShown_40 : decode cX10_isShown 40 = .ok (.iconst 0, 1) := by decide +kernel
theorem dX10_isShown_41 : decode cX10_isShown 41 = .ok (.istore 7, 2) := by decide +kernel
theorem dX10_isShown_43 : decode cX10_isShown 43 = .ok (.iload 7, 2) := by decide +kernel
theorem dX10_isShown_45 : decode cX10_isShown 45 = .ok (.ifCond .eq 43, 3) := by decide +kernel
theorem dX10_isShown_48 : decode cX10_isShown 48 = .ok (.aload_n 0, 1) := by decide +kernel
theorem dX10_isShown_49 : decode cX10_isShown 49 = .ok (.iload_n 1, 1) := by decide +kernel
theorem dX10_isShown_50 : decode cX10_isShown 50 = .ok (.bipush 12, 2) := by decide +kernel
theorem dX10_isShown_52 : decode cX10_isShown 52 = .ok (.irem, 1) := by decide +kernel
theorem dX10_isShown_53 : decode cX10_isShown 53 = .ok (.iload_n 1, 1) := by decide +kernel
theorem dX10_isShown_54 : decode cX10_isShown 54 = .ok (.bipush 12, 2) := by decide +kernel
theorem dX10_isShown_56 : decode cX10_isShown 56 = .ok (.idiv, 1) := by decide +kernel
theorem dX10_isShown_57 : decode cX10_isShown 57 = .ok (.aload_n 0, 1) := by decide +kernel
theorem dX10_isShown_58 : decode cX10_isShown 58 = .ok (.getfield 17, 3) := by decide +kernel
theorem dX10_isShown_61 : decode cX10_isShown 61 = .ok (.iconst 5, 1) := by decide +kernel
theorem dX10_isShown_62 : decode cX10_isShown 62 = .ok (.iload 6, 2) := by decide +kernel
theorem dX10_isShown_64 : decode cX10_isShown 64 = .ok (.imul, 1) := by decide +kernel
theorem dX10_isShown_65 : decode cX10_isShown 65 = .ok (.iconst 2, 1) := by decide +kernel
theorem dX10_isShown_66 : decode cX10_isShown 66 = .ok (.iadd, 1) := by decide +kernel
theorem dX10_isShown_67 : decode cX10_isShown 67 = .ok (.iaload, 1) := by decide +kernel
theorem dX10_isShown_68 : decode cX10_isShown 68 = .ok (.invokevirtual 63, 3) := by decide +kernel
theorem dX10_isShown_71 : decode cX10_isShown 71 = .ok (.iload 4, 2) := by decide +kernel
theorem dX10_isShown_73 : decode cX10_isShown 73 = .ok (.if_icmp .ne 7, 3) := by decide +kernel
theorem dX10_isShown_76 : decode cX10_isShown 76 = .ok (.iconst 1, 1) := by decide +kernel
theorem dX10_isShown_77 : decode cX10_isShown 77 = .ok (.goto 4, 3) := by decide +kernel
theorem dX10_isShown_80 : decode cX10_isShown 80 = .ok (.iconst 0, 1) := by decide +kernel
theorem dX10_isShown_81 : decode cX10_isShown 81 = .ok (.iload 5, 2) := by decide +kernel
theorem dX10_isShown_83 : decode cX10_isShown 83 = .ok (.if_icmp .ne 5, 3) := by decide +kernel
theorem dX10_isShown_86 : decode cX10_isShown 86 = .ok (.iconst 1, 1) := by decide +kernel
theorem dX10_isShown_87 : decode cX10_isShown 87 = .ok (.ireturn, 1) := by decide +kernel
theorem dX10_isShown_88 : decode cX10_isShown 88 = .ok (.iinc 6 1, 3) := by decide +kernel
theorem dX10_isShown_91 : decode cX10_isShown 91 = .ok (.goto (-88), 3) := by decide +kernel
theorem dX10_isShown_94 : decode cX10_isShown 94 = .ok (.iconst 0, 1) := by decide +kernel
theorem dX10_isShown_95 : decode cX10_isShown 95 = .ok (.ireturn, 1) := by decide +kernel
theorem dX10_shownOf_0 : decode cX10_shownOf 0 = .ok (.iconst 0, 1) := by decide +kernel
theorem dX10_shownOf_1 : decode cX10_shownOf 1 = .ok (.istore_n 3, 1) := by decide +kernel
theorem dX10_shownOf_2 : decode cX10_shownOf 2 = .ok (.iconst 0, 1) := by decide +kernel
theorem dX10_shownOf_3 : decode cX10_shownOf 3 = .ok (.istore 4, 2) := by decide +kernel
theorem dX10_shownOf_5 : decode cX10_shownOf 5 = .ok (.iload 4, 2) := by decide +kernel
theorem dX10_shownOf_7 : decode cX10_shownOf 7 = .ok (.bipush 96, 2) := by decide +kernel
theorem dX10_shownOf_9 : decode cX10_shownOf 9 = .ok (.if_icmp .ge 58, 3) := by decide +kernel
theorem dX10_shownOf_12 : decode cX10_shownOf 12 = .ok (.iload_n 3, 1) := by decide +kernel
theorem dX10_shownOf_13 : decode cX10_shownOf 13 = .ok (.aload_n 0, 1) := by decide +kernel
theorem dX10_shownOf_14 : decode cX10_shownOf 14 = .ok (.iload_n 1, 1) := by decide +kernel
theorem dX10_shownOf_15 : decode cX10_shownOf 15 = .ok (.iload 4, 2) := by decide +kernel
theorem dX10_shownOf_17 : decode cX10_shownOf 17 = .ok (.bipush 12, 2) := by decide +kernel
theorem dX10_shownOf_19 : decode cX10_shownOf 19 = .ok (.irem, 1) := by decide +kernel
theorem dX10_shownOf_20 : decode cX10_shownOf 20 = .ok (.iload 4, 2) := by decide +kernel
theorem dX10_shownOf_22 : decode cX10_shownOf 22 = .ok (.bipush 12, 2) := by decide +kernel
theorem dX10_shownOf_24 : decode cX10_shownOf 24 = .ok (.idiv, 1) := by decide +kernel
theorem dX10_shownOf_25 : decode cX10_shownOf 25 = .ok (.invokevirtual 57, 3) := by decide +kernel
theorem dX10_shownOf_28 : decode cX10_shownOf 28 = .ok (.ifCond .eq 30, 3) := by decide +kernel
theorem dX10_shownOf_31 : decode cX10_shownOf 31 = .ok (.aload_n 0, 1) := by decide +kernel
theorem dX10_shownOf_32 : decode cX10_shownOf 32 = .ok (.iload 4, 2) := by decide +kernel
theorem dX10_shownOf_34 : decode cX10_shownOf 34 = .ok (.aload_n 0, 1) := by decide +kernel
theorem dX10_shownOf_35 : decode cX10_shownOf 35 = .ok (.getfield 7, 3) := by decide +kernel
theorem dX10_shownOf_38 : decode cX10_shownOf 38 = .ok (.bipush 11, 2) := by decide +kernel
theorem dX10_shownOf_40 : decode cX10_shownOf 40 = .ok (.iload_n 1, 1) := by decide +kernel
theorem dX10_shownOf_41 : decode cX10_shownOf 41 = .ok (.imul, 1) := by decide +kernel
theorem dX10_shownOf_42 : decode cX10_shownOf 42 = .ok (.iconst 5, 1) := by decide +kernel
theorem dX10_shownOf_43 : decode cX10_shownOf 43 = .ok (.iadd, 1) := by decide +kernel
theorem dX10_shownOf_44 : decode cX10_shownOf 44 = .ok (.iaload, 1) := by decide +kernel
theorem dX10_shownOf_45 : decode cX10_shownOf 45 = .ok (.iload_n 2, 1) := by decide +kernel
theorem dX10_shownOf_46 : decode cX10_shownOf 46 = .ok (.iload_n 1, 1) := by decide +kernel
theorem dX10_shownOf_47 : decode cX10_shownOf 47 = .ok (.iconst 1, 1) := by decide +kernel
theorem dX10_shownOf_48 : decode cX10_shownOf 48 = .ok (.invokevirtual 90, 3) := by decide +kernel
theorem dX10_shownOf_51 : decode cX10_shownOf 51 = .ok (.ifCond .eq 7, 3) := by decide +kernel
theorem dX10_shownOf_54 : decode cX10_shownOf 54 = .ok (.iconst 1, 1) := by decide +kernel
theorem dX10_shownOf_55 : decode cX10_shownOf 55 = .ok (.goto 4, 3) := by decide +kernel
theorem dX10_shownOf_58 : decode cX10_shownOf 58 = .ok (.iconst 0, 1) := by decide +kernel
theorem dX10_shownOf_59 : decode cX10_shownOf 59 = .ok (.iadd, 1) := by decide +kernel
theorem dX10_shownOf_60 : decode cX10_shownOf 60 = .ok (.istore_n 3, 1) := by decide +kernel
theorem dX10_shownOf_61 : decode cX10_shownOf 61 = .ok (.iinc 4 1, 3) := by decide +kernel
theorem dX10_shownOf_64 : decode cX10_shownOf 64 = .ok (.goto (-59), 3) := by decide +kernel
theorem dX10_shownOf_67 : decode cX10_shownOf 67 = .ok (.iload_n 3, 1) := by decide +kernel
theorem dX10_shownOf_68 : decode cX10_shownOf 68 = .ok (.ireturn, 1) := by decide +kernel
theorem dX10_farOf_0 : decode cX10_farOf 0 = .ok (.iload_n 2, 1) := by decide +kernel
theorem dX10_farOf_1 : decode cX10_farOf 1 = .ok (.bipush 12, 2) := by decide +kernel
theorem dX10_farOf_3 : decode cX10_farOf 3 = .ok (.irem, 1) := by decide +kernel
theorem dX10_farOf_4 : decode cX10_farOf 4 = .ok (.aload_n 0, 1) := by decide +kernel
theorem dX10_farOf_5 : decode cX10_farOf 5 = .ok (.getfield 7, 3) := by decide +kernel
theorem dX10_farOf_8 : decode cX10_farOf 8 = .ok (.bipush 11, 2) := by decide +kernel
theorem dX10_farOf_10 : decode cX10_farOf 10 = .ok (.iload_n 1, 1) := by decide +kernel
theorem dX10_farOf_11 : decode cX10_farOf 11 = .ok (.imul, 1) := by decide +kernel
theorem dX10_farOf_12 : decode cX10_farOf 12 = .ok (.iaload, 1) := by decide +kernel
theorem dX10_farOf_13 : decode cX10_farOf 13 = .ok (.isub, 1) := by decide +kernel
theorem dX10_farOf_14 : decode cX10_farOf 14 = .ok (.istore_n 3, 1) := by decide +kernel
theorem dX10_farOf_15 : decode cX10_farOf 15 = .ok (.iload_n 2, 1) := by decide +kernel
theorem dX10_farOf_16 : decode cX10_farOf 16 = .ok (.bipush 12, 2) := by decide +kernel
theorem dX10_farOf_18 : decode cX10_farOf 18 = .ok (.idiv, 1) := by decide +kernel
theorem dX10_farOf_19 : decode cX10_farOf 19 = .ok (.aload_n 0, 1) := by decide +kernel
theorem dX10_farOf_20 : decode cX10_farOf 20 = .ok (.getfield 7, 3) := by decide +kernel
theorem dX10_farOf_23 : decode cX10_farOf 23 = .ok (.bipush 11, 2) := by decide +kernel
theorem dX10_farOf_25 : decode cX10_farOf 25 = .ok (.iload_n 1, 1) := by decide +kernel
theorem dX10_farOf_26 : decode cX10_farOf 26 = .ok (.imul, 1) := by decide +kernel
theorem dX10_farOf_27 : decode cX10_farOf 27 = .ok (.iconst 1, 1) := by decide +kernel
theorem dX10_farOf_28 : decode cX10_farOf 28 = .ok (.iadd, 1) := by decide +kernel
theorem dX10_farOf_29 : decode cX10_farOf 29 = .ok (.iaload, 1) := by decide +kernel
theorem dX10_farOf_30 : decode cX10_farOf 30 = .ok (.isub, 1) := by decide +kernel
theorem dX10_farOf_31 : decode cX10_farOf 31 = .ok (.istore 4, 2) := by decide +kernel
theorem dX10_farOf_33 : decode cX10_farOf 33 = .ok (.iload_n 3, 1) := by decide +kernel
theorem dX10_farOf_34 : decode cX10_farOf 34 = .ok (.ifCond .ge 8, 3) := by decide +kernel
theorem dX10_farOf_37 : decode cX10_farOf 37 = .ok (.iload_n 3, 1) := by decide +kernel
theorem dX10_farOf_38 : decode cX10_farOf 38 = .ok (.ineg, 1) := by decide +kernel
theorem dX10_farOf_39 : decode cX10_farOf 39 = .ok (.goto 4, 3) := by decide +kernel
theorem dX10_farOf_42 : decode cX10_farOf 42 = .ok (.iload_n 3, 1) := by decide +kernel
theorem dX10_farOf_43 : decode cX10_farOf 43 = .ok (.iload 4, 2) := by decide +kernel
theorem dX10_farOf_45 : decode cX10_farOf 45 = .ok (.ifCond .ge 9, 3) := by decide +kernel
theorem dX10_farOf_48 : decode cX10_farOf 48 = .ok (.iload 4, 2) := by decide +kernel
theorem dX10_farOf_50 : decode cX10_farOf 50 = .ok (.ineg, 1) := by decide +kernel
theorem dX10_farOf_51 : decode cX10_farOf 51 = .ok (.goto 5, 3) := by decide +kernel
theorem dX10_farOf_54 : decode cX10_farOf 54 = .ok (.iload 4, 2) := by decide +kernel
theorem dX10_farOf_56 : decode cX10_farOf 56 = .ok (.iadd, 1) := by decide +kernel
theorem dX10_farOf_57 : decode cX10_farOf 57 = .ok (.ireturn, 1) := by decide +kernel
theorem dX10_nearOf_0 : decode cX10_nearOf 0 = .ok (.bipush 99, 2) := by decide +kernel
theorem dX10_nearOf_2 : decode cX10_nearOf 2 = .ok (.istore 4, 2) := by decide +kernel
theorem dX10_nearOf_4 : decode cX10_nearOf 4 = .ok (.iconst 0, 1) := by decide +kernel
theorem dX10_nearOf_5 : decode cX10_nearOf 5 = .ok (.istore 5, 2) := by decide +kernel
theorem dX10_nearOf_7 : decode cX10_nearOf 7 = .ok (.iload 5, 2) := by decide +kernel
theorem dX10_nearOf_9 : decode cX10_nearOf 9 = .ok (.bipush 96, 2) := by decide +kernel
theorem dX10_nearOf_11 : decode cX10_nearOf 11 = .ok (.if_icmp .ge 43, 3) := by decide +kernel
theorem dX10_nearOf_14 : decode cX10_nearOf 14 = .ok (.aload_n 0, 1) := by decide +kernel
theorem dX10_nearOf_15 : decode cX10_nearOf 15 = .ok (.iload_n 1, 1) := by decide +kernel
theorem dX10_nearOf_16 : decode cX10_nearOf 16 = .ok (.iload 5, 2) := by decide +kernel
theorem dX10_nearOf_18 : decode cX10_nearOf 18 = .ok (.invokevirtual 94, 3) := by decide +kernel
theorem dX10_nearOf_21 : decode cX10_nearOf 21 = .ok (.iload 4, 2) := by decide +kernel
theorem dX10_nearOf_23 : decode cX10_nearOf 23 = .ok (.if_icmp .ge 25, 3) := by decide +kernel
theorem dX10_nearOf_26 : decode cX10_nearOf 26 = .ok (.aload_n 0, 1) := by decide +kernel
theorem dX10_nearOf_27 : decode cX10_nearOf 27 = .ok (.iload 5, 2) := by decide +kernel
theorem dX10_nearOf_29 : decode cX10_nearOf 29 = .ok (.iload_n 2, 1) := by decide +kernel
theorem dX10_nearOf_30 : decode cX10_nearOf 30 = .ok (.iload_n 3, 1) := by decide +kernel
theorem dX10_nearOf_31 : decode cX10_nearOf 31 = .ok (.iload_n 1, 1) := by decide +kernel
theorem dX10_nearOf_32 : decode cX10_nearOf 32 = .ok (.iconst 0, 1) := by decide +kernel
theorem dX10_nearOf_33 : decode cX10_nearOf 33 = .ok (.invokevirtual 90, 3) := by decide +kernel
theorem dX10_nearOf_36 : decode cX10_nearOf 36 = .ok (.ifCond .eq 12, 3) := by decide +kernel
theorem dX10_nearOf_39 : decode cX10_nearOf 39 = .ok (.aload_n 0, 1) := by decide +kernel
theorem dX10_nearOf_40 : decode cX10_nearOf 40 = .ok (.iload_n 1, 1) := by decide +kernel
theorem dX10_nearOf_41 : decode cX10_nearOf 41 = .ok (.iload 5, 2) := by decide +kernel
theorem dX10_nearOf_43 : decode cX10_nearOf 43 = .ok (.invokevirtual 94, 3) := by decide +kernel
theorem dX10_nearOf_46 : decode cX10_nearOf 46 = .ok (.istore 4, 2) := by decide +kernel
theorem dX10_nearOf_48 : decode cX10_nearOf 48 = .ok (.iinc 5 1, 3) := by decide +kernel
theorem dX10_nearOf_51 : decode cX10_nearOf 51 = .ok (.goto (-44), 3) := by decide +kernel
theorem dX10_nearOf_54 : decode cX10_nearOf 54 = .ok (.iconst 0, 1) := by decide +kernel
theorem dX10_nearOf_55 : decode cX10_nearOf 55 = .ok (.istore 5, 2) := by decide +kernel
theorem dX10_nearOf_57 : decode cX10_nearOf 57 = .ok (.iload 5, 2) := by decide +kernel
theorem dX10_nearOf_59 : decode cX10_nearOf 59 = .ok (.bipush 96, 2) := by decide +kernel
theorem dX10_nearOf_61 : decode cX10_nearOf 61 = .ok (.if_icmp .ge 93, 3) := by decide +kernel
theorem dX10_nearOf_64 : decode cX10_nearOf 64 = .ok (.iload 4, 2) := by decide +kernel
theorem dX10_nearOf_66 : decode cX10_nearOf 66 = .ok (.bipush 99, 2) := by decide +kernel
theorem dX10_nearOf_68 : decode cX10_nearOf 68 = .ok (.if_icmp .ne 86, 3) := by decide +kernel
theorem dX10_nearOf_71 : decode cX10_nearOf 71 = .ok (.aload_n 0, 1) := by decide +kernel
theorem dX10_nearOf_72 : decode cX10_nearOf 72 = .ok (.iload_n 1, 1) := by decide +kernel
theorem dX10_nearOf_73 : decode cX10_nearOf 73 = .ok (.iload 5, 2) := by decide +kernel
theorem dX10_nearOf_75 : decode cX10_nearOf 75 = .ok (.invokevirtual 94, 3) := by decide +kernel
theorem dX10_nearOf_78 : decode cX10_nearOf 78 = .ok (.iconst 5, 1) := by decide +kernel
theorem dX10_nearOf_79 : decode cX10_nearOf 79 = .ok (.if_icmp .le 7, 3) := by decide +kernel
theorem dX10_nearOf_82 : decode cX10_nearOf 82 = .ok (.iconst 1, 1) := by decide +kernel
theorem dX10_nearOf_83 : decode cX10_nearOf 83 = .ok (.goto 4, 3) := by decide +kernel
theorem dX10_nearOf_86 : decode cX10_nearOf 86 = .ok (.iconst 0, 1) := by decide +kernel
theorem dX10_nearOf_87 : decode cX10_nearOf 87 = .ok (.istore 6, 2) := by decide +kernel
theorem dX10_nearOf_89 : decode cX10_nearOf 89 = .ok (.iconst 0, 1) := by decide +kernel
theorem dX10_nearOf_90 : decode cX10_nearOf 90 = .ok (.istore 7, 2) := by decide +kernel
theorem dX10_nearOf_92 : decode cX10_nearOf 92 = .ok (.iload 7, 2) := by decide +kernel
theorem dX10_nearOf_94 : decode cX10_nearOf 94 = .ok (.aload_n 0, 1) := by decide +kernel
theorem dX10_nearOf_95 : decode cX10_nearOf 95 = .ok (.getfield 43, 3) := by decide +kernel
theorem dX10_nearOf_98 : decode cX10_nearOf 98 = .ok (.if_icmp .ge 42, 3) := by decide +kernel
theorem dX10_nearOf_101 : decode cX10_nearOf 101 = .ok (.iload 6, 2) := by decide +kernel
theorem dX10_nearOf_103 : decode cX10_nearOf 103 = .ok (.ifCond .ne 37, 3) := by decide +kernel
theorem dX10_nearOf_106 : decode cX10_nearOf 106 = .ok (.aload_n 0, 1) := by decide +kernel
theorem dX10_nearOf_107 : decode cX10_nearOf 107 = .ok (.iload 7, 2) := by decide +kernel
theorem dX10_nearOf_109 : decode cX10_nearOf 109 = .ok (.iload_n 3, 1) := by decide +kernel
theorem dX10_nearOf_110 : decode cX10_nearOf 110 = .ok (.invokevirtual 87, 3) := by decide +kernel
theorem dX10_nearOf_113 : decode cX10_nearOf 113 = .ok (.ifCond .eq 18, 3) := by decide +kernel
theorem dX10_nearOf_116 : decode cX10_nearOf 116 = .ok (.aload_n 0, 1) := by decide +kernel
theorem dX10_nearOf_117 : decode cX10_nearOf 117 = .ok (.iload 7, 2) := by decide +kernel
theorem dX10_nearOf_119 : decode cX10_nearOf 119 = .ok (.iload 5, 2) := by decide +kernel
theorem dX10_nearOf_121 : decode cX10_nearOf 121 = .ok (.invokevirtual 70, 3) := by decide +kernel
theorem dX10_nearOf_124 : decode cX10_nearOf 124 = .ok (.ifCond .eq 7, 3) := by decide +kernel
theorem dX10_nearOf_127 : decode cX10_nearOf 127 = .ok (.iconst 1, 1) := by decide +kernel
theorem dX10_nearOf_128 : decode cX10_nearOf 128 = .ok (.goto 4, 3) := by decide +kernel
theorem dX10_nearOf_131 : decode cX10_nearOf 131 = .ok (.iconst 0, 1) := by decide +kernel
theorem dX10_nearOf_132 : decode cX10_nearOf 132 = .ok (.istore 6, 2) := by decide +kernel
theorem dX10_nearOf_134 : decode cX10_nearOf 134 = .ok (.iinc 7 1, 3) := by decide +kernel
theorem dX10_nearOf_137 : decode cX10_nearOf 137 = .ok (.goto (-45), 3) := by decide +kernel
theorem dX10_nearOf_140 : decode cX10_nearOf 140 = .ok (.iload 6, 2) := by decide +kernel
theorem dX10_nearOf_142 : decode cX10_nearOf 142 = .ok (.ifCond .ne 6, 3) := by decide +kernel
theorem dX10_nearOf_145 : decode cX10_nearOf 145 = .ok (.bipush (-6), 2) := by decide +kernel
theorem dX10_nearOf_147 : decode cX10_nearOf 147 = .ok (.ireturn, 1) := by decide +kernel
theorem dX10_nearOf_148 : decode cX10_nearOf 148 = .ok (.iinc 5 1, 3) := by decide +kernel
theorem dX10_nearOf_151 : decode cX10_nearOf 151 = .ok (.goto (-94), 3) := by decide +kernel
theorem dX10_nearOf_154 : decode cX10_nearOf 154 = .ok (.iload 4, 2) := by decide +kernel
theorem dX10_nearOf_156 : decode cX10_nearOf 156 = .ok (.ireturn, 1) := by decide +kernel
theorem dX10_factOf_0 : decode cX10_factOf 0 = .ok (.iload_n 3, 1) := by decide +kernel
theorem dX10_factOf_1 : decode cX10_factOf 1 = .ok (.iconst 2, 1) := by decide +kernel
theorem dX10_factOf_2 : decode cX10_factOf 2 = .ok (.if_icmp .le 13, 3) := by decide +kernel
theorem dX10_factOf_5 : decode cX10_factOf 5 = .ok (.aload_n 0, 1) := by decide +kernel
theorem dX10_factOf_6 : decode cX10_factOf 6 = .ok (.iload_n 1, 1) := by decide +kernel
theorem dX10_factOf_7 : decode cX10_factOf 7 = .ok (.iload_n 3, 1) := by decide +kernel
theorem dX10_factOf_8 : decode cX10_factOf 8 = .ok (.iconst 3, 1) := by decide +kernel
theorem dX10_factOf_9 : decode cX10_factOf 9 = .ok (.isub, 1) := by decide +kernel
theorem dX10_factOf_10 : decode cX10_factOf 10 = .ok (.iload_n 2, 1) := by decide +kernel
theorem dX10_factOf_11 : decode cX10_factOf 11 = .ok (.invokevirtual 97, 3) := by decide +kernel
theorem dX10_factOf_14 : decode cX10_factOf 14 = .ok (.ireturn, 1) := by decide +kernel
theorem dX10_factOf_15 : decode cX10_factOf 15 = .ok (.aload_n 0, 1) := by decide +kernel
theorem dX10_factOf_16 : decode cX10_factOf 16 = .ok (.iload_n 1, 1) := by decide +kernel
theorem dX10_factOf_17 : decode cX10_factOf 17 = .ok (.iload_n 2, 1) := by decide +kernel
theorem dX10_factOf_18 : decode cX10_factOf 18 = .ok (.invokevirtual 100, 3) := by decide +kernel
theorem dX10_factOf_21 : decode cX10_factOf 21 = .ok (.istore 4, 2) := by decide +kernel
theorem dX10_factOf_23 : decode cX10_factOf 23 = .ok (.iload_n 3, 1) := by decide +kernel
theorem dX10_factOf_24 : decode cX10_factOf 24 = .ok (.ifCond .ne 8, 3) := by decide +kernel
theorem dX10_factOf_27 : decode cX10_factOf 27 = .ok (.iload 4, 2) := by decide +kernel
theorem dX10_factOf_29 : decode cX10_factOf 29 = .ok (.goto 33, 3) := by decide +kernel
theorem dX10_factOf_32 : decode cX10_factOf 32 = .ok (.iload 4, 2) := by decide +kernel
theorem dX10_factOf_34 : decode cX10_factOf 34 = .ok (.ifCond .ne 8, 3) := by decide +kernel
theorem dX10_factOf_37 : decode cX10_factOf 37 = .ok (.bipush (-6), 2) := by decide +kernel
theorem dX10_factOf_39 : decode cX10_factOf 39 = .ok (.goto 23, 3) := by decide +kernel
theorem dX10_factOf_42 : decode cX10_factOf 42 = .ok (.aload_n 0, 1) := by decide +kernel
theorem dX10_factOf_43 : decode cX10_factOf 43 = .ok (.getfield 7, 3) := by decide +kernel
theorem dX10_factOf_46 : decode cX10_factOf 46 = .ok (.bipush 11, 2) := by decide +kernel
theorem dX10_factOf_48 : decode cX10_factOf 48 = .ok (.iload_n 1, 1) := by decide +kernel
theorem dX10_factOf_49 : decode cX10_factOf 49 = .ok (.imul, 1) := by decide +kernel
theorem dX10_factOf_50 : decode cX10_factOf 50 = .ok (.iload_n 3, 1) := by decide +kernel
theorem dX10_factOf_51 : decode cX10_factOf 51 = .ok (.iconst 1, 1) := by decide +kernel
theorem dX10_factOf_52 : decode cX10_factOf 52 = .ok (.if_icmp .ne 7, 3) := by decide +kernel
theorem dX10_factOf_55 : decode cX10_factOf 55 = .ok (.iconst 5, 1) := by decide +kernel
theorem dX10_factOf_56 : decode cX10_factOf 56 = .ok (.goto 4, 3) := by decide +kernel
theorem dX10_factOf_59 : decode cX10_factOf 59 = .ok (.iconst 4, 1) := by decide +kernel
theorem dX10_factOf_60 : decode cX10_factOf 60 = .ok (.iadd, 1) := by decide +kernel
theorem dX10_factOf_61 : decode cX10_factOf 61 = .ok (.iaload, 1) := by decide +kernel
theorem dX10_factOf_62 : decode cX10_factOf 62 = .ok (.ireturn, 1) := by decide +kernel
theorem dX10_fact_0 : decode cX10_fact 0 = .ok (.aload_n 0, 1) := by decide +kernel
theorem dX10_fact_1 : decode cX10_fact 1 = .ok (.iload_n 1, 1) := by decide +kernel
