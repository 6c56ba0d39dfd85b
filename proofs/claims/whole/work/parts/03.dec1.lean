theorem dX0_init_0 : decode cX0_init 0 = .ok (.aload_n 0, 1) := by decide +kernel
theorem dX0_init_1 : decode cX0_init 1 = .ok (.bipush 60, 2) := by decide +kernel
theorem dX0_init_3 : decode cX0_init 3 = .ok (.invokespecial 5, 3) := by decide +kernel
theorem dX0_init_6 : decode cX0_init 6 = .ok (.aload_n 0, 1) := by decide +kernel
theorem dX0_init_7 : decode cX0_init 7 = .ok (.iconst 0, 1) := by decide +kernel
theorem dX0_init_8 : decode cX0_init 8 = .ok (.putfield 11, 3) := by decide +kernel
theorem dX0_init_11 : decode cX0_init 11 = .ok (.return_, 1) := by decide +kernel
theorem dX0_steps_0 : decode cX0_steps 0 = .ok (.aload_n 0, 1) := by decide +kernel
theorem dX0_steps_1 : decode cX0_steps 1 = .ok (.getfield 11, 3) := by decide +kernel
theorem dX0_steps_4 : decode cX0_steps 4 = .ok (.ireturn, 1) := by decide +kernel
theorem dX0_told_0 : decode cX0_told 0 = .ok (.aload_n 0, 1) := by decide +kernel
theorem dX0_told_1 : decode cX0_told 1 = .ok (.iload_n 1, 1) := by decide +kernel
theorem dX0_told_2 : decode cX0_told 2 = .ok (.iconst 3, 1) := by decide +kernel
theorem dX0_told_3 : decode cX0_told 3 = .ok (.imul, 1) := by decide +kernel
theorem dX0_told_4 : decode cX0_told 4 = .ok (.iload_n 2, 1) := by decide +kernel
theorem dX0_told_5 : decode cX0_told 5 = .ok (.iadd, 1) := by decide +kernel
theorem dX0_told_6 : decode cX0_told 6 = .ok (.invokevirtual 15, 3) := by decide +kernel
theorem dX0_told_9 : decode cX0_told 9 = .ok (.ireturn, 1) := by decide +kernel
theorem dX0_reads_0 : decode cX0_reads 0 = .ok (.aload_n 0, 1) := by decide +kernel
theorem dX0_reads_1 : decode cX0_reads 1 = .ok (.iconst 0, 1) := by decide +kernel
theorem dX0_reads_2 : decode cX0_reads 2 = .ok (.putfield 11, 3) := by decide +kernel
theorem dX0_reads_5 : decode cX0_reads 5 = .ok (.aload_n 1, 1) := by decide +kernel
theorem dX0_reads_6 : decode cX0_reads 6 = .ok (.ifnonnull 5, 3) := by decide +kernel
theorem dX0_reads_9 : decode cX0_reads 9 = .ok (.iconst 0, 1) := by decide +kernel
theorem dX0_reads_10 : decode cX0_reads 10 = .ok (.ireturn, 1) := by decide +kernel
theorem dX0_reads_11 : decode cX0_reads 11 = .ok (.iconst 0, 1) := by decide +kernel
theorem dX0_reads_12 : decode cX0_reads 12 = .ok (.istore_n 2, 1) := by decide +kernel
theorem dX0_reads_13 : decode cX0_reads 13 = .ok (.iload_n 2, 1) := by decide +kernel
theorem dX0_reads_14 : decode cX0_reads 14 = .ok (.bipush 20, 2) := by decide +kernel
theorem dX0_reads_16 : decode cX0_reads 16 = .ok (.if_icmp .ge 51, 3) := by decide +kernel
theorem dX0_reads_19 : decode cX0_reads 19 = .ok (.aload_n 0, 1) := by decide +kernel
theorem dX0_reads_20 : decode cX0_reads 20 = .ok (.aload_n 1, 1) := by decide +kernel
theorem dX0_reads_21 : decode cX0_reads 21 = .ok (.invokevirtual 19, 3) := by decide +kernel
theorem dX0_reads_24 : decode cX0_reads 24 = .ok (.ifCond .ne 5, 3) := by decide +kernel
theorem dX0_reads_27 : decode cX0_reads 27 = .ok (.iconst 0, 1) := by decide +kernel
theorem dX0_reads_28 : decode cX0_reads 28 = .ok (.ireturn, 1) := by decide +kernel
theorem dX0_reads_29 : decode cX0_reads 29 = .ok (.aload_n 1, 1) := by decide +kernel
theorem dX0_reads_30 : decode cX0_reads 30 = .ok (.invokevirtual 23, 3) := by decide +kernel
theorem dX0_reads_33 : decode cX0_reads 33 = .ok (.istore_n 3, 1) := by decide +kernel
theorem dX0_reads_34 : decode cX0_reads 34 = .ok (.iload_n 3, 1) := by decide +kernel
theorem dX0_reads_35 : decode cX0_reads 35 = .ok (.ifCond .ne 5, 3) := by decide +kernel
theorem dX0_reads_38 : decode cX0_reads 38 = .ok (.iconst 1, 1) := by decide +kernel
theorem dX0_reads_39 : decode cX0_reads 39 = .ok (.ireturn, 1) := by decide +kernel
theorem dX0_reads_40 : decode cX0_reads 40 = .ok (.iload_n 3, 1) := by decide +kernel
theorem dX0_reads_41 : decode cX0_reads 41 = .ok (.bipush 59, 2) := by decide +kernel
theorem dX0_reads_43 : decode cX0_reads 43 = .ok (.if_icmp .ne 12, 3) := by decide +kernel
theorem dX0_reads_46 : decode cX0_reads 46 = .ok (.aload_n 0, 1) := by decide +kernel
theorem dX0_reads_47 : decode cX0_reads 47 = .ok (.getfield 11, 3) := by decide +kernel
theorem dX0_reads_50 : decode cX0_reads 50 = .ok (.bipush 20, 2) := by decide +kernel
theorem dX0_reads_52 : decode cX0_reads 52 = .ok (.if_icmp .lt 5, 3) := by decide +kernel
theorem dX0_reads_55 : decode cX0_reads 55 = .ok (.iconst 0, 1) := by decide +kernel
theorem dX0_reads_56 : decode cX0_reads 56 = .ok (.ireturn, 1) := by decide +kernel
theorem dX0_reads_57 : decode cX0_reads 57 = .ok (.aload_n 1, 1) := by decide +kernel
theorem dX0_reads_58 : decode cX0_reads 58 = .ok (.invokevirtual 29, 3) := by decide +kernel
theorem dX0_reads_61 : decode cX0_reads 61 = .ok (.iinc 2 1, 3) := by decide +kernel
theorem dX0_reads_64 : decode cX0_reads 64 = .ok (.goto (-51), 3) := by decide +kernel
theorem dX0_reads_67 : decode cX0_reads 67 = .ok (.iconst 0, 1) := by decide +kernel
theorem dX0_reads_68 : decode cX0_reads 68 = .ok (.ireturn, 1) := by decide +kernel
theorem dX0_readsStep_0 : decode cX0_readsStep 0 = .ok (.getstatic 33, 3) := by decide +kernel
theorem dX0_readsStep_3 : decode cX0_readsStep 3 = .ok (.aload_n 1, 1) := by decide +kernel
theorem dX0_readsStep_4 : decode cX0_readsStep 4 = .ok (.invokevirtual 23, 3) := by decide +kernel
theorem dX0_readsStep_7 : decode cX0_readsStep 7 = .ok (.invokestatic 37, 3) := by decide +kernel
theorem dX0_readsStep_10 : decode cX0_readsStep 10 = .ok (.istore_n 2, 1) := by decide +kernel
theorem dX0_readsStep_11 : decode cX0_readsStep 11 = .ok (.iload_n 2, 1) := by decide +kernel
theorem dX0_readsStep_12 : decode cX0_readsStep 12 = .ok (.iconst (-1), 1) := by decide +kernel
theorem dX0_readsStep_13 : decode cX0_readsStep 13 = .ok (.if_icmp .ne 5, 3) := by decide +kernel
theorem dX0_readsStep_16 : decode cX0_readsStep 16 = .ok (.iconst 0, 1) := by decide +kernel
theorem dX0_readsStep_17 : decode cX0_readsStep 17 = .ok (.ireturn, 1) := by decide +kernel
theorem dX0_readsStep_18 : decode cX0_readsStep 18 = .ok (.aload_n 1, 1) := by decide +kernel
theorem dX0_readsStep_19 : decode cX0_readsStep 19 = .ok (.invokevirtual 29, 3) := by decide +kernel
theorem dX0_readsStep_22 : decode cX0_readsStep 22 = .ok (.aload_n 0, 1) := by decide +kernel
theorem dX0_readsStep_23 : decode cX0_readsStep 23 = .ok (.getfield 11, 3) := by decide +kernel
theorem dX0_readsStep_26 : decode cX0_readsStep 26 = .ok (.iconst 3, 1) := by decide +kernel
theorem dX0_readsStep_27 : decode cX0_readsStep 27 = .ok (.imul, 1) := by decide +kernel
theorem dX0_readsStep_28 : decode cX0_readsStep 28 = .ok (.istore_n 3, 1) := by decide +kernel
theorem dX0_readsStep_29 : decode cX0_readsStep 29 = .ok (.aload_n 0, 1) := by decide +kernel
theorem dX0_readsStep_30 : decode cX0_readsStep 30 = .ok (.iload_n 3, 1) := by decide +kernel
theorem dX0_readsStep_31 : decode cX0_readsStep 31 = .ok (.iload_n 2, 1) := by decide +kernel
theorem dX0_readsStep_32 : decode cX0_readsStep 32 = .ok (.invokevirtual 41, 3) := by decide +kernel
theorem dX0_readsStep_35 : decode cX0_readsStep 35 = .ok (.iconst 1, 1) := by decide +kernel
theorem dX0_readsStep_36 : decode cX0_readsStep 36 = .ok (.istore 4, 2) := by decide +kernel
theorem dX0_readsStep_38 : decode cX0_readsStep 38 = .ok (.iload 4, 2) := by decide +kernel
theorem dX0_readsStep_40 : decode cX0_readsStep 40 = .ok (.iconst 3, 1) := by decide +kernel
theorem dX0_readsStep_41 : decode cX0_readsStep 41 = .ok (.if_icmp .ge 63, 3) := by decide +kernel
theorem dX0_readsStep_44 : decode cX0_readsStep 44 = .ok (.aload_n 0, 1) := by decide +kernel
theorem dX0_readsStep_45 : decode cX0_readsStep 45 = .ok (.iload_n 3, 1) := by decide +kernel
theorem dX0_readsStep_46 : decode cX0_readsStep 46 = .ok (.iload 4, 2) := by decide +kernel
theorem dX0_readsStep_48 : decode cX0_readsStep 48 = .ok (.iadd, 1) := by decide +kernel
theorem dX0_readsStep_49 : decode cX0_readsStep 49 = .ok (.iconst (-1), 1) := by decide +kernel
theorem dX0_readsStep_50 : decode cX0_readsStep 50 = .ok (.invokevirtual 41, 3) := by decide +kernel
theorem dX0_readsStep_53 : decode cX0_readsStep 53 = .ok (.iload 4, 2) := by decide +kernel
theorem dX0_readsStep_55 : decode cX0_readsStep 55 = .ok (.getstatic 45, 3) := by decide +kernel
theorem dX0_readsStep_58 : decode cX0_readsStep 58 = .ok (.iload_n 2, 1) := by decide +kernel
theorem dX0_readsStep_59 : decode cX0_readsStep 59 = .ok (.invokestatic 49, 3) := by decide +kernel
theorem dX0_readsStep_62 : decode cX0_readsStep 62 = .ok (.if_icmp .gt 36, 3) := by decide +kernel
theorem dX0_readsStep_65 : decode cX0_readsStep 65 = .ok (.aload_n 1, 1) := by decide +kernel
theorem dX0_readsStep_66 : decode cX0_readsStep 66 = .ok (.invokevirtual 23, 3) := by decide +kernel
theorem dX0_readsStep_69 : decode cX0_readsStep 69 = .ok (.istore 5, 2) := by decide +kernel
theorem dX0_readsStep_71 : decode cX0_readsStep 71 = .ok (.iload 5, 2) := by decide +kernel
theorem dX0_readsStep_73 : decode cX0_readsStep 73 = .ok (.invokestatic 53, 3) := by decide +kernel
theorem dX0_readsStep_76 : decode cX0_readsStep 76 = .ok (.ifCond .ne 5, 3) := by decide +kernel
theorem dX0_readsStep_79 : decode cX0_readsStep 79 = .ok (.iconst 0, 1) := by decide +kernel
theorem dX0_readsStep_80 : decode cX0_readsStep 80 = .ok (.ireturn, 1) := by decide +kernel
theorem dX0_readsStep_81 : decode cX0_readsStep 81 = .ok (.aload_n 1, 1) := by decide +kernel
theorem dX0_readsStep_82 : decode cX0_readsStep 82 = .ok (.invokevirtual 29, 3) := by decide +kernel
theorem dX0_readsStep_85 : decode cX0_readsStep 85 = .ok (.aload_n 0, 1) := by decide +kernel
theorem dX0_readsStep_86 : decode cX0_readsStep 86 = .ok (.iload_n 3, 1) := by decide +kernel
theorem dX0_readsStep_87 : decode cX0_readsStep 87 = .ok (.iload 4, 2) := by decide +kernel
theorem dX0_readsStep_89 : decode cX0_readsStep 89 = .ok (.iadd, 1) := by decide +kernel
theorem dX0_readsStep_90 : decode cX0_readsStep 90 = .ok (.iload 5, 2) := by decide +kernel
theorem dX0_readsStep_92 : decode cX0_readsStep 92 = .ok (.bipush 48, 2) := by decide +kernel
theorem dX0_readsStep_94 : decode cX0_readsStep 94 = .ok (.isub, 1) := by decide +kernel
theorem dX0_readsStep_95 : decode cX0_readsStep 95 = .ok (.invokevirtual 41, 3) := by decide +kernel
theorem dX0_readsStep_98 : decode cX0_readsStep 98 = .ok (.iinc 4 1, 3) := by decide +kernel
theorem dX0_readsStep_101 : decode cX0_readsStep 101 = .ok (.goto (-63), 3) := by decide +kernel
theorem dX0_readsStep_104 : decode cX0_readsStep 104 = .ok (.aload_n 0, 1) := by decide +kernel
theorem dX0_readsStep_105 : decode cX0_readsStep 105 = .ok (.dup, 1) := by decide +kernel
theorem dX0_readsStep_106 : decode cX0_readsStep 106 = .ok (.getfield 11, 3) := by decide +kernel
theorem dX0_readsStep_109 : decode cX0_readsStep 109 = .ok (.iconst 1, 1) := by decide +kernel
theorem dX0_readsStep_110 : decode cX0_readsStep 110 = .ok (.iadd, 1) := by decide +kernel
theorem dX0_readsStep_111 : decode cX0_readsStep 111 = .ok (.putfield 11, 3) := by decide +kernel
theorem dX0_readsStep_114 : decode cX0_readsStep 114 = .ok (.iconst 1, 1) := by decide +kernel
theorem dX0_readsStep_115 : decode cX0_readsStep 115 = .ok (.ireturn, 1) := by decide +kernel
theorem dX1_init_0 : decode cX1_init 0 = .ok (.aload_n 0, 1) := by decide +kernel
theorem dX1_init_1 : decode cX1_init 1 = .ok (.invokespecial 3, 3) := by decide +kernel
theorem dX1_init_4 : decode cX1_init 4 = .ok (.aload_n 0, 1) := by decide +kernel
theorem dX1_init_5 : decode cX1_init 5 = .ok (.new 9, 3) := by decide +kernel
theorem dX1_init_8 : decode cX1_init 8 = .ok (.dup, 1) := by decide +kernel
theorem dX1_init_9 : decode cX1_init 9 = .ok (.getstatic 11, 3) := by decide +kernel
theorem dX1_init_12 : decode cX1_init 12 = .ok (.arraylength, 1) := by decide +kernel
theorem dX1_init_13 : decode cX1_init 13 = .ok (.invokespecial 17, 3) := by decide +kernel
theorem dX1_init_16 : decode cX1_init 16 = .ok (.putfield 20, 3) := by decide +kernel
theorem dX1_init_19 : decode cX1_init 19 = .ok (.aload_n 0, 1) := by decide +kernel
theorem dX1_init_20 : decode cX1_init 20 = .ok (.new 9, 3) := by decide +kernel
theorem dX1_init_23 : decode cX1_init 23 = .ok (.dup, 1) := by decide +kernel
theorem dX1_init_24 : decode cX1_init 24 = .ok (.bipush 64, 2) := by decide +kernel
theorem dX1_init_26 : decode cX1_init 26 = .ok (.invokespecial 17, 3) := by decide +kernel
theorem dX1_init_29 : decode cX1_init 29 = .ok (.putfield 26, 3) := by decide +kernel
theorem dX1_init_32 : decode cX1_init 32 = .ok (.aload_n 0, 1) := by decide +kernel
theorem dX1_init_33 : decode cX1_init 33 = .ok (.aconst_null, 1) := by decide +kernel
theorem dX1_init_34 : decode cX1_init 34 = .ok (.putfield 29, 3) := by decide +kernel
theorem dX1_init_37 : decode cX1_init 37 = .ok (.aload_n 0, 1) := by decide +kernel
theorem dX1_init_38 : decode cX1_init 38 = .ok (.lconst 0, 1) := by decide +kernel
theorem dX1_init_39 : decode cX1_init 39 = .ok (.putfield 33, 3) := by decide +kernel
theorem dX1_init_42 : decode cX1_init 42 = .ok (.aload_n 0, 1) := by decide +kernel
theorem dX1_init_43 : decode cX1_init 43 = .ok (.aload_n 1, 1) := by decide +kernel
theorem dX1_init_44 : decode cX1_init 44 = .ok (.putfield 37, 3) := by decide +kernel
theorem dX1_init_47 : decode cX1_init 47 = .ok (.return_, 1) := by decide +kernel
theorem dX1_setLaw_0 : decode cX1_setLaw 0 = .ok (.aload_n 0, 1) := by decide +kernel
theorem dX1_setLaw_1 : decode cX1_setLaw 1 = .ok (.aload_n 1, 1) := by decide +kernel
theorem dX1_setLaw_2 : decode cX1_setLaw 2 = .ok (.putfield 29, 3) := by decide +kernel
theorem dX1_setLaw_5 : decode cX1_setLaw 5 = .ok (.return_, 1) := by decide +kernel
theorem dX1_lightAhead_0 : decode cX1_lightAhead 0 = .ok (.iload_n 2, 1) := by decide +kernel
theorem dX1_lightAhead_1 : decode cX1_lightAhead 1 = .ok (.aload_n 1, 1) := by decide +kernel
theorem dX1_lightAhead_2 : decode cX1_lightAhead 2 = .ok (.sipush 145, 3) := by decide +kernel
theorem dX1_lightAhead_5 : decode cX1_lightAhead 5 = .ok (.invokevirtual 43, 3) := by decide +kernel
theorem dX1_lightAhead_8 : decode cX1_lightAhead 8 = .ok (.if_icmp .ne 7, 3) := by decide +kernel
theorem dX1_lightAhead_11 : decode cX1_lightAhead 11 = .ok (.iconst 1, 1) := by decide +kernel
theorem dX1_lightAhead_12 : decode cX1_lightAhead 12 = .ok (.goto 4, 3) := by decide +kernel
theorem dX1_lightAhead_15 : decode cX1_lightAhead 15 = .ok (.iconst 0, 1) := by decide +kernel
theorem dX1_lightAhead_16 : decode cX1_lightAhead 16 = .ok (.istore 5, 2) := by decide +kernel
theorem dX1_lightAhead_18 : decode cX1_lightAhead 18 = .ok (.iload 5, 2) := by decide +kernel
theorem dX1_lightAhead_20 : decode cX1_lightAhead 20 = .ok (.ifCond .eq 15, 3) := by decide +kernel
theorem dX1_lightAhead_23 : decode cX1_lightAhead 23 = .ok (.aload_n 1, 1) := by decide +kernel
theorem dX1_lightAhead_24 : decode cX1_lightAhead 24 = .ok (.sipush 140, 3) := by decide +kernel
theorem dX1_lightAhead_27 : decode cX1_lightAhead 27 = .ok (.invokevirtual 43, 3) := by decide +kernel
theorem dX1_lightAhead_30 : decode cX1_lightAhead 30 = .ok (.ifCond .eq 5, 3) := by decide +kernel
theorem dX1_lightAhead_33 : decode cX1_lightAhead 33 = .ok (.iconst 0, 1) := by decide +kernel
theorem dX1_lightAhead_34 : decode cX1_lightAhead 34 = .ok (.ireturn, 1) := by decide +kernel
theorem dX1_lightAhead_35 : decode cX1_lightAhead 35 = .ok (.aload_n 0, 1) := by decide +kernel
theorem dX1_lightAhead_36 : decode cX1_lightAhead 36 = .ok (.getfield 37, 3) := by decide +kernel
theorem dX1_lightAhead_39 : decode cX1_lightAhead 39 = .ok (.iconst 0, 1) := by decide +kernel
theorem dX1_lightAhead_40 : decode cX1_lightAhead 40 = .ok (.invokevirtual 49, 3) := by decide +kernel
theorem dX1_lightAhead_43 : decode cX1_lightAhead 43 = .ok (.istore 6, 2) := by decide +kernel
theorem dX1_lightAhead_45 : decode cX1_lightAhead 45 = .ok (.iconst 2, 1) := by decide +kernel
theorem dX1_lightAhead_46 : decode cX1_lightAhead 46 = .ok (.iload_n 2, 1) := by decide +kernel
theorem dX1_lightAhead_47 : decode cX1_lightAhead 47 = .ok (.iload 6, 2) := by decide +kernel
theorem dX1_lightAhead_49 : decode cX1_lightAhead 49 = .ok (.iconst 2, 1) := by decide +kernel
theorem dX1_lightAhead_50 : decode cX1_lightAhead 50 = .ok (.idiv, 1) := by decide +kernel
theorem dX1_lightAhead_51 : decode cX1_lightAhead 51 = .ok (.isub, 1) := by decide +kernel
theorem dX1_lightAhead_52 : decode cX1_lightAhead 52 = .ok (.invokestatic 50, 3) := by decide +kernel
theorem dX1_lightAhead_55 : decode cX1_lightAhead 55 = .ok (.imul, 1) := by decide +kernel
theorem dX1_lightAhead_56 : decode cX1_lightAhead 56 = .ok (.iconst 4, 1) := by decide +kernel
theorem dX1_lightAhead_57 : decode cX1_lightAhead 57 = .ok (.iadd, 1) := by decide +kernel
theorem dX1_lightAhead_58 : decode cX1_lightAhead 58 = .ok (.iload_n 3, 1) := by decide +kernel
theorem dX1_lightAhead_59 : decode cX1_lightAhead 59 = .ok (.isub, 1) := by decide +kernel
theorem dX1_lightAhead_60 : decode cX1_lightAhead 60 = .ok (.istore 7, 2) := by decide +kernel
theorem dX1_lightAhead_62 : decode cX1_lightAhead 62 = .ok (.aload_n 0, 1) := by decide +kernel
theorem dX1_lightAhead_63 : decode cX1_lightAhead 63 = .ok (.getfield 29, 3) := by decide +kernel
theorem dX1_lightAhead_66 : decode cX1_lightAhead 66 = .ok (.ifnull 88, 3) := by decide +kernel
theorem dX1_lightAhead_69 : decode cX1_lightAhead 69 = .ok (.aload_n 0, 1) := by decide +kernel
theorem dX1_lightAhead_70 : decode cX1_lightAhead 70 = .ok (.getfield 20, 3) := by decide +kernel
theorem dX1_lightAhead_73 : decode cX1_lightAhead 73 = .ok (.iconst 0, 1) := by decide +kernel
theorem dX1_lightAhead_74 : decode cX1_lightAhead 74 = .ok (.iload_n 2, 1) := by decide +kernel
theorem dX1_lightAhead_75 : decode cX1_lightAhead 75 = .ok (.invokevirtual 55, 3) := by decide +kernel
theorem dX1_lightAhead_78 : decode cX1_lightAhead 78 = .ok (.aload_n 0, 1) := by decide +kernel
theorem dX1_lightAhead_79 : decode cX1_lightAhead 79 = .ok (.getfield 20, 3) := by decide +kernel
theorem dX1_lightAhead_82 : decode cX1_lightAhead 82 = .ok (.iconst 1, 1) := by decide +kernel
theorem dX1_lightAhead_83 : decode cX1_lightAhead 83 = .ok (.iload 6, 2) := by decide +kernel
theorem dX1_lightAhead_85 : decode cX1_lightAhead 85 = .ok (.invokevirtual 55, 3) := by decide +kernel
theorem dX1_lightAhead_88 : decode cX1_lightAhead 88 = .ok (.aload_n 0, 1) := by decide +kernel
theorem dX1_lightAhead_89 : decode cX1_lightAhead 89 = .ok (.getfield 20, 3) := by decide +kernel
theorem dX1_lightAhead_92 : decode cX1_lightAhead 92 = .ok (.iconst 2, 1) := by decide +kernel
theorem dX1_lightAhead_93 : decode cX1_lightAhead 93 = .ok (.iload_n 3, 1) := by decide +kernel
theorem dX1_lightAhead_94 : decode cX1_lightAhead 94 = .ok (.invokevirtual 55, 3) := by decide +kernel
theorem dX1_lightAhead_97 : decode cX1_lightAhead 97 = .ok (.aload_n 0, 1) := by decide +kernel
theorem dX1_lightAhead_98 : decode cX1_lightAhead 98 = .ok (.getfield 20, 3) := by decide +kernel
theorem dX1_lightAhead_101 : decode cX1_lightAhead 101 = .ok (.iconst 3, 1) := by decide +kernel
theorem dX1_lightAhead_102 : decode cX1_lightAhead 102 = .ok (.iload 4, 2) := by decide +kernel
theorem dX1_lightAhead_104 : decode cX1_lightAhead 104 = .ok (.invokevirtual 55, 3) := by decide +kernel
theorem dX1_lightAhead_107 : decode cX1_lightAhead 107 = .ok (.aload_n 0, 1) := by decide +kernel
theorem dX1_lightAhead_108 : decode cX1_lightAhead 108 = .ok (.getfield 20, 3) := by decide +kernel
theorem dX1_lightAhead_111 : decode cX1_lightAhead 111 = .ok (.iconst 4, 1) := by decide +kernel
theorem dX1_lightAhead_112 : decode cX1_lightAhead 112 = .ok (.aload_n 1, 1) := by decide +kernel
theorem dX1_lightAhead_113 : decode cX1_lightAhead 113 = .ok (.sipush 144, 3) := by decide +kernel
theorem dX1_lightAhead_116 : decode cX1_lightAhead 116 = .ok (.invokevirtual 43, 3) := by decide +kernel
theorem dX1_lightAhead_119 : decode cX1_lightAhead 119 = .ok (.bipush 100, 2) := by decide +kernel
theorem dX1_lightAhead_121 : decode cX1_lightAhead 121 = .ok (.irem, 1) := by decide +kernel
theorem dX1_lightAhead_122 : decode cX1_lightAhead 122 = .ok (.invokevirtual 55, 3) := by decide +kernel
theorem dX1_lightAhead_125 : decode cX1_lightAhead 125 = .ok (.aload_n 0, 1) := by decide +kernel
theorem dX1_lightAhead_126 : decode cX1_lightAhead 126 = .ok (.getfield 20, 3) := by decide +kernel
theorem dX1_lightAhead_129 : decode cX1_lightAhead 129 = .ok (.iconst 5, 1) := by decide +kernel
theorem dX1_lightAhead_130 : decode cX1_lightAhead 130 = .ok (.aload_n 1, 1) := by decide +kernel
theorem dX1_lightAhead_131 : decode cX1_lightAhead 131 = .ok (.invokevirtual 59, 3) := by decide +kernel
theorem dX1_lightAhead_134 : decode cX1_lightAhead 134 = .ok (.invokevirtual 55, 3) := by decide +kernel
theorem dX1_lightAhead_137 : decode cX1_lightAhead 137 = .ok (.aload_n 0, 1) := by decide +kernel
theorem dX1_lightAhead_138 : decode cX1_lightAhead 138 = .ok (.getfield 29, 3) := by decide +kernel
theorem dX1_lightAhead_141 : decode cX1_lightAhead 141 = .ok (.aload_n 0, 1) := by decide +kernel
theorem dX1_lightAhead_142 : decode cX1_lightAhead 142 = .ok (.getfield 20, 3) := by decide +kernel
theorem dX1_lightAhead_145 : decode cX1_lightAhead 145 = .ok (.aload_n 0, 1) := by decide +kernel
theorem dX1_lightAhead_146 : decode cX1_lightAhead 146 = .ok (.getfield 26, 3) := by decide +kernel
theorem dX1_lightAhead_149 : decode cX1_lightAhead 149 = .ok (.invokevirtual 63, 3) := by decide +kernel
theorem dX1_lightAhead_152 : decode cX1_lightAhead 152 = .ok (.istore 7, 2) := by decide +kernel
theorem dX1_lightAhead_154 : decode cX1_lightAhead 154 = .ok (.iconst 0, 1) := by decide +kernel
theorem dX1_lightAhead_155 : decode cX1_lightAhead 155 = .ok (.bipush 99, 2) := by decide +kernel
theorem dX1_lightAhead_157 : decode cX1_lightAhead 157 = .ok (.iload 7, 2) := by decide +kernel
theorem dX1_lightAhead_159 : decode cX1_lightAhead 159 = .ok (.invokestatic 67, 3) := by decide +kernel
theorem dX1_lightAhead_162 : decode cX1_lightAhead 162 = .ok (.invokestatic 71, 3) := by decide +kernel
theorem dX1_lightAhead_165 : decode cX1_lightAhead 165 = .ok (.istore 8, 2) := by decide +kernel
theorem dX1_lightAhead_167 : decode cX1_lightAhead 167 = .ok (.iload 5, 2) := by decide +kernel
theorem dX1_lightAhead_169 : decode cX1_lightAhead 169 = .ok (.ifCond .eq 23, 3) := by decide +kernel
theorem dX1_lightAhead_172 : decode cX1_lightAhead 172 = .ok (.bipush 99, 2) := by decide +kernel
theorem dX1_lightAhead_174 : decode cX1_lightAhead 174 = .ok (.iload 8, 2) := by decide +kernel
theorem dX1_lightAhead_176 : decode cX1_lightAhead 176 = .ok (.iconst 2, 1) := by decide +kernel
theorem dX1_lightAhead_177 : decode cX1_lightAhead 177 = .ok (.aload_n 1, 1) := by decide +kernel
theorem dX1_lightAhead_178 : decode cX1_lightAhead 178 = .ok (.sipush 141, 3) := by decide +kernel
theorem dX1_lightAhead_181 : decode cX1_lightAhead 181 = .ok (.invokevirtual 43, 3) := by decide +kernel
theorem dX1_lightAhead_184 : decode cX1_lightAhead 184 = .ok (.imul, 1) := by decide +kernel
theorem dX1_lightAhead_185 : decode cX1_lightAhead 185 = .ok (.iadd, 1) := by decide +kernel
theorem dX1_lightAhead_186 : decode cX1_lightAhead 186 = .ok (.invokestatic 67, 3) := by decide +kernel
theorem dX1_lightAhead_189 : decode cX1_lightAhead 189 = .ok (.goto 5, 3) := by decide +kernel
theorem dX1_lightAhead_192 : decode cX1_lightAhead 192 = .ok (.iload 8, 2) := by decide +kernel
theorem dX1_lightAhead_194 : decode cX1_lightAhead 194 = .ok (.ireturn, 1) := by decide +kernel
theorem dX1_lightOf_0 : decode cX1_lightOf 0 = .ok (.iload_n 2, 1) := by decide +kernel
theorem dX1_lightOf_1 : decode cX1_lightOf 1 = .ok (.aload_n 1, 1) := by decide +kernel
theorem dX1_lightOf_2 : decode cX1_lightOf 2 = .ok (.sipush 145, 3) := by decide +kernel
theorem dX1_lightOf_5 : decode cX1_lightOf 5 = .ok (.invokevirtual 43, 3) := by decide +kernel
theorem dX1_lightOf_8 : decode cX1_lightOf 8 = .ok (.if_icmp .ge 14, 3) := by decide +kernel
theorem dX1_lightOf_11 : decode cX1_lightOf 11 = .ok (.aload_n 1, 1) := by decide +kernel
theorem dX1_lightOf_12 : decode cX1_lightOf 12 = .ok (.bipush 18, 2) := by decide +kernel
theorem dX1_lightOf_14 : decode cX1_lightOf 14 = .ok (.iload_n 2, 1) := by decide +kernel
theorem dX1_lightOf_15 : decode cX1_lightOf 15 = .ok (.iadd, 1) := by decide +kernel
theorem dX1_lightOf_16 : decode cX1_lightOf 16 = .ok (.invokevirtual 43, 3) := by decide +kernel
theorem dX1_lightOf_19 : decode cX1_lightOf 19 = .ok (.goto 27, 3) := by decide +kernel
theorem dX1_lightOf_22 : decode cX1_lightOf 22 = .ok (.aload_n 0, 1) := by decide +kernel
theorem dX1_lightOf_23 : decode cX1_lightOf 23 = .ok (.aload_n 1, 1) := by decide +kernel
theorem dX1_lightOf_24 : decode cX1_lightOf 24 = .ok (.iload_n 2, 1) := by decide +kernel
theorem dX1_lightOf_25 : decode cX1_lightOf 25 = .ok (.aload_n 1, 1) := by decide +kernel
theorem dX1_lightOf_26 : decode cX1_lightOf 26 = .ok (.sipush 139, 3) := by decide +kernel
theorem dX1_lightOf_29 : decode cX1_lightOf 29 = .ok (.invokevirtual 43, 3) := by decide +kernel
theorem dX1_lightOf_32 : decode cX1_lightOf 32 = .ok (.aload_n 1, 1) := by decide +kernel
theorem dX1_lightOf_33 : decode cX1_lightOf 33 = .ok (.aload_n 0, 1) := by decide +kernel
theorem dX1_lightOf_34 : decode cX1_lightOf 34 = .ok (.getfield 37, 3) := by decide +kernel
theorem dX1_lightOf_37 : decode cX1_lightOf 37 = .ok (.invokevirtual 74, 3) := by decide +kernel
theorem dX1_lightOf_40 : decode cX1_lightOf 40 = .ok (.invokevirtual 77, 3) := by decide +kernel
theorem dX1_lightOf_43 : decode cX1_lightOf 43 = .ok (.invokevirtual 80, 3) := by decide +kernel
theorem dX1_lightOf_46 : decode cX1_lightOf 46 = .ok (.ireturn, 1) := by decide +kernel
theorem dX1_rulerOf_0 : decode cX1_rulerOf 0 = .ok (.aload_n 1, 1) := by decide +kernel
theorem dX1_rulerOf_1 : decode cX1_rulerOf 1 = .ok (.invokevirtual 84, 3) := by decide +kernel
theorem dX1_rulerOf_4 : decode cX1_rulerOf 4 = .ok (.istore_n 3, 1) := by decide +kernel
theorem dX1_rulerOf_5 : decode cX1_rulerOf 5 = .ok (.iload_n 3, 1) := by decide +kernel
theorem dX1_rulerOf_6 : decode cX1_rulerOf 6 = .ok (.iconst (-1), 1) := by decide +kernel
theorem dX1_rulerOf_7 : decode cX1_rulerOf 7 = .ok (.if_icmp .ne 8, 3) := by decide +kernel
theorem dX1_rulerOf_10 : decode cX1_rulerOf 10 = .ok (.bipush 100, 2) := by decide +kernel
theorem dX1_rulerOf_12 : decode cX1_rulerOf 12 = .ok (.goto 11, 3) := by decide +kernel
theorem dX1_rulerOf_15 : decode cX1_rulerOf 15 = .ok (.aload_n 1, 1) := by decide +kernel
theorem dX1_rulerOf_16 : decode cX1_rulerOf 16 = .ok (.bipush 18, 2) := by decide +kernel
theorem dX1_rulerOf_18 : decode cX1_rulerOf 18 = .ok (.iload_n 3, 1) := by decide +kernel
theorem dX1_rulerOf_19 : decode cX1_rulerOf 19 = .ok (.iadd, 1) := by decide +kernel
theorem dX1_rulerOf_20 : decode cX1_rulerOf 20 = .ok (.invokevirtual 43, 3) := by decide +kernel
theorem dX1_rulerOf_23 : decode cX1_rulerOf 23 = .ok (.istore 4, 2) := by decide +kernel
theorem dX1_rulerOf_25 : decode cX1_rulerOf 25 = .ok (.aload_n 1, 1) := by decide +kernel
theorem dX1_rulerOf_26 : decode cX1_rulerOf 26 = .ok (.sipush 145, 3) := by decide +kernel
theorem dX1_rulerOf_29 : decode cX1_rulerOf 29 = .ok (.invokevirtual 43, 3) := by decide +kernel
theorem dX1_rulerOf_32 : decode cX1_rulerOf 32 = .ok (.istore 5, 2) := by decide +kernel
theorem dX1_rulerOf_34 : decode cX1_rulerOf 34 = .ok (.iload 5, 2) := by decide +kernel
theorem dX1_rulerOf_36 : decode cX1_rulerOf 36 = .ok (.aload_n 0, 1) := by decide +kernel
theorem dX1_rulerOf_37 : decode cX1_rulerOf 37 = .ok (.getfield 37, 3) := by decide +kernel
theorem dX1_rulerOf_40 : decode cX1_rulerOf 40 = .ok (.iconst 0, 1) := by decide +kernel
theorem dX1_rulerOf_41 : decode cX1_rulerOf 41 = .ok (.invokevirtual 49, 3) := by decide +kernel
theorem dX1_rulerOf_44 : decode cX1_rulerOf 44 = .ok (.if_icmp .ge 40, 3) := by decide +kernel
theorem dX1_rulerOf_47 : decode cX1_rulerOf 47 = .ok (.aload_n 0, 1) := by decide +kernel
theorem dX1_rulerOf_48 : decode cX1_rulerOf 48 = .ok (.aload_n 1, 1) := by decide +kernel
theorem dX1_rulerOf_49 : decode cX1_rulerOf 49 = .ok (.iload 5, 2) := by decide +kernel
theorem dX1_rulerOf_51 : decode cX1_rulerOf 51 = .ok (.aload_n 1, 1) := by decide +kernel
theorem dX1_rulerOf_52 : decode cX1_rulerOf 52 = .ok (.sipush 139, 3) := by decide +kernel
theorem dX1_rulerOf_55 : decode cX1_rulerOf 55 = .ok (.invokevirtual 43, 3) := by decide +kernel
theorem dX1_rulerOf_58 : decode cX1_rulerOf 58 = .ok (.iload_n 2, 1) := by decide +kernel
theorem dX1_rulerOf_59 : decode cX1_rulerOf 59 = .ok (.invokevirtual 80, 3) := by decide +kernel
theorem dX1_rulerOf_62 : decode cX1_rulerOf 62 = .ok (.istore 6, 2) := by decide +kernel
theorem dX1_rulerOf_64 : decode cX1_rulerOf 64 = .ok (.iload 6, 2) := by decide +kernel
theorem dX1_rulerOf_66 : decode cX1_rulerOf 66 = .ok (.iload 4, 2) := by decide +kernel
theorem dX1_rulerOf_68 : decode cX1_rulerOf 68 = .ok (.if_icmp .ge 10, 3) := by decide +kernel
theorem dX1_rulerOf_71 : decode cX1_rulerOf 71 = .ok (.iload 6, 2) := by decide +kernel
theorem dX1_rulerOf_73 : decode cX1_rulerOf 73 = .ok (.istore 4, 2) := by decide +kernel
theorem dX1_rulerOf_75 : decode cX1_rulerOf 75 = .ok (.iload 5, 2) := by decide +kernel
theorem dX1_rulerOf_77 : decode cX1_rulerOf 77 = .ok (.istore_n 3, 1) := by decide +kernel
theorem dX1_rulerOf_78 : decode cX1_rulerOf 78 = .ok (.iinc 5 1, 3) := by decide +kernel
theorem dX1_rulerOf_81 : decode cX1_rulerOf 81 = .ok (.goto (-47), 3) := by decide +kernel
theorem dX1_rulerOf_84 : decode cX1_rulerOf 84 = .ok (.iload_n 3, 1) := by decide +kernel
theorem dX1_rulerOf_85 : decode cX1_rulerOf 85 = .ok (.ireturn, 1) := by decide +kernel
theorem dX1_idle_0 : decode cX1_idle 0 = .ok (.aload_n 0, 1) := by decide +kernel
theorem dX1_idle_1 : decode cX1_idle 1 = .ok (.aload_n 1, 1) := by decide +kernel
theorem dX1_idle_2 : decode cX1_idle 2 = .ok (.aload_n 1, 1) := by decide +kernel
theorem dX1_idle_3 : decode cX1_idle 3 = .ok (.sipush 145, 3) := by decide +kernel
theorem dX1_idle_6 : decode cX1_idle 6 = .ok (.invokevirtual 43, 3) := by decide +kernel
theorem dX1_idle_9 : decode cX1_idle 9 = .ok (.invokevirtual 87, 3) := by decide +kernel
theorem dX1_idle_12 : decode cX1_idle 12 = .ok (.istore_n 2, 1) := by decide +kernel
theorem dX1_idle_13 : decode cX1_idle 13 = .ok (.iconst 0, 1) := by decide +kernel
theorem dX1_idle_14 : decode cX1_idle 14 = .ok (.istore_n 3, 1) := by decide +kernel
theorem dX1_idle_15 : decode cX1_idle 15 = .ok (.iconst 0, 1) := by decide +kernel
theorem dX1_idle_16 : decode cX1_idle 16 = .ok (.istore 4, 2) := by decide +kernel
theorem dX1_idle_18 : decode cX1_idle 18 = .ok (.iload 4, 2) := by decide +kernel
theorem dX1_idle_20 : decode cX1_idle 20 = .ok (.aload_n 0, 1) := by decide +kernel
theorem dX1_idle_21 : decode cX1_idle 21 = .ok (.getfield 37, 3) := by decide +kernel
theorem dX1_idle_24 : decode cX1_idle 24 = .ok (.invokevirtual 74, 3) := by decide +kernel
theorem dX1_idle_27 : decode cX1_idle 27 = .ok (.if_icmp .ge 63, 3) := by decide +kernel
theorem dX1_idle_30 : decode cX1_idle 30 = .ok (.iload_n 2, 1) := by decide +kernel
theorem dX1_idle_31 : decode cX1_idle 31 = .ok (.aload_n 0, 1) := by decide +kernel
theorem dX1_idle_32 : decode cX1_idle 32 = .ok (.getfield 37, 3) := by decide +kernel
theorem dX1_idle_35 : decode cX1_idle 35 = .ok (.bipush 9, 2) := by decide +kernel
theorem dX1_idle_37 : decode cX1_idle 37 = .ok (.aload_n 1, 1) := by decide +kernel
theorem dX1_idle_38 : decode cX1_idle 38 = .ok (.iconst 0, 1) := by decide +kernel
theorem dX1_idle_39 : decode cX1_idle 39 = .ok (.iload 4, 2) := by decide +kernel
theorem dX1_idle_41 : decode cX1_idle 41 = .ok (.iadd, 1) := by decide +kernel
theorem dX1_idle_42 : decode cX1_idle 42 = .ok (.invokevirtual 43, 3) := by decide +kernel
theorem dX1_idle_45 : decode cX1_idle 45 = .ok (.iadd, 1) := by decide +kernel
theorem dX1_idle_46 : decode cX1_idle 46 = .ok (.invokevirtual 49, 3) := by decide +kernel
theorem dX1_idle_49 : decode cX1_idle 49 = .ok (.if_icmp .ge 7, 3) := by decide +kernel
theorem dX1_idle_52 : decode cX1_idle 52 = .ok (.iconst 1, 1) := by decide +kernel
theorem dX1_idle_53 : decode cX1_idle 53 = .ok (.goto 4, 3) := by decide +kernel
theorem dX1_idle_56 : decode cX1_idle 56 = .ok (.iconst 0, 1) := by decide +kernel
theorem dX1_idle_57 : decode cX1_idle 57 = .ok (.istore 5, 2) := by decide +kernel
theorem dX1_idle_59 : decode cX1_idle 59 = .ok (.iload_n 3, 1) := by decide +kernel
theorem dX1_idle_60 : decode cX1_idle 60 = .ok (.iload 5, 2) := by decide +kernel
theorem dX1_idle_62 : decode cX1_idle 62 = .ok (.ifCond .eq 19, 3) := by decide +kernel
theorem dX1_idle_65 : decode cX1_idle 65 = .ok (.aload_n 1, 1) := by decide +kernel
theorem dX1_idle_66 : decode cX1_idle 66 = .ok (.iload 4, 2) := by decide +kernel
theorem dX1_idle_68 : decode cX1_idle 68 = .ok (.invokevirtual 91, 3) := by decide +kernel
theorem dX1_idle_71 : decode cX1_idle 71 = .ok (.ifCond .ne 10, 3) := by decide +kernel
theorem dX1_idle_74 : decode cX1_idle 74 = .ok (.iconst 1, 1) := by decide +kernel
theorem dX1_idle_75 : decode cX1_idle 75 = .ok (.iload 4, 2) := by decide +kernel
theorem dX1_idle_77 : decode cX1_idle 77 = .ok (.ishl, 1) := by decide +kernel
theorem dX1_idle_78 : decode cX1_idle 78 = .ok (.goto 4, 3) := by decide +kernel
theorem dX1_idle_81 : decode cX1_idle 81 = .ok (.iconst 0, 1) := by decide +kernel
theorem dX1_idle_82 : decode cX1_idle 82 = .ok (.ior, 1) := by decide +kernel
theorem dX1_idle_83 : decode cX1_idle 83 = .ok (.istore_n 3, 1) := by decide +kernel
theorem dX1_idle_84 : decode cX1_idle 84 = .ok (.iinc 4 1, 3) := by decide +kernel
theorem dX1_idle_87 : decode cX1_idle 87 = .ok (.goto (-69), 3) := by decide +kernel
theorem dX1_idle_90 : decode cX1_idle 90 = .ok (.iload_n 3, 1) := by decide +kernel
theorem dX1_idle_91 : decode cX1_idle 91 = .ok (.ireturn, 1) := by decide +kernel
theorem dX1_doersOf_0 : decode cX1_doersOf 0 = .ok (.iconst 0, 1) := by decide +kernel
theorem dX1_doersOf_1 : decode cX1_doersOf 1 = .ok (.istore_n 2, 1) := by decide +kernel
theorem dX1_doersOf_2 : decode cX1_doersOf 2 = .ok (.iconst 0, 1) := by decide +kernel
theorem dX1_doersOf_3 : decode cX1_doersOf 3 = .ok (.istore_n 3, 1) := by decide +kernel
theorem dX1_doersOf_4 : decode cX1_doersOf 4 = .ok (.iload_n 3, 1) := by decide +kernel
theorem dX1_doersOf_5 : decode cX1_doersOf 5 = .ok (.bipush 6, 2) := by decide +kernel
theorem dX1_doersOf_7 : decode cX1_doersOf 7 = .ok (.if_icmp .ge 33, 3) := by decide +kernel
theorem dX1_doersOf_10 : decode cX1_doersOf 10 = .ok (.iload_n 2, 1) := by decide +kernel
theorem dX1_doersOf_11 : decode cX1_doersOf 11 = .ok (.iload_n 0, 1) := by decide +kernel
theorem dX1_doersOf_12 : decode cX1_doersOf 12 = .ok (.iconst 3, 1) := by decide +kernel
theorem dX1_doersOf_13 : decode cX1_doersOf 13 = .ok (.iload_n 3, 1) := by decide +kernel
theorem dX1_doersOf_14 : decode cX1_doersOf 14 = .ok (.imul, 1) := by decide +kernel
theorem dX1_doersOf_15 : decode cX1_doersOf 15 = .ok (.ishr, 1) := by decide +kernel
theorem dX1_doersOf_16 : decode cX1_doersOf 16 = .ok (.bipush 7, 2) := by decide +kernel
theorem dX1_doersOf_18 : decode cX1_doersOf 18 = .ok (.iand, 1) := by decide +kernel
theorem dX1_doersOf_19 : decode cX1_doersOf 19 = .ok (.iload_n 1, 1) := by decide +kernel
theorem dX1_doersOf_20 : decode cX1_doersOf 20 = .ok (.iconst 1, 1) := by decide +kernel
theorem dX1_doersOf_21 : decode cX1_doersOf 21 = .ok (.iadd, 1) := by decide +kernel
theorem dX1_doersOf_22 : decode cX1_doersOf 22 = .ok (.if_icmp .ne 9, 3) := by decide +kernel
theorem dX1_doersOf_25 : decode cX1_doersOf 25 = .ok (.iconst 1, 1) := by decide +kernel
theorem dX1_doersOf_26 : decode cX1_doersOf 26 = .ok (.iload_n 3, 1) := by decide +kernel
theorem dX1_doersOf_27 : decode cX1_doersOf 27 = .ok (.ishl, 1) := by decide +kernel
theorem dX1_doersOf_28 : decode cX1_doersOf 28 = .ok (.goto 4, 3) := by decide +kernel
theorem dX1_doersOf_31 : decode cX1_doersOf 31 = .ok (.iconst 0, 1) := by decide +kernel
theorem dX1_doersOf_32 : decode cX1_doersOf 32 = .ok (.ior, 1) := by decide +kernel
theorem dX1_doersOf_33 : decode cX1_doersOf 33 = .ok (.istore_n 2, 1) := by decide +kernel
theorem dX1_doersOf_34 : decode cX1_doersOf 34 = .ok (.iinc 3 1, 3) := by decide +kernel
theorem dX1_doersOf_37 : decode cX1_doersOf 37 = .ok (.goto (-33), 3) := by decide +kernel
theorem dX1_doersOf_40 : decode cX1_doersOf 40 = .ok (.iload_n 2, 1) := by decide +kernel
theorem dX1_doersOf_41 : decode cX1_doersOf 41 = .ok (.ireturn, 1) := by decide +kernel
theorem dX1_doingsNow_0 : decode cX1_doingsNow 0 = .ok (.iconst 0, 1) := by decide +kernel
theorem dX1_doingsNow_1 : decode cX1_doingsNow 1 = .ok (.istore_n 2, 1) := by decide +kernel
theorem dX1_doingsNow_2 : decode cX1_doingsNow 2 = .ok (.iconst 0, 1) := by decide +kernel
theorem dX1_doingsNow_3 : decode cX1_doingsNow 3 = .ok (.istore_n 3, 1) := by decide +kernel
theorem dX1_doingsNow_4 : decode cX1_doingsNow 4 = .ok (.iload_n 3, 1) := by decide +kernel
theorem dX1_doingsNow_5 : decode cX1_doingsNow 5 = .ok (.aload_n 0, 1) := by decide +kernel
theorem dX1_doingsNow_6 : decode cX1_doingsNow 6 = .ok (.getfield 37, 3) := by decide +kernel
theorem dX1_doingsNow_9 : decode cX1_doingsNow 9 = .ok (.invokevirtual 74, 3) := by decide +kernel
theorem dX1_doingsNow_12 : decode cX1_doingsNow 12 = .ok (.if_icmp .ge 37, 3) := by decide +kernel
theorem dX1_doingsNow_15 : decode cX1_doingsNow 15 = .ok (.iload_n 2, 1) := by decide +kernel
theorem dX1_doingsNow_16 : decode cX1_doingsNow 16 = .ok (.aload_n 1, 1) := by decide +kernel
theorem dX1_doingsNow_17 : decode cX1_doingsNow 17 = .ok (.iload_n 3, 1) := by decide +kernel
theorem dX1_doingsNow_18 : decode cX1_doingsNow 18 = .ok (.invokevirtual 91, 3) := by decide +kernel
theorem dX1_doingsNow_21 : decode cX1_doingsNow 21 = .ok (.ifCond .eq 7, 3) := by decide +kernel
theorem dX1_doingsNow_24 : decode cX1_doingsNow 24 = .ok (.iconst 0, 1) := by decide +kernel
theorem dX1_doingsNow_25 : decode cX1_doingsNow 25 = .ok (.goto 16, 3) := by decide +kernel
theorem dX1_doingsNow_28 : decode cX1_doingsNow 28 = .ok (.aload_n 1, 1) := by decide +kernel
theorem dX1_doingsNow_29 : decode cX1_doingsNow 29 = .ok (.iconst 0, 1) := by decide +kernel
theorem dX1_doingsNow_30 : decode cX1_doingsNow 30 = .ok (.iload_n 3, 1) := by decide +kernel
theorem dX1_doingsNow_31 : decode cX1_doingsNow 31 = .ok (.iadd, 1) := by decide +kernel
theorem dX1_doingsNow_32 : decode cX1_doingsNow 32 = .ok (.invokevirtual 43, 3) := by decide +kernel
theorem dX1_doingsNow_35 : decode cX1_doingsNow 35 = .ok (.iconst 1, 1) := by decide +kernel
theorem dX1_doingsNow_36 : decode cX1_doingsNow 36 = .ok (.iadd, 1) := by decide +kernel
theorem dX1_doingsNow_37 : decode cX1_doingsNow 37 = .ok (.iconst 3, 1) := by decide +kernel
theorem dX1_doingsNow_38 : decode cX1_doingsNow 38 = .ok (.iload_n 3, 1) := by decide +kernel
theorem dX1_doingsNow_39 : decode cX1_doingsNow 39 = .ok (.imul, 1) := by decide +kernel
theorem dX1_doingsNow_40 : decode cX1_doingsNow 40 = .ok (.ishl, 1) := by decide +kernel
theorem dX1_doingsNow_41 : decode cX1_doingsNow 41 = .ok (.ior, 1) := by decide +kernel
theorem dX1_doingsNow_42 : decode cX1_doingsNow 42 = .ok (.istore_n 2, 1) := by decide +kernel
theorem dX1_doingsNow_43 : decode cX1_doingsNow 43 = .ok (.iinc 3 1, 3) := by decide +kernel
theorem dX1_doingsNow_46 : decode cX1_doingsNow 46 = .ok (.goto (-42), 3) := by decide +kernel
theorem dX1_doingsNow_49 : decode cX1_doingsNow 49 = .ok (.iload_n 2, 1) := by decide +kernel
theorem dX1_doingsNow_50 : decode cX1_doingsNow 50 = .ok (.ireturn, 1) := by decide +kernel
theorem dX1_doingsOn_0 : decode cX1_doingsOn 0 = .ok (.iload_n 2, 1) := by decide +kernel
theorem dX1_doingsOn_1 : decode cX1_doingsOn 1 = .ok (.aload_n 1, 1) := by decide +kernel
theorem dX1_doingsOn_2 : decode cX1_doingsOn 2 = .ok (.sipush 145, 3) := by decide +kernel
theorem dX1_doingsOn_5 : decode cX1_doingsOn 5 = .ok (.invokevirtual 43, 3) := by decide +kernel
theorem dX1_doingsOn_8 : decode cX1_doingsOn 8 = .ok (.if_icmp .ge 14, 3) := by decide +kernel
theorem dX1_doingsOn_11 : decode cX1_doingsOn 11 = .ok (.aload_n 1, 1) := by decide +kernel
theorem dX1_doingsOn_12 : decode cX1_doingsOn 12 = .ok (.bipush 48, 2) := by decide +kernel
theorem dX1_doingsOn_14 : decode cX1_doingsOn 14 = .ok (.iload_n 2, 1) := by decide +kernel
theorem dX1_doingsOn_15 : decode cX1_doingsOn 15 = .ok (.iadd, 1) := by decide +kernel
theorem dX1_doingsOn_16 : decode cX1_doingsOn 16 = .ok (.invokevirtual 43, 3) := by decide +kernel
theorem dX1_doingsOn_19 : decode cX1_doingsOn 19 = .ok (.goto 8, 3) := by decide +kernel
theorem dX1_doingsOn_22 : decode cX1_doingsOn 22 = .ok (.aload_n 0, 1) := by decide +kernel
theorem dX1_doingsOn_23 : decode cX1_doingsOn 23 = .ok (.aload_n 1, 1) := by decide +kernel
theorem dX1_doingsOn_24 : decode cX1_doingsOn 24 = .ok (.invokevirtual 95, 3) := by decide +kernel
theorem dX1_doingsOn_27 : decode cX1_doingsOn 27 = .ok (.ireturn, 1) := by decide +kernel
theorem dX1_governorBy_0 : decode cX1_governorBy 0 = .ok (.iconst (-1), 1) := by decide +kernel
theorem dX1_governorBy_1 : decode cX1_governorBy 1 = .ok (.istore_n 2, 1) := by decide +kernel
theorem dX1_governorBy_2 : decode cX1_governorBy 2 = .ok (.iconst 0, 1) := by decide +kernel
theorem dX1_governorBy_3 : decode cX1_governorBy 3 = .ok (.istore_n 3, 1) := by decide +kernel
theorem dX1_governorBy_4 : decode cX1_governorBy 4 = .ok (.iconst 0, 1) := by decide +kernel
theorem dX1_governorBy_5 : decode cX1_governorBy 5 = .ok (.istore 4, 2) := by decide +kernel
theorem dX1_governorBy_7 : decode cX1_governorBy 7 = .ok (.iload 4, 2) := by decide +kernel
theorem dX1_governorBy_9 : decode cX1_governorBy 9 = .ok (.aload_n 0, 1) := by decide +kernel
theorem dX1_governorBy_10 : decode cX1_governorBy 10 = .ok (.getfield 37, 3) := by decide +kernel
theorem dX1_governorBy_13 : decode cX1_governorBy 13 = .ok (.bipush 34, 2) := by decide +kernel
theorem dX1_governorBy_15 : decode cX1_governorBy 15 = .ok (.invokevirtual 49, 3) := by decide +kernel
theorem dX1_governorBy_18 : decode cX1_governorBy 18 = .ok (.if_icmp .ge 32, 3) := by decide +kernel
theorem dX1_governorBy_21 : decode cX1_governorBy 21 = .ok (.iload_n 1, 1) := by decide +kernel
theorem dX1_governorBy_22 : decode cX1_governorBy 22 = .ok (.iload 4, 2) := by decide +kernel
theorem dX1_governorBy_24 : decode cX1_governorBy 24 = .ok (.invokestatic 99, 3) := by decide +kernel
theorem dX1_governorBy_27 : decode cX1_governorBy 27 = .ok (.invokestatic 102, 3) := by decide +kernel
theorem dX1_governorBy_30 : decode cX1_governorBy 30 = .ok (.istore 5, 2) := by decide +kernel
theorem dX1_governorBy_32 : decode cX1_governorBy 32 = .ok (.iload 5, 2) := by decide +kernel
theorem dX1_governorBy_34 : decode cX1_governorBy 34 = .ok (.iload_n 3, 1) := by decide +kernel
theorem dX1_governorBy_35 : decode cX1_governorBy 35 = .ok (.if_icmp .le 9, 3) := by decide +kernel
theorem dX1_governorBy_38 : decode cX1_governorBy 38 = .ok (.iload 5, 2) := by decide +kernel
theorem dX1_governorBy_40 : decode cX1_governorBy 40 = .ok (.istore_n 3, 1) := by decide +kernel
theorem dX1_governorBy_41 : decode cX1_governorBy 41 = .ok (.iload 4, 2) := by decide +kernel
theorem dX1_governorBy_43 : decode cX1_governorBy 43 = .ok (.istore_n 2, 1) := by decide +kernel
theorem dX1_governorBy_44 : decode cX1_governorBy 44 = .ok (.iinc 4 1, 3) := by decide +kernel
theorem dX1_governorBy_47 : decode cX1_governorBy 47 = .ok (.goto (-40), 3) := by decide +kernel
theorem dX1_governorBy_50 : decode cX1_governorBy 50 = .ok (.iload_n 2, 1) := by decide +kernel
theorem dX1_governorBy_51 : decode cX1_governorBy 51 = .ok (.ireturn, 1) := by decide +kernel
theorem dX1_passDay_0 : decode cX1_passDay 0 = .ok (.aload_n 1, 1) := by decide +kernel
theorem dX1_passDay_1 : decode cX1_passDay 1 = .ok (.sipush 145, 3) := by decide +kernel
theorem dX1_passDay_4 : decode cX1_passDay 4 = .ok (.invokevirtual 43, 3) := by decide +kernel
theorem dX1_passDay_7 : decode cX1_passDay 7 = .ok (.istore_n 2, 1) := by decide +kernel
theorem dX1_passDay_8 : decode cX1_passDay 8 = .ok (.aload_n 0, 1) := by decide +kernel
theorem dX1_passDay_9 : decode cX1_passDay 9 = .ok (.aload_n 1, 1) := by decide +kernel
theorem dX1_passDay_10 : decode cX1_passDay 10 = .ok (.iload_n 2, 1) := by decide +kernel
theorem dX1_passDay_11 : decode cX1_passDay 11 = .ok (.aload_n 1, 1) := by decide +kernel
theorem dX1_passDay_12 : decode cX1_passDay 12 = .ok (.sipush 139, 3) := by decide +kernel
theorem dX1_passDay_15 : decode cX1_passDay 15 = .ok (.invokevirtual 43, 3) := by decide +kernel
theorem dX1_passDay_18 : decode cX1_passDay 18 = .ok (.aload_n 1, 1) := by decide +kernel
theorem dX1_passDay_19 : decode cX1_passDay 19 = .ok (.aload_n 0, 1) := by decide +kernel
theorem dX1_passDay_20 : decode cX1_passDay 20 = .ok (.getfield 37, 3) := by decide +kernel
theorem dX1_passDay_23 : decode cX1_passDay 23 = .ok (.invokevirtual 74, 3) := by decide +kernel
theorem dX1_passDay_26 : decode cX1_passDay 26 = .ok (.invokevirtual 77, 3) := by decide +kernel
theorem dX1_passDay_29 : decode cX1_passDay 29 = .ok (.invokevirtual 80, 3) := by decide +kernel
theorem dX1_passDay_32 : decode cX1_passDay 32 = .ok (.istore_n 3, 1) := by decide +kernel
theorem dX1_passDay_33 : decode cX1_passDay 33 = .ok (.aload_n 1, 1) := by decide +kernel
theorem dX1_passDay_34 : decode cX1_passDay 34 = .ok (.bipush 18, 2) := by decide +kernel
theorem dX1_passDay_36 : decode cX1_passDay 36 = .ok (.iload_n 2, 1) := by decide +kernel
theorem dX1_passDay_37 : decode cX1_passDay 37 = .ok (.iadd, 1) := by decide +kernel
theorem dX1_passDay_38 : decode cX1_passDay 38 = .ok (.iload_n 3, 1) := by decide +kernel
theorem dX1_passDay_39 : decode cX1_passDay 39 = .ok (.invokevirtual 107, 3) := by decide +kernel
theorem dX1_passDay_42 : decode cX1_passDay 42 = .ok (.aload_n 1, 1) := by decide +kernel
theorem dX1_passDay_43 : decode cX1_passDay 43 = .ok (.bipush 48, 2) := by decide +kernel
theorem dX1_passDay_45 : decode cX1_passDay 45 = .ok (.iload_n 2, 1) := by decide +kernel
theorem dX1_passDay_46 : decode cX1_passDay 46 = .ok (.iadd, 1) := by decide +kernel
theorem dX1_passDay_47 : decode cX1_passDay 47 = .ok (.aload_n 0, 1) := by decide +kernel
theorem dX1_passDay_48 : decode cX1_passDay 48 = .ok (.aload_n 1, 1) := by decide +kernel
theorem dX1_passDay_49 : decode cX1_passDay 49 = .ok (.invokevirtual 95, 3) := by decide +kernel
theorem dX1_passDay_52 : decode cX1_passDay 52 = .ok (.invokevirtual 107, 3) := by decide +kernel
theorem dX1_passDay_55 : decode cX1_passDay 55 = .ok (.iconst 0, 1) := by decide +kernel
theorem dX1_passDay_56 : decode cX1_passDay 56 = .ok (.istore 4, 2) := by decide +kernel
theorem dX1_passDay_58 : decode cX1_passDay 58 = .ok (.iload 4, 2) := by decide +kernel
theorem dX1_passDay_60 : decode cX1_passDay 60 = .ok (.aload_n 0, 1) := by decide +kernel
theorem dX1_passDay_61 : decode cX1_passDay 61 = .ok (.getfield 37, 3) := by decide +kernel
theorem dX1_passDay_64 : decode cX1_passDay 64 = .ok (.invokevirtual 74, 3) := by decide +kernel
theorem dX1_passDay_67 : decode cX1_passDay 67 = .ok (.if_icmp .ge 26, 3) := by decide +kernel
theorem dX1_passDay_70 : decode cX1_passDay 70 = .ok (.aload_n 1, 1) := by decide +kernel
theorem dX1_passDay_71 : decode cX1_passDay 71 = .ok (.iload 4, 2) := by decide +kernel
theorem dX1_passDay_73 : decode cX1_passDay 73 = .ok (.invokevirtual 91, 3) := by decide +kernel
theorem dX1_passDay_76 : decode cX1_passDay 76 = .ok (.ifCond .ne 11, 3) := by decide +kernel
theorem dX1_passDay_79 : decode cX1_passDay 79 = .ok (.aload_n 0, 1) := by decide +kernel
theorem dX1_passDay_80 : decode cX1_passDay 80 = .ok (.aload_n 1, 1) := by decide +kernel
theorem dX1_passDay_81 : decode cX1_passDay 81 = .ok (.iload 4, 2) := by decide +kernel
theorem dX1_passDay_83 : decode cX1_passDay 83 = .ok (.iload_n 3, 1) := by decide +kernel
theorem dX1_passDay_84 : decode cX1_passDay 84 = .ok (.invokevirtual 108, 3) := by decide +kernel
theorem dX1_passDay_87 : decode cX1_passDay 87 = .ok (.iinc 4 1, 3) := by decide +kernel
theorem dX1_passDay_90 : decode cX1_passDay 90 = .ok (.goto (-32), 3) := by decide +kernel
theorem dX1_passDay_93 : decode cX1_passDay 93 = .ok (.aload_n 1, 1) := by decide +kernel
theorem dX1_passDay_94 : decode cX1_passDay 94 = .ok (.sipush 140, 3) := by decide +kernel
theorem dX1_passDay_97 : decode cX1_passDay 97 = .ok (.iconst 0, 1) := by decide +kernel
theorem dX1_passDay_98 : decode cX1_passDay 98 = .ok (.invokevirtual 107, 3) := by decide +kernel
theorem dX1_passDay_101 : decode cX1_passDay 101 = .ok (.aload_n 1, 1) := by decide +kernel
theorem dX1_passDay_102 : decode cX1_passDay 102 = .ok (.sipush 141, 3) := by decide +kernel
theorem dX1_passDay_105 : decode cX1_passDay 105 = .ok (.iconst 0, 1) := by decide +kernel
theorem dX1_passDay_106 : decode cX1_passDay 106 = .ok (.invokevirtual 107, 3) := by decide +kernel
theorem dX1_passDay_109 : decode cX1_passDay 109 = .ok (.aload_n 1, 1) := by decide +kernel
theorem dX1_passDay_110 : decode cX1_passDay 110 = .ok (.sipush 145, 3) := by decide +kernel
theorem dX1_passDay_113 : decode cX1_passDay 113 = .ok (.iload_n 2, 1) := by decide +kernel
theorem dX1_passDay_114 : decode cX1_passDay 114 = .ok (.iconst 1, 1) := by decide +kernel
theorem dX1_passDay_115 : decode cX1_passDay 115 = .ok (.iadd, 1) := by decide +kernel
theorem dX1_passDay_116 : decode cX1_passDay 116 = .ok (.invokevirtual 107, 3) := by decide +kernel
theorem dX1_passDay_119 : decode cX1_passDay 119 = .ok (.iload_n 2, 1) := by decide +kernel
theorem dX1_passDay_120 : decode cX1_passDay 120 = .ok (.iconst 1, 1) := by decide +kernel
theorem dX1_passDay_121 : decode cX1_passDay 121 = .ok (.iadd, 1) := by decide +kernel
theorem dX1_passDay_122 : decode cX1_passDay 122 = .ok (.aload_n 0, 1) := by decide +kernel
theorem dX1_passDay_123 : decode cX1_passDay 123 = .ok (.getfield 37, 3) := by decide +kernel
theorem dX1_passDay_126 : decode cX1_passDay 126 = .ok (.iconst 0, 1) := by decide +kernel
theorem dX1_passDay_127 : decode cX1_passDay 127 = .ok (.invokevirtual 49, 3) := by decide +kernel
theorem dX1_passDay_130 : decode cX1_passDay 130 = .ok (.if_icmp .lt 8, 3) := by decide +kernel
theorem dX1_passDay_133 : decode cX1_passDay 133 = .ok (.aload_n 0, 1) := by decide +kernel
theorem dX1_passDay_134 : decode cX1_passDay 134 = .ok (.aload_n 1, 1) := by decide +kernel
theorem dX1_passDay_135 : decode cX1_passDay 135 = .ok (.invokevirtual 112, 3) := by decide +kernel
theorem dX1_passDay_138 : decode cX1_passDay 138 = .ok (.return_, 1) := by decide +kernel
theorem dX1_bringIn_0 : decode cX1_bringIn 0 = .ok (.aload_n 1, 1) := by decide +kernel
theorem dX1_bringIn_1 : decode cX1_bringIn 1 = .ok (.iconst 0, 1) := by decide +kernel
theorem dX1_bringIn_2 : decode cX1_bringIn 2 = .ok (.iload_n 2, 1) := by decide +kernel
theorem dX1_bringIn_3 : decode cX1_bringIn 3 = .ok (.iadd, 1) := by decide +kernel
theorem dX1_bringIn_4 : decode cX1_bringIn 4 = .ok (.invokevirtual 43, 3) := by decide +kernel
theorem dX1_bringIn_7 : decode cX1_bringIn 7 = .ok (.istore 4, 2) := by decide +kernel
theorem dX1_bringIn_9 : decode cX1_bringIn 9 = .ok (.iload_n 3, 1) := by decide +kernel
theorem dX1_bringIn_10 : decode cX1_bringIn 10 = .ok (.aload_n 0, 1) := by decide +kernel
theorem dX1_bringIn_11 : decode cX1_bringIn 11 = .ok (.getfield 37, 3) := by decide +kernel
theorem dX1_bringIn_14 : decode cX1_bringIn 14 = .ok (.bipush 9, 2) := by decide +kernel
theorem dX1_bringIn_16 : decode cX1_bringIn 16 = .ok (.iload 4, 2) := by decide +kernel
theorem dX1_bringIn_18 : decode cX1_bringIn 18 = .ok (.iadd, 1) := by decide +kernel
theorem dX1_bringIn_19 : decode cX1_bringIn 19 = .ok (.invokevirtual 49, 3) := by decide +kernel
theorem dX1_bringIn_22 : decode cX1_bringIn 22 = .ok (.if_icmp .ge 4, 3) := by decide +kernel
theorem dX1_bringIn_25 : decode cX1_bringIn 25 = .ok (.return_, 1) := by decide +kernel
theorem dX1_bringIn_26 : decode cX1_bringIn 26 = .ok (.aload_n 0, 1) := by decide +kernel
theorem dX1_bringIn_27 : decode cX1_bringIn 27 = .ok (.getfield 37, 3) := by decide +kernel
theorem dX1_bringIn_30 : decode cX1_bringIn 30 = .ok (.iconst 3, 1) := by decide +kernel
theorem dX1_bringIn_31 : decode cX1_bringIn 31 = .ok (.iload 4, 2) := by decide +kernel
theorem dX1_bringIn_33 : decode cX1_bringIn 33 = .ok (.iadd, 1) := by decide +kernel
theorem dX1_bringIn_34 : decode cX1_bringIn 34 = .ok (.invokevirtual 49, 3) := by decide +kernel
theorem dX1_bringIn_37 : decode cX1_bringIn 37 = .ok (.aload_n 1, 1) := by decide +kernel
theorem dX1_bringIn_38 : decode cX1_bringIn 38 = .ok (.bipush 12, 2) := by decide +kernel
theorem dX1_bringIn_40 : decode cX1_bringIn 40 = .ok (.iload 4, 2) := by decide +kernel
theorem dX1_bringIn_42 : decode cX1_bringIn 42 = .ok (.iadd, 1) := by decide +kernel
theorem dX1_bringIn_43 : decode cX1_bringIn 43 = .ok (.invokevirtual 43, 3) := by decide +kernel
theorem dX1_bringIn_46 : decode cX1_bringIn 46 = .ok (.iadd, 1) := by decide +kernel
theorem dX1_bringIn_47 : decode cX1_bringIn 47 = .ok (.istore 5, 2) := by decide +kernel
theorem dX1_bringIn_49 : decode cX1_bringIn 49 = .ok (.aload_n 1, 1) := by decide +kernel
theorem dX1_bringIn_50 : decode cX1_bringIn 50 = .ok (.bipush 6, 2) := by decide +kernel
theorem dX1_bringIn_52 : decode cX1_bringIn 52 = .ok (.iload_n 2, 1) := by decide +kernel
theorem dX1_bringIn_53 : decode cX1_bringIn 53 = .ok (.iadd, 1) := by decide +kernel
theorem dX1_bringIn_54 : decode cX1_bringIn 54 = .ok (.sipush 9999, 3) := by decide +kernel
theorem dX1_bringIn_57 : decode cX1_bringIn 57 = .ok (.aload_n 1, 1) := by decide +kernel
theorem dX1_bringIn_58 : decode cX1_bringIn 58 = .ok (.bipush 6, 2) := by decide +kernel
theorem dX1_bringIn_60 : decode cX1_bringIn 60 = .ok (.iload_n 2, 1) := by decide +kernel
theorem dX1_bringIn_61 : decode cX1_bringIn 61 = .ok (.iadd, 1) := by decide +kernel
theorem dX1_bringIn_62 : decode cX1_bringIn 62 = .ok (.invokevirtual 43, 3) := by decide +kernel
theorem dX1_bringIn_65 : decode cX1_bringIn 65 = .ok (.iload 5, 2) := by decide +kernel
theorem dX1_bringIn_67 : decode cX1_bringIn 67 = .ok (.iadd, 1) := by decide +kernel
theorem dX1_bringIn_68 : decode cX1_bringIn 68 = .ok (.invokestatic 67, 3) := by decide +kernel
theorem dX1_bringIn_71 : decode cX1_bringIn 71 = .ok (.invokevirtual 107, 3) := by decide +kernel
theorem dX1_bringIn_74 : decode cX1_bringIn 74 = .ok (.aload_n 1, 1) := by decide +kernel
theorem dX1_bringIn_75 : decode cX1_bringIn 75 = .ok (.sipush 142, 3) := by decide +kernel
theorem dX1_bringIn_78 : decode cX1_bringIn 78 = .ok (.sipush 999, 3) := by decide +kernel
theorem dX1_bringIn_81 : decode cX1_bringIn 81 = .ok (.aload_n 1, 1) := by decide +kernel
theorem dX1_bringIn_82 : decode cX1_bringIn 82 = .ok (.sipush 142, 3) := by decide +kernel
theorem dX1_bringIn_85 : decode cX1_bringIn 85 = .ok (.invokevirtual 43, 3) := by decide +kernel
theorem dX1_bringIn_88 : decode cX1_bringIn 88 = .ok (.iload 5, 2) := by decide +kernel
theorem dX1_bringIn_90 : decode cX1_bringIn 90 = .ok (.iadd, 1) := by decide +kernel
theorem dX1_bringIn_91 : decode cX1_bringIn 91 = .ok (.invokestatic 67, 3) := by decide +kernel
theorem dX1_bringIn_94 : decode cX1_bringIn 94 = .ok (.invokevirtual 107, 3) := by decide +kernel
theorem dX1_bringIn_97 : decode cX1_bringIn 97 = .ok (.return_, 1) := by decide +kernel
theorem dX1_endYear_0 : decode cX1_endYear 0 = .ok (.aload_n 1, 1) := by decide +kernel
theorem dX1_endYear_1 : decode cX1_endYear 1 = .ok (.sipush 144, 3) := by decide +kernel
theorem dX1_endYear_4 : decode cX1_endYear 4 = .ok (.invokevirtual 43, 3) := by decide +kernel
theorem dX1_endYear_7 : decode cX1_endYear 7 = .ok (.istore_n 2, 1) := by decide +kernel
theorem dX1_endYear_8 : decode cX1_endYear 8 = .ok (.aload_n 1, 1) := by decide +kernel
theorem dX1_endYear_9 : decode cX1_endYear 9 = .ok (.invokevirtual 84, 3) := by decide +kernel
theorem dX1_endYear_12 : decode cX1_endYear 12 = .ok (.istore_n 3, 1) := by decide +kernel
theorem dX1_endYear_13 : decode cX1_endYear 13 = .ok (.aload_n 0, 1) := by decide +kernel
theorem dX1_endYear_14 : decode cX1_endYear 14 = .ok (.aload_n 1, 1) := by decide +kernel
theorem dX1_endYear_15 : decode cX1_endYear 15 = .ok (.aload_n 1, 1) := by decide +kernel
theorem dX1_endYear_16 : decode cX1_endYear 16 = .ok (.bipush 48, 2) := by decide +kernel
theorem dX1_endYear_18 : decode cX1_endYear 18 = .ok (.iload_n 3, 1) := by decide +kernel
theorem dX1_endYear_19 : decode cX1_endYear 19 = .ok (.iadd, 1) := by decide +kernel
theorem dX1_endYear_20 : decode cX1_endYear 20 = .ok (.invokevirtual 43, 3) := by decide +kernel
theorem dX1_endYear_23 : decode cX1_endYear 23 = .ok (.invokevirtual 116, 3) := by decide +kernel
theorem dX1_endYear_26 : decode cX1_endYear 26 = .ok (.aload_n 1, 1) := by decide +kernel
theorem dX1_endYear_27 : decode cX1_endYear 27 = .ok (.iload_n 2, 1) := by decide +kernel
theorem dX1_endYear_28 : decode cX1_endYear 28 = .ok (.iload_n 3, 1) := by decide +kernel
theorem dX1_endYear_29 : decode cX1_endYear 29 = .ok (.aload_n 1, 1) := by decide +kernel
theorem dX1_endYear_30 : decode cX1_endYear 30 = .ok (.bipush 18, 2) := by decide +kernel
theorem dX1_endYear_32 : decode cX1_endYear 32 = .ok (.iload_n 3, 1) := by decide +kernel
theorem dX1_endYear_33 : decode cX1_endYear 33 = .ok (.iadd, 1) := by decide +kernel
theorem dX1_endYear_34 : decode cX1_endYear 34 = .ok (.invokevirtual 43, 3) := by decide +kernel
theorem dX1_endYear_37 : decode cX1_endYear 37 = .ok (.invokevirtual 120, 3) := by decide +kernel
theorem dX1_endYear_40 : decode cX1_endYear 40 = .ok (.return_, 1) := by decide +kernel
theorem dX1_skipYear_0 : decode cX1_skipYear 0 = .ok (.aload_n 0, 1) := by decide +kernel
theorem dX1_skipYear_1 : decode cX1_skipYear 1 = .ok (.aload_n 1, 1) := by decide +kernel
theorem dX1_skipYear_2 : decode cX1_skipYear 2 = .ok (.aload_n 1, 1) := by decide +kernel
theorem dX1_skipYear_3 : decode cX1_skipYear 3 = .ok (.sipush 145, 3) := by decide +kernel
theorem dX1_skipYear_6 : decode cX1_skipYear 6 = .ok (.invokevirtual 43, 3) := by decide +kernel
theorem dX1_skipYear_9 : decode cX1_skipYear 9 = .ok (.ifCond .ne 11, 3) := by decide +kernel
theorem dX1_skipYear_12 : decode cX1_skipYear 12 = .ok (.aload_n 0, 1) := by decide +kernel
theorem dX1_skipYear_13 : decode cX1_skipYear 13 = .ok (.aload_n 1, 1) := by decide +kernel
theorem dX1_skipYear_14 : decode cX1_skipYear 14 = .ok (.invokevirtual 95, 3) := by decide +kernel
theorem dX1_skipYear_17 : decode cX1_skipYear 17 = .ok (.goto 24, 3) := by decide +kernel
theorem dX1_skipYear_20 : decode cX1_skipYear 20 = .ok (.aload_n 0, 1) := by decide +kernel
theorem dX1_skipYear_21 : decode cX1_skipYear 21 = .ok (.aload_n 1, 1) := by decide +kernel
theorem dX1_skipYear_22 : decode cX1_skipYear 22 = .ok (.aload_n 0, 1) := by decide +kernel
theorem dX1_skipYear_23 : decode cX1_skipYear 23 = .ok (.aload_n 1, 1) := by decide +kernel
theorem dX1_skipYear_24 : decode cX1_skipYear 24 = .ok (.aload_n 1, 1) := by decide +kernel
theorem dX1_skipYear_25 : decode cX1_skipYear 25 = .ok (.aload_n 0, 1) := by decide +kernel
theorem dX1_skipYear_26 : decode cX1_skipYear 26 = .ok (.getfield 37, 3) := by decide +kernel
theorem dX1_skipYear_29 : decode cX1_skipYear 29 = .ok (.invokevirtual 74, 3) := by decide +kernel
theorem dX1_skipYear_32 : decode cX1_skipYear 32 = .ok (.invokevirtual 77, 3) := by decide +kernel
theorem dX1_skipYear_35 : decode cX1_skipYear 35 = .ok (.invokevirtual 124, 3) := by decide +kernel
theorem dX1_skipYear_38 : decode cX1_skipYear 38 = .ok (.invokevirtual 127, 3) := by decide +kernel
theorem dX1_skipYear_41 : decode cX1_skipYear 41 = .ok (.invokevirtual 116, 3) := by decide +kernel
theorem dX1_skipYear_44 : decode cX1_skipYear 44 = .ok (.return_, 1) := by decide +kernel
theorem dX1_turnYear_0 : decode cX1_turnYear 0 = .ok (.iconst 0, 1) := by decide +kernel
theorem dX1_turnYear_1 : decode cX1_turnYear 1 = .ok (.istore_n 3, 1) := by decide +kernel
theorem dX1_turnYear_2 : decode cX1_turnYear 2 = .ok (.iload_n 3, 1) := by decide +kernel
theorem dX1_turnYear_3 : decode cX1_turnYear 3 = .ok (.aload_n 0, 1) := by decide +kernel
theorem dX1_turnYear_4 : decode cX1_turnYear 4 = .ok (.getfield 37, 3) := by decide +kernel
theorem dX1_turnYear_7 : decode cX1_turnYear 7 = .ok (.bipush 34, 2) := by decide +kernel
theorem dX1_turnYear_9 : decode cX1_turnYear 9 = .ok (.invokevirtual 49, 3) := by decide +kernel
theorem dX1_turnYear_12 : decode cX1_turnYear 12 = .ok (.if_icmp .ge 25, 3) := by decide +kernel
theorem dX1_turnYear_15 : decode cX1_turnYear 15 = .ok (.aload_n 1, 1) := by decide +kernel
theorem dX1_turnYear_16 : decode cX1_turnYear 16 = .ok (.bipush 12, 2) := by decide +kernel
theorem dX1_turnYear_18 : decode cX1_turnYear 18 = .ok (.iload_n 3, 1) := by decide +kernel
theorem dX1_turnYear_19 : decode cX1_turnYear 19 = .ok (.iadd, 1) := by decide +kernel
theorem dX1_turnYear_20 : decode cX1_turnYear 20 = .ok (.iload_n 2, 1) := by decide +kernel
theorem dX1_turnYear_21 : decode cX1_turnYear 21 = .ok (.iload_n 3, 1) := by decide +kernel
theorem dX1_turnYear_22 : decode cX1_turnYear 22 = .ok (.invokestatic 99, 3) := by decide +kernel
theorem dX1_turnYear_25 : decode cX1_turnYear 25 = .ok (.invokestatic 102, 3) := by decide +kernel
theorem dX1_turnYear_28 : decode cX1_turnYear 28 = .ok (.invokevirtual 107, 3) := by decide +kernel
theorem dX1_turnYear_31 : decode cX1_turnYear 31 = .ok (.iinc 3 1, 3) := by decide +kernel
theorem dX1_turnYear_34 : decode cX1_turnYear 34 = .ok (.goto (-32), 3) := by decide +kernel
theorem dX1_turnYear_37 : decode cX1_turnYear 37 = .ok (.aload_n 1, 1) := by decide +kernel
theorem dX1_turnYear_38 : decode cX1_turnYear 38 = .ok (.bipush 12, 2) := by decide +kernel
theorem dX1_turnYear_40 : decode cX1_turnYear 40 = .ok (.aload_n 0, 1) := by decide +kernel
theorem dX1_turnYear_41 : decode cX1_turnYear 41 = .ok (.getfield 37, 3) := by decide +kernel
theorem dX1_turnYear_44 : decode cX1_turnYear 44 = .ok (.bipush 34, 2) := by decide +kernel
theorem dX1_turnYear_46 : decode cX1_turnYear 46 = .ok (.invokevirtual 49, 3) := by decide +kernel
theorem dX1_turnYear_49 : decode cX1_turnYear 49 = .ok (.invokevirtual 130, 3) := by decide +kernel
theorem dX1_turnYear_52 : decode cX1_turnYear 52 = .ok (.istore_n 3, 1) := by decide +kernel
theorem dX1_turnYear_53 : decode cX1_turnYear 53 = .ok (.aload_n 1, 1) := by decide +kernel
theorem dX1_turnYear_54 : decode cX1_turnYear 54 = .ok (.bipush 12, 2) := by decide +kernel
theorem dX1_turnYear_56 : decode cX1_turnYear 56 = .ok (.iload_n 3, 1) := by decide +kernel
theorem dX1_turnYear_57 : decode cX1_turnYear 57 = .ok (.iadd, 1) := by decide +kernel
theorem dX1_turnYear_58 : decode cX1_turnYear 58 = .ok (.invokevirtual 43, 3) := by decide +kernel
theorem dX1_turnYear_61 : decode cX1_turnYear 61 = .ok (.istore 4, 2) := by decide +kernel
theorem dX1_turnYear_63 : decode cX1_turnYear 63 = .ok (.aload_n 1, 1) := by decide +kernel
theorem dX1_turnYear_64 : decode cX1_turnYear 64 = .ok (.sipush 143, 3) := by decide +kernel
theorem dX1_turnYear_67 : decode cX1_turnYear 67 = .ok (.iload 4, 2) := by decide +kernel
theorem dX1_turnYear_69 : decode cX1_turnYear 69 = .ok (.ifCond .ne 7, 3) := by decide +kernel
theorem dX1_turnYear_72 : decode cX1_turnYear 72 = .ok (.iconst (-1), 1) := by decide +kernel
theorem dX1_turnYear_73 : decode cX1_turnYear 73 = .ok (.goto 4, 3) := by decide +kernel
theorem dX1_turnYear_76 : decode cX1_turnYear 76 = .ok (.iload_n 3, 1) := by decide +kernel
theorem dX1_turnYear_77 : decode cX1_turnYear 77 = .ok (.invokevirtual 107, 3) := by decide +kernel
theorem dX1_turnYear_80 : decode cX1_turnYear 80 = .ok (.iconst 0, 1) := by decide +kernel
theorem dX1_turnYear_81 : decode cX1_turnYear 81 = .ok (.istore 5, 2) := by decide +kernel
theorem dX1_turnYear_83 : decode cX1_turnYear 83 = .ok (.iload 4, 2) := by decide +kernel
theorem dX1_turnYear_85 : decode cX1_turnYear 85 = .ok (.ifCond .le 49, 3) := by decide +kernel
theorem dX1_turnYear_88 : decode cX1_turnYear 88 = .ok (.iload 5, 2) := by decide +kernel
theorem dX1_turnYear_90 : decode cX1_turnYear 90 = .ok (.aload_n 0, 1) := by decide +kernel
theorem dX1_turnYear_91 : decode cX1_turnYear 91 = .ok (.getfield 37, 3) := by decide +kernel
theorem dX1_turnYear_94 : decode cX1_turnYear 94 = .ok (.bipush 35, 2) := by decide +kernel
theorem dX1_turnYear_96 : decode cX1_turnYear 96 = .ok (.invokevirtual 49, 3) := by decide +kernel
theorem dX1_turnYear_99 : decode cX1_turnYear 99 = .ok (.if_icmp .ge 35, 3) := by decide +kernel
theorem dX1_turnYear_102 : decode cX1_turnYear 102 = .ok (.aload_n 0, 1) := by decide +kernel
theorem dX1_turnYear_103 : decode cX1_turnYear 103 = .ok (.getfield 37, 3) := by decide +kernel
theorem dX1_turnYear_106 : decode cX1_turnYear 106 = .ok (.bipush 21, 2) := by decide +kernel
theorem dX1_turnYear_108 : decode cX1_turnYear 108 = .ok (.iload 5, 2) := by decide +kernel
theorem dX1_turnYear_110 : decode cX1_turnYear 110 = .ok (.iadd, 1) := by decide +kernel
theorem dX1_turnYear_111 : decode cX1_turnYear 111 = .ok (.invokevirtual 49, 3) := by decide +kernel
theorem dX1_turnYear_114 : decode cX1_turnYear 114 = .ok (.iload 4, 2) := by decide +kernel
theorem dX1_turnYear_116 : decode cX1_turnYear 116 = .ok (.if_icmp .gt 12, 3) := by decide +kernel
theorem dX1_turnYear_119 : decode cX1_turnYear 119 = .ok (.aload_n 1, 1) := by decide +kernel
theorem dX1_turnYear_120 : decode cX1_turnYear 120 = .ok (.iconst 0, 1) := by decide +kernel
theorem dX1_turnYear_121 : decode cX1_turnYear 121 = .ok (.iload 5, 2) := by decide +kernel
theorem dX1_turnYear_123 : decode cX1_turnYear 123 = .ok (.iadd, 1) := by decide +kernel
theorem dX1_turnYear_124 : decode cX1_turnYear 124 = .ok (.iload_n 3, 1) := by decide +kernel
theorem dX1_turnYear_125 : decode cX1_turnYear 125 = .ok (.invokevirtual 107, 3) := by decide +kernel
theorem dX1_turnYear_128 : decode cX1_turnYear 128 = .ok (.iinc 5 1, 3) := by decide +kernel
theorem dX1_turnYear_131 : decode cX1_turnYear 131 = .ok (.goto (-48), 3) := by decide +kernel
theorem dX1_turnYear_134 : decode cX1_turnYear 134 = .ok (.aload_n 1, 1) := by decide +kernel
theorem dX1_turnYear_135 : decode cX1_turnYear 135 = .ok (.sipush 140, 3) := by decide +kernel
theorem dX1_turnYear_138 : decode cX1_turnYear 138 = .ok (.iconst 0, 1) := by decide +kernel
theorem dX1_turnYear_139 : decode cX1_turnYear 139 = .ok (.invokevirtual 107, 3) := by decide +kernel
theorem dX1_turnYear_142 : decode cX1_turnYear 142 = .ok (.aload_n 1, 1) := by decide +kernel
theorem dX1_turnYear_143 : decode cX1_turnYear 143 = .ok (.sipush 141, 3) := by decide +kernel
theorem dX1_turnYear_146 : decode cX1_turnYear 146 = .ok (.iconst 0, 1) := by decide +kernel
theorem dX1_turnYear_147 : decode cX1_turnYear 147 = .ok (.invokevirtual 107, 3) := by decide +kernel
theorem dX1_turnYear_150 : decode cX1_turnYear 150 = .ok (.aload_n 1, 1) := by decide +kernel
theorem dX1_turnYear_151 : decode cX1_turnYear 151 = .ok (.sipush 144, 3) := by decide +kernel
theorem dX1_turnYear_154 : decode cX1_turnYear 154 = .ok (.aload_n 1, 1) := by decide +kernel
theorem dX1_turnYear_155 : decode cX1_turnYear 155 = .ok (.sipush 144, 3) := by decide +kernel
theorem dX1_turnYear_158 : decode cX1_turnYear 158 = .ok (.invokevirtual 43, 3) := by decide +kernel
theorem dX1_turnYear_161 : decode cX1_turnYear 161 = .ok (.iconst 1, 1) := by decide +kernel
theorem dX1_turnYear_162 : decode cX1_turnYear 162 = .ok (.iadd, 1) := by decide +kernel
theorem dX1_turnYear_163 : decode cX1_turnYear 163 = .ok (.invokevirtual 107, 3) := by decide +kernel
theorem dX1_turnYear_166 : decode cX1_turnYear 166 = .ok (.aload_n 1, 1) := by decide +kernel
theorem dX1_turnYear_167 : decode cX1_turnYear 167 = .ok (.sipush 145, 3) := by decide +kernel
theorem dX1_turnYear_170 : decode cX1_turnYear 170 = .ok (.iconst 0, 1) := by decide +kernel
theorem dX1_turnYear_171 : decode cX1_turnYear 171 = .ok (.invokevirtual 107, 3) := by decide +kernel
theorem dX1_turnYear_174 : decode cX1_turnYear 174 = .ok (.return_, 1) := by decide +kernel
theorem dX1_daysThatCanPass_0 : decode cX1_daysThatCanPass 0 = .ok (.aload_n 0, 1) := by decide +kernel
theorem dX1_daysThatCanPass_1 : decode cX1_daysThatCanPass 1 = .ok (.getfield 37, 3) := by decide +kernel
theorem dX1_daysThatCanPass_4 : decode cX1_daysThatCanPass 4 = .ok (.iconst 0, 1) := by decide +kernel
theorem dX1_daysThatCanPass_5 : decode cX1_daysThatCanPass 5 = .ok (.invokevirtual 49, 3) := by decide +kernel
theorem dX1_daysThatCanPass_8 : decode cX1_daysThatCanPass 8 = .ok (.istore_n 2, 1) := by decide +kernel
theorem dX1_daysThatCanPass_9 : decode cX1_daysThatCanPass 9 = .ok (.sipush 999, 3) := by decide +kernel
theorem dX1_daysThatCanPass_12 : decode cX1_daysThatCanPass 12 = .ok (.aload_n 1, 1) := by decide +kernel
theorem dX1_daysThatCanPass_13 : decode cX1_daysThatCanPass 13 = .ok (.sipush 144, 3) := by decide +kernel
theorem dX1_daysThatCanPass_16 : decode cX1_daysThatCanPass 16 = .ok (.invokevirtual 43, 3) := by decide +kernel
theorem dX1_daysThatCanPass_19 : decode cX1_daysThatCanPass 19 = .ok (.isub, 1) := by decide +kernel
theorem dX1_daysThatCanPass_20 : decode cX1_daysThatCanPass 20 = .ok (.iload_n 2, 1) := by decide +kernel
theorem dX1_daysThatCanPass_21 : decode cX1_daysThatCanPass 21 = .ok (.imul, 1) := by decide +kernel
theorem dX1_daysThatCanPass_22 : decode cX1_daysThatCanPass 22 = .ok (.iload_n 2, 1) := by decide +kernel
theorem dX1_daysThatCanPass_23 : decode cX1_daysThatCanPass 23 = .ok (.iadd, 1) := by decide +kernel
theorem dX1_daysThatCanPass_24 : decode cX1_daysThatCanPass 24 = .ok (.iconst 1, 1) := by decide +kernel
theorem dX1_daysThatCanPass_25 : decode cX1_daysThatCanPass 25 = .ok (.isub, 1) := by decide +kernel
theorem dX1_daysThatCanPass_26 : decode cX1_daysThatCanPass 26 = .ok (.aload_n 1, 1) := by decide +kernel
theorem dX1_daysThatCanPass_27 : decode cX1_daysThatCanPass 27 = .ok (.sipush 145, 3) := by decide +kernel
theorem dX1_daysThatCanPass_30 : decode cX1_daysThatCanPass 30 = .ok (.invokevirtual 43, 3) := by decide +kernel
theorem dX1_daysThatCanPass_33 : decode cX1_daysThatCanPass 33 = .ok (.isub, 1) := by decide +kernel
theorem dX1_daysThatCanPass_34 : decode cX1_daysThatCanPass 34 = .ok (.ireturn, 1) := by decide +kernel
theorem dX1_whyNot_0 : decode cX1_whyNot 0 = .ok (.aload_n 0, 1) := by decide +kernel
theorem dX1_whyNot_1 : decode cX1_whyNot 1 = .ok (.getfield 37, 3) := by decide +kernel
theorem dX1_whyNot_4 : decode cX1_whyNot 4 = .ok (.invokevirtual 74, 3) := by decide +kernel
theorem dX1_whyNot_7 : decode cX1_whyNot 7 = .ok (.ifCond .ne 5, 3) := by decide +kernel
theorem dX1_whyNot_10 : decode cX1_whyNot 10 = .ok (.iconst 0, 1) := by decide +kernel
theorem dX1_whyNot_11 : decode cX1_whyNot 11 = .ok (.ireturn, 1) := by decide +kernel
theorem dX1_whyNot_12 : decode cX1_whyNot 12 = .ok (.aload_n 1, 1) := by decide +kernel
theorem dX1_whyNot_13 : decode cX1_whyNot 13 = .ok (.sipush 142, 3) := by decide +kernel
theorem dX1_whyNot_16 : decode cX1_whyNot 16 = .ok (.invokevirtual 43, 3) := by decide +kernel
theorem dX1_whyNot_19 : decode cX1_whyNot 19 = .ok (.istore 5, 2) := by decide +kernel
theorem dX1_whyNot_21 : decode cX1_whyNot 21 = .ok (.iload_n 2, 1) := by decide +kernel
theorem dX1_whyNot_22 : decode cX1_whyNot 22 = .ok (.tableswitch 204 0 6 #[42, 56, 65, 82, 111, 136, 175], 42) := by decide +kernel
theorem dX1_whyNot_64 : decode cX1_whyNot 64 = .ok (.aload_n 0, 1) := by decide +kernel
theorem dX1_whyNot_65 : decode cX1_whyNot 65 = .ok (.aload_n 1, 1) := by decide +kernel
theorem dX1_whyNot_66 : decode cX1_whyNot 66 = .ok (.invokevirtual 133, 3) := by decide +kernel
theorem dX1_whyNot_69 : decode cX1_whyNot 69 = .ok (.ifCond .le 7, 3) := by decide +kernel
theorem dX1_whyNot_72 : decode cX1_whyNot 72 = .ok (.iconst (-1), 1) := by decide +kernel
theorem dX1_whyNot_73 : decode cX1_whyNot 73 = .ok (.goto 4, 3) := by decide +kernel
theorem dX1_whyNot_76 : decode cX1_whyNot 76 = .ok (.iconst 4, 1) := by decide +kernel
theorem dX1_whyNot_77 : decode cX1_whyNot 77 = .ok (.ireturn, 1) := by decide +kernel
theorem dX1_whyNot_78 : decode cX1_whyNot 78 = .ok (.aload_n 0, 1) := by decide +kernel
theorem dX1_whyNot_79 : decode cX1_whyNot 79 = .ok (.aload_n 1, 1) := by decide +kernel
theorem dX1_whyNot_80 : decode cX1_whyNot 80 = .ok (.iload_n 3, 1) := by decide +kernel
theorem dX1_whyNot_81 : decode cX1_whyNot 81 = .ok (.iload 4, 2) := by decide +kernel
theorem dX1_whyNot_83 : decode cX1_whyNot 83 = .ok (.invokevirtual 136, 3) := by decide +kernel
theorem dX1_whyNot_86 : decode cX1_whyNot 86 = .ok (.ireturn, 1) := by decide +kernel
theorem dX1_whyNot_87 : decode cX1_whyNot 87 = .ok (.aload_n 0, 1) := by decide +kernel
theorem dX1_whyNot_88 : decode cX1_whyNot 88 = .ok (.getfield 37, 3) := by decide +kernel
theorem dX1_whyNot_91 : decode cX1_whyNot 91 = .ok (.iload_n 3, 1) := by decide +kernel
theorem dX1_whyNot_92 : decode cX1_whyNot 92 = .ok (.invokevirtual 140, 3) := by decide +kernel
theorem dX1_whyNot_95 : decode cX1_whyNot 95 = .ok (.ifCond .eq 7, 3) := by decide +kernel
theorem dX1_whyNot_98 : decode cX1_whyNot 98 = .ok (.iconst (-1), 1) := by decide +kernel
theorem dX1_whyNot_99 : decode cX1_whyNot 99 = .ok (.goto 4, 3) := by decide +kernel
theorem dX1_whyNot_102 : decode cX1_whyNot 102 = .ok (.iconst 0, 1) := by decide +kernel
theorem dX1_whyNot_103 : decode cX1_whyNot 103 = .ok (.ireturn, 1) := by decide +kernel
theorem dX1_whyNot_104 : decode cX1_whyNot 104 = .ok (.iload_n 3, 1) := by decide +kernel
theorem dX1_whyNot_105 : decode cX1_whyNot 105 = .ok (.ifCond .lt 9, 3) := by decide +kernel
theorem dX1_whyNot_108 : decode cX1_whyNot 108 = .ok (.iload_n 3, 1) := by decide +kernel
theorem dX1_whyNot_109 : decode cX1_whyNot 109 = .ok (.bipush 9, 2) := by decide +kernel
theorem dX1_whyNot_111 : decode cX1_whyNot 111 = .ok (.if_icmp .le 5, 3) := by decide +kernel
theorem dX1_whyNot_114 : decode cX1_whyNot 114 = .ok (.iconst 1, 1) := by decide +kernel
theorem dX1_whyNot_115 : decode cX1_whyNot 115 = .ok (.ireturn, 1) := by decide +kernel
theorem dX1_whyNot_116 : decode cX1_whyNot 116 = .ok (.iload_n 3, 1) := by decide +kernel
theorem dX1_whyNot_117 : decode cX1_whyNot 117 = .ok (.aload_n 1, 1) := by decide +kernel
theorem dX1_whyNot_118 : decode cX1_whyNot 118 = .ok (.sipush 139, 3) := by decide +kernel
theorem dX1_whyNot_121 : decode cX1_whyNot 121 = .ok (.invokevirtual 43, 3) := by decide +kernel
theorem dX1_whyNot_124 : decode cX1_whyNot 124 = .ok (.if_icmp .ne 7, 3) := by decide +kernel
theorem dX1_whyNot_127 : decode cX1_whyNot 127 = .ok (.iconst 2, 1) := by decide +kernel
theorem dX1_whyNot_128 : decode cX1_whyNot 128 = .ok (.goto 4, 3) := by decide +kernel
theorem dX1_whyNot_131 : decode cX1_whyNot 131 = .ok (.iconst (-1), 1) := by decide +kernel
theorem dX1_whyNot_132 : decode cX1_whyNot 132 = .ok (.ireturn, 1) := by decide +kernel
theorem dX1_whyNot_133 : decode cX1_whyNot 133 = .ok (.aload_n 1, 1) := by decide +kernel
theorem dX1_whyNot_134 : decode cX1_whyNot 134 = .ok (.sipush 140, 3) := by decide +kernel
theorem dX1_whyNot_137 : decode cX1_whyNot 137 = .ok (.invokevirtual 43, 3) := by decide +kernel
theorem dX1_whyNot_140 : decode cX1_whyNot 140 = .ok (.ifCond .eq 5, 3) := by decide +kernel
theorem dX1_whyNot_143 : decode cX1_whyNot 143 = .ok (.iconst 2, 1) := by decide +kernel
theorem dX1_whyNot_144 : decode cX1_whyNot 144 = .ok (.ireturn, 1) := by decide +kernel
theorem dX1_whyNot_145 : decode cX1_whyNot 145 = .ok (.iload 5, 2) := by decide +kernel
theorem dX1_whyNot_147 : decode cX1_whyNot 147 = .ok (.bipush 10, 2) := by decide +kernel
theorem dX1_whyNot_149 : decode cX1_whyNot 149 = .ok (.if_icmp .ge 7, 3) := by decide +kernel
theorem dX1_whyNot_152 : decode cX1_whyNot 152 = .ok (.iconst 3, 1) := by decide +kernel
theorem dX1_whyNot_153 : decode cX1_whyNot 153 = .ok (.goto 4, 3) := by decide +kernel
theorem dX1_whyNot_156 : decode cX1_whyNot 156 = .ok (.iconst (-1), 1) := by decide +kernel
theorem dX1_whyNot_157 : decode cX1_whyNot 157 = .ok (.ireturn, 1) := by decide +kernel
theorem dX1_whyNot_158 : decode cX1_whyNot 158 = .ok (.iload_n 3, 1) := by decide +kernel
theorem dX1_whyNot_159 : decode cX1_whyNot 159 = .ok (.iconst 1, 1) := by decide +kernel
theorem dX1_whyNot_160 : decode cX1_whyNot 160 = .ok (.if_icmp .lt 9, 3) := by decide +kernel
theorem dX1_whyNot_163 : decode cX1_whyNot 163 = .ok (.iload_n 3, 1) := by decide +kernel
theorem dX1_whyNot_164 : decode cX1_whyNot 164 = .ok (.bipush 9, 2) := by decide +kernel
theorem dX1_whyNot_166 : decode cX1_whyNot 166 = .ok (.if_icmp .le 5, 3) := by decide +kernel
theorem dX1_whyNot_169 : decode cX1_whyNot 169 = .ok (.iconst 1, 1) := by decide +kernel
theorem dX1_whyNot_170 : decode cX1_whyNot 170 = .ok (.ireturn, 1) := by decide +kernel
theorem dX1_whyNot_171 : decode cX1_whyNot 171 = .ok (.iload 5, 2) := by decide +kernel
theorem dX1_whyNot_173 : decode cX1_whyNot 173 = .ok (.iload_n 3, 1) := by decide +kernel
theorem dX1_whyNot_174 : decode cX1_whyNot 174 = .ok (.if_icmp .lt 17, 3) := by decide +kernel
theorem dX1_whyNot_177 : decode cX1_whyNot 177 = .ok (.aload_n 1, 1) := by decide +kernel
theorem dX1_whyNot_178 : decode cX1_whyNot 178 = .ok (.sipush 141, 3) := by decide +kernel
theorem dX1_whyNot_181 : decode cX1_whyNot 181 = .ok (.invokevirtual 43, 3) := by decide +kernel
theorem dX1_whyNot_184 : decode cX1_whyNot 184 = .ok (.iload_n 3, 1) := by decide +kernel
theorem dX1_whyNot_185 : decode cX1_whyNot 185 = .ok (.iadd, 1) := by decide +kernel
theorem dX1_whyNot_186 : decode cX1_whyNot 186 = .ok (.bipush 20, 2) := by decide +kernel
theorem dX1_whyNot_188 : decode cX1_whyNot 188 = .ok (.if_icmp .le 7, 3) := by decide +kernel
theorem dX1_whyNot_191 : decode cX1_whyNot 191 = .ok (.iconst 3, 1) := by decide +kernel
theorem dX1_whyNot_192 : decode cX1_whyNot 192 = .ok (.goto 4, 3) := by decide +kernel
theorem dX1_whyNot_195 : decode cX1_whyNot 195 = .ok (.iconst (-1), 1) := by decide +kernel
theorem dX1_whyNot_196 : decode cX1_whyNot 196 = .ok (.ireturn, 1) := by decide +kernel
theorem dX1_whyNot_197 : decode cX1_whyNot 197 = .ok (.iload_n 3, 1) := by decide +kernel
theorem dX1_whyNot_198 : decode cX1_whyNot 198 = .ok (.iconst 1, 1) := by decide +kernel
theorem dX1_whyNot_199 : decode cX1_whyNot 199 = .ok (.if_icmp .lt 9, 3) := by decide +kernel
theorem dX1_whyNot_202 : decode cX1_whyNot 202 = .ok (.iload_n 3, 1) := by decide +kernel
theorem dX1_whyNot_203 : decode cX1_whyNot 203 = .ok (.bipush 50, 2) := by decide +kernel
theorem dX1_whyNot_205 : decode cX1_whyNot 205 = .ok (.if_icmp .le 5, 3) := by decide +kernel
theorem dX1_whyNot_208 : decode cX1_whyNot 208 = .ok (.iconst 1, 1) := by decide +kernel
theorem dX1_whyNot_209 : decode cX1_whyNot 209 = .ok (.ireturn, 1) := by decide +kernel
theorem dX1_whyNot_210 : decode cX1_whyNot 210 = .ok (.iload 5, 2) := by decide +kernel
theorem dX1_whyNot_212 : decode cX1_whyNot 212 = .ok (.iload_n 3, 1) := by decide +kernel
theorem dX1_whyNot_213 : decode cX1_whyNot 213 = .ok (.iadd, 1) := by decide +kernel
theorem dX1_whyNot_214 : decode cX1_whyNot 214 = .ok (.sipush 999, 3) := by decide +kernel
theorem dX1_whyNot_217 : decode cX1_whyNot 217 = .ok (.if_icmp .le 7, 3) := by decide +kernel
theorem dX1_whyNot_220 : decode cX1_whyNot 220 = .ok (.iconst 3, 1) := by decide +kernel
theorem dX1_whyNot_221 : decode cX1_whyNot 221 = .ok (.goto 4, 3) := by decide +kernel
theorem dX1_whyNot_224 : decode cX1_whyNot 224 = .ok (.iconst (-1), 1) := by decide +kernel
theorem dX1_whyNot_225 : decode cX1_whyNot 225 = .ok (.ireturn, 1) := by decide +kernel
theorem dX1_whyNot_226 : decode cX1_whyNot 226 = .ok (.iconst 0, 1) := by decide +kernel
theorem dX1_whyNot_227 : decode cX1_whyNot 227 = .ok (.ireturn, 1) := by decide +kernel
theorem dX1_whyNoHabit_0 : decode cX1_whyNoHabit 0 = .ok (.aload_n 0, 1) := by decide +kernel
theorem dX1_whyNoHabit_1 : decode cX1_whyNoHabit 1 = .ok (.getfield 37, 3) := by decide +kernel
theorem dX1_whyNoHabit_4 : decode cX1_whyNoHabit 4 = .ok (.iload_n 2, 1) := by decide +kernel
theorem dX1_whyNoHabit_5 : decode cX1_whyNoHabit 5 = .ok (.invokevirtual 140, 3) := by decide +kernel
theorem dX1_whyNoHabit_8 : decode cX1_whyNoHabit 8 = .ok (.ifCond .eq 14, 3) := by decide +kernel
theorem dX1_whyNoHabit_11 : decode cX1_whyNoHabit 11 = .ok (.aload_n 0, 1) := by decide +kernel
theorem dX1_whyNoHabit_12 : decode cX1_whyNoHabit 12 = .ok (.getfield 37, 3) := by decide +kernel
theorem dX1_whyNoHabit_15 : decode cX1_whyNoHabit 15 = .ok (.iload_n 3, 1) := by decide +kernel
theorem dX1_whyNoHabit_16 : decode cX1_whyNoHabit 16 = .ok (.invokevirtual 143, 3) := by decide +kernel
theorem dX1_whyNoHabit_19 : decode cX1_whyNoHabit 19 = .ok (.ifCond .ne 5, 3) := by decide +kernel
theorem dX1_whyNoHabit_22 : decode cX1_whyNoHabit 22 = .ok (.iconst 0, 1) := by decide +kernel
theorem dX1_whyNoHabit_23 : decode cX1_whyNoHabit 23 = .ok (.ireturn, 1) := by decide +kernel
theorem dX1_whyNoHabit_24 : decode cX1_whyNoHabit 24 = .ok (.aload_n 1, 1) := by decide +kernel
theorem dX1_whyNoHabit_25 : decode cX1_whyNoHabit 25 = .ok (.iconst 0, 1) := by decide +kernel
theorem dX1_whyNoHabit_26 : decode cX1_whyNoHabit 26 = .ok (.iload_n 2, 1) := by decide +kernel
theorem dX1_whyNoHabit_27 : decode cX1_whyNoHabit 27 = .ok (.iadd, 1) := by decide +kernel
theorem dX1_whyNoHabit_28 : decode cX1_whyNoHabit 28 = .ok (.invokevirtual 43, 3) := by decide +kernel
theorem dX1_whyNoHabit_31 : decode cX1_whyNoHabit 31 = .ok (.iload_n 3, 1) := by decide +kernel
theorem dX1_whyNoHabit_32 : decode cX1_whyNoHabit 32 = .ok (.if_icmp .ne 5, 3) := by decide +kernel
theorem dX1_whyNoHabit_35 : decode cX1_whyNoHabit 35 = .ok (.iconst 2, 1) := by decide +kernel
theorem dX1_whyNoHabit_36 : decode cX1_whyNoHabit 36 = .ok (.ireturn, 1) := by decide +kernel
theorem dX1_whyNoHabit_37 : decode cX1_whyNoHabit 37 = .ok (.aload_n 1, 1) := by decide +kernel
theorem dX1_whyNoHabit_38 : decode cX1_whyNoHabit 38 = .ok (.sipush 142, 3) := by decide +kernel
theorem dX1_whyNoHabit_41 : decode cX1_whyNoHabit 41 = .ok (.invokevirtual 43, 3) := by decide +kernel
theorem dX1_whyNoHabit_44 : decode cX1_whyNoHabit 44 = .ok (.iconst 1, 1) := by decide +kernel
theorem dX1_whyNoHabit_45 : decode cX1_whyNoHabit 45 = .ok (.if_icmp .ge 7, 3) := by decide +kernel
theorem dX1_whyNoHabit_48 : decode cX1_whyNoHabit 48 = .ok (.iconst 3, 1) := by decide +kernel
theorem dX1_whyNoHabit_49 : decode cX1_whyNoHabit 49 = .ok (.goto 4, 3) := by decide +kernel
theorem dX1_whyNoHabit_52 : decode cX1_whyNoHabit 52 = .ok (.iconst (-1), 1) := by decide +kernel
theorem dX1_whyNoHabit_53 : decode cX1_whyNoHabit 53 = .ok (.ireturn, 1) := by decide +kernel
theorem dX1_carryOut_0 : decode cX1_carryOut 0 = .ok (.iload_n 2, 1) := by decide +kernel
theorem dX1_carryOut_1 : decode cX1_carryOut 1 = .ok (.tableswitch 154 0 6 #[43, 51, 69, 90, 101, 119, 144], 43) := by decide +kernel
theorem dX1_carryOut_44 : decode cX1_carryOut 44 = .ok (.aload_n 0, 1) := by decide +kernel
theorem dX1_carryOut_45 : decode cX1_carryOut 45 = .ok (.aload_n 1, 1) := by decide +kernel
theorem dX1_carryOut_46 : decode cX1_carryOut 46 = .ok (.invokevirtual 146, 3) := by decide +kernel
theorem dX1_carryOut_49 : decode cX1_carryOut 49 = .ok (.goto 106, 3) := by decide +kernel
theorem dX1_carryOut_52 : decode cX1_carryOut 52 = .ok (.aload_n 1, 1) := by decide +kernel
theorem dX1_carryOut_53 : decode cX1_carryOut 53 = .ok (.iconst 0, 1) := by decide +kernel
theorem dX1_carryOut_54 : decode cX1_carryOut 54 = .ok (.iload_n 3, 1) := by decide +kernel
theorem dX1_carryOut_55 : decode cX1_carryOut 55 = .ok (.iadd, 1) := by decide +kernel
theorem dX1_carryOut_56 : decode cX1_carryOut 56 = .ok (.iload 4, 2) := by decide +kernel
theorem dX1_carryOut_58 : decode cX1_carryOut 58 = .ok (.invokevirtual 107, 3) := by decide +kernel
theorem dX1_carryOut_61 : decode cX1_carryOut 61 = .ok (.aload_n 0, 1) := by decide +kernel
theorem dX1_carryOut_62 : decode cX1_carryOut 62 = .ok (.aload_n 1, 1) := by decide +kernel
theorem dX1_carryOut_63 : decode cX1_carryOut 63 = .ok (.iconst 1, 1) := by decide +kernel
theorem dX1_carryOut_64 : decode cX1_carryOut 64 = .ok (.invokevirtual 149, 3) := by decide +kernel
theorem dX1_carryOut_67 : decode cX1_carryOut 67 = .ok (.goto 88, 3) := by decide +kernel
theorem dX1_carryOut_70 : decode cX1_carryOut 70 = .ok (.aload_n 1, 1) := by decide +kernel
theorem dX1_carryOut_71 : decode cX1_carryOut 71 = .ok (.sipush 138, 3) := by decide +kernel
theorem dX1_carryOut_74 : decode cX1_carryOut 74 = .ok (.aload_n 1, 1) := by decide +kernel
theorem dX1_carryOut_75 : decode cX1_carryOut 75 = .ok (.sipush 138, 3) := by decide +kernel
theorem dX1_carryOut_78 : decode cX1_carryOut 78 = .ok (.invokevirtual 43, 3) := by decide +kernel
theorem dX1_carryOut_81 : decode cX1_carryOut 81 = .ok (.iconst 1, 1) := by decide +kernel
theorem dX1_carryOut_82 : decode cX1_carryOut 82 = .ok (.iload_n 3, 1) := by decide +kernel
theorem dX1_carryOut_83 : decode cX1_carryOut 83 = .ok (.ishl, 1) := by decide +kernel
theorem dX1_carryOut_84 : decode cX1_carryOut 84 = .ok (.ixor, 1) := by decide +kernel
theorem dX1_carryOut_85 : decode cX1_carryOut 85 = .ok (.invokevirtual 107, 3) := by decide +kernel
theorem dX1_carryOut_88 : decode cX1_carryOut 88 = .ok (.goto 67, 3) := by decide +kernel
theorem dX1_carryOut_91 : decode cX1_carryOut 91 = .ok (.aload_n 1, 1) := by decide +kernel
theorem dX1_carryOut_92 : decode cX1_carryOut 92 = .ok (.sipush 139, 3) := by decide +kernel
theorem dX1_carryOut_95 : decode cX1_carryOut 95 = .ok (.iload_n 3, 1) := by decide +kernel
theorem dX1_carryOut_96 : decode cX1_carryOut 96 = .ok (.invokevirtual 107, 3) := by decide +kernel
theorem dX1_carryOut_99 : decode cX1_carryOut 99 = .ok (.goto 56, 3) := by decide +kernel
theorem dX1_carryOut_102 : decode cX1_carryOut 102 = .ok (.aload_n 1, 1) := by decide +kernel
theorem dX1_carryOut_103 : decode cX1_carryOut 103 = .ok (.sipush 140, 3) := by decide +kernel
theorem dX1_carryOut_106 : decode cX1_carryOut 106 = .ok (.iconst 1, 1) := by decide +kernel
theorem dX1_carryOut_107 : decode cX1_carryOut 107 = .ok (.invokevirtual 107, 3) := by decide +kernel
theorem dX1_carryOut_110 : decode cX1_carryOut 110 = .ok (.aload_n 0, 1) := by decide +kernel
theorem dX1_carryOut_111 : decode cX1_carryOut 111 = .ok (.aload_n 1, 1) := by decide +kernel
theorem dX1_carryOut_112 : decode cX1_carryOut 112 = .ok (.bipush 10, 2) := by decide +kernel
theorem dX1_carryOut_114 : decode cX1_carryOut 114 = .ok (.invokevirtual 149, 3) := by decide +kernel
theorem dX1_carryOut_117 : decode cX1_carryOut 117 = .ok (.goto 38, 3) := by decide +kernel
theorem dX1_carryOut_120 : decode cX1_carryOut 120 = .ok (.aload_n 1, 1) := by decide +kernel
theorem dX1_carryOut_121 : decode cX1_carryOut 121 = .ok (.sipush 141, 3) := by decide +kernel
theorem dX1_carryOut_124 : decode cX1_carryOut 124 = .ok (.aload_n 1, 1) := by decide +kernel
theorem dX1_carryOut_125 : decode cX1_carryOut 125 = .ok (.sipush 141, 3) := by decide +kernel
theorem dX1_carryOut_128 : decode cX1_carryOut 128 = .ok (.invokevirtual 43, 3) := by decide +kernel
theorem dX1_carryOut_131 : decode cX1_carryOut 131 = .ok (.iload_n 3, 1) := by decide +kernel
theorem dX1_carryOut_132 : decode cX1_carryOut 132 = .ok (.iadd, 1) := by decide +kernel
theorem dX1_carryOut_133 : decode cX1_carryOut 133 = .ok (.invokevirtual 107, 3) := by decide +kernel
theorem dX1_carryOut_136 : decode cX1_carryOut 136 = .ok (.aload_n 0, 1) := by decide +kernel
theorem dX1_carryOut_137 : decode cX1_carryOut 137 = .ok (.aload_n 1, 1) := by decide +kernel
theorem dX1_carryOut_138 : decode cX1_carryOut 138 = .ok (.iload_n 3, 1) := by decide +kernel
theorem dX1_carryOut_139 : decode cX1_carryOut 139 = .ok (.invokevirtual 149, 3) := by decide +kernel
theorem dX1_carryOut_142 : decode cX1_carryOut 142 = .ok (.goto 13, 3) := by decide +kernel
theorem dX1_carryOut_145 : decode cX1_carryOut 145 = .ok (.aload_n 0, 1) := by decide +kernel
theorem dX1_carryOut_146 : decode cX1_carryOut 146 = .ok (.aload_n 1, 1) := by decide +kernel
theorem dX1_carryOut_147 : decode cX1_carryOut 147 = .ok (.iload_n 3, 1) := by decide +kernel
theorem dX1_carryOut_148 : decode cX1_carryOut 148 = .ok (.ineg, 1) := by decide +kernel
theorem dX1_carryOut_149 : decode cX1_carryOut 149 = .ok (.invokevirtual 149, 3) := by decide +kernel
theorem dX1_carryOut_152 : decode cX1_carryOut 152 = .ok (.goto 3, 3) := by decide +kernel
theorem dX1_carryOut_155 : decode cX1_carryOut 155 = .ok (.return_, 1) := by decide +kernel
theorem dX1_spend_0 : decode cX1_spend 0 = .ok (.aload_n 1, 1) := by decide +kernel
theorem dX1_spend_1 : decode cX1_spend 1 = .ok (.sipush 142, 3) := by decide +kernel
theorem dX1_spend_4 : decode cX1_spend 4 = .ok (.aload_n 1, 1) := by decide +kernel
theorem dX1_spend_5 : decode cX1_spend 5 = .ok (.sipush 142, 3) := by decide +kernel
theorem dX1_spend_8 : decode cX1_spend 8 = .ok (.invokevirtual 43, 3) := by decide +kernel
theorem dX1_spend_11 : decode cX1_spend 11 = .ok (.iload_n 2, 1) := by decide +kernel
theorem dX1_spend_12 : decode cX1_spend 12 = .ok (.isub, 1) := by decide +kernel
theorem dX1_spend_13 : decode cX1_spend 13 = .ok (.invokevirtual 107, 3) := by decide +kernel
theorem dX1_spend_16 : decode cX1_spend 16 = .ok (.return_, 1) := by decide +kernel
theorem dX1_canStep_0 : decode cX1_canStep 0 = .ok (.aload_n 0, 1) := by decide +kernel
theorem dX1_canStep_1 : decode cX1_canStep 1 = .ok (.aload_n 1, 1) := by decide +kernel
theorem dX1_canStep_2 : decode cX1_canStep 2 = .ok (.aload_n 2, 1) := by decide +kernel
theorem dX1_canStep_3 : decode cX1_canStep 3 = .ok (.iload_n 3, 1) := by decide +kernel
theorem dX1_canStep_4 : decode cX1_canStep 4 = .ok (.iconst 0, 1) := by decide +kernel
theorem dX1_canStep_5 : decode cX1_canStep 5 = .ok (.invokevirtual 152, 3) := by decide +kernel
theorem dX1_canStep_8 : decode cX1_canStep 8 = .ok (.aload_n 2, 1) := by decide +kernel
theorem dX1_canStep_9 : decode cX1_canStep 9 = .ok (.iload_n 3, 1) := by decide +kernel
theorem dX1_canStep_10 : decode cX1_canStep 10 = .ok (.iconst 1, 1) := by decide +kernel
theorem dX1_canStep_11 : decode cX1_canStep 11 = .ok (.invokevirtual 152, 3) := by decide +kernel
theorem dX1_canStep_14 : decode cX1_canStep 14 = .ok (.aload_n 2, 1) := by decide +kernel
theorem dX1_canStep_15 : decode cX1_canStep 15 = .ok (.iload_n 3, 1) := by decide +kernel
theorem dX1_canStep_16 : decode cX1_canStep 16 = .ok (.iconst 2, 1) := by decide +kernel
theorem dX1_canStep_17 : decode cX1_canStep 17 = .ok (.invokevirtual 152, 3) := by decide +kernel
theorem dX1_canStep_20 : decode cX1_canStep 20 = .ok (.invokevirtual 157, 3) := by decide +kernel
theorem dX1_canStep_23 : decode cX1_canStep 23 = .ok (.iconst (-1), 1) := by decide +kernel
theorem dX1_canStep_24 : decode cX1_canStep 24 = .ok (.if_icmp .ne 7, 3) := by decide +kernel
theorem dX1_canStep_27 : decode cX1_canStep 27 = .ok (.iconst 1, 1) := by decide +kernel
theorem dX1_canStep_28 : decode cX1_canStep 28 = .ok (.goto 4, 3) := by decide +kernel
theorem dX1_canStep_31 : decode cX1_canStep 31 = .ok (.iconst 0, 1) := by decide +kernel
theorem dX1_canStep_32 : decode cX1_canStep 32 = .ok (.ireturn, 1) := by decide +kernel
theorem dX1_setSeed_0 : decode cX1_setSeed 0 = .ok (.aload_n 0, 1) := by decide +kernel
theorem dX1_setSeed_1 : decode cX1_setSeed 1 = .ok (.lload_n 1, 1) := by decide +kernel
theorem dX1_setSeed_2 : decode cX1_setSeed 2 = .ok (.putfield 33, 3) := by decide +kernel
theorem dX1_setSeed_5 : decode cX1_setSeed 5 = .ok (.return_, 1) := by decide +kernel
theorem dX1_drawDay_0 : decode cX1_drawDay 0 = .ok (.aload_n 1, 1) := by decide +kernel
theorem dX1_drawDay_1 : decode cX1_drawDay 1 = .ok (.sipush 139, 3) := by decide +kernel
theorem dX1_drawDay_4 : decode cX1_drawDay 4 = .ok (.aload_n 0, 1) := by decide +kernel
theorem dX1_drawDay_5 : decode cX1_drawDay 5 = .ok (.bipush 10, 2) := by decide +kernel
theorem dX1_drawDay_7 : decode cX1_drawDay 7 = .ok (.invokevirtual 160, 3) := by decide +kernel
theorem dX1_drawDay_10 : decode cX1_drawDay 10 = .ok (.invokevirtual 107, 3) := by decide +kernel
theorem dX1_drawDay_13 : decode cX1_drawDay 13 = .ok (.aload_n 0, 1) := by decide +kernel
theorem dX1_drawDay_14 : decode cX1_drawDay 14 = .ok (.bipush 10, 2) := by decide +kernel
theorem dX1_drawDay_16 : decode cX1_drawDay 16 = .ok (.invokevirtual 160, 3) := by decide +kernel
theorem dX1_drawDay_19 : decode cX1_drawDay 19 = .ok (.iload_n 2, 1) := by decide +kernel
theorem dX1_drawDay_20 : decode cX1_drawDay 20 = .ok (.if_icmp .ge 33, 3) := by decide +kernel
theorem dX1_drawDay_23 : decode cX1_drawDay 23 = .ok (.aload_n 0, 1) := by decide +kernel
theorem dX1_drawDay_24 : decode cX1_drawDay 24 = .ok (.aload_n 0, 1) := by decide +kernel
theorem dX1_drawDay_25 : decode cX1_drawDay 25 = .ok (.getfield 37, 3) := by decide +kernel
theorem dX1_drawDay_28 : decode cX1_drawDay 28 = .ok (.invokevirtual 74, 3) := by decide +kernel
theorem dX1_drawDay_31 : decode cX1_drawDay 31 = .ok (.invokevirtual 160, 3) := by decide +kernel
theorem dX1_drawDay_34 : decode cX1_drawDay 34 = .ok (.istore_n 3, 1) := by decide +kernel
theorem dX1_drawDay_35 : decode cX1_drawDay 35 = .ok (.aload_n 1, 1) := by decide +kernel
theorem dX1_drawDay_36 : decode cX1_drawDay 36 = .ok (.iconst 0, 1) := by decide +kernel
theorem dX1_drawDay_37 : decode cX1_drawDay 37 = .ok (.iload_n 3, 1) := by decide +kernel
theorem dX1_drawDay_38 : decode cX1_drawDay 38 = .ok (.iadd, 1) := by decide +kernel
theorem dX1_drawDay_39 : decode cX1_drawDay 39 = .ok (.aload_n 0, 1) := by decide +kernel
theorem dX1_drawDay_40 : decode cX1_drawDay 40 = .ok (.aload_n 0, 1) := by decide +kernel
theorem dX1_drawDay_41 : decode cX1_drawDay 41 = .ok (.getfield 37, 3) := by decide +kernel
theorem dX1_drawDay_44 : decode cX1_drawDay 44 = .ok (.invokevirtual 163, 3) := by decide +kernel
theorem dX1_drawDay_47 : decode cX1_drawDay 47 = .ok (.invokevirtual 160, 3) := by decide +kernel
theorem dX1_drawDay_50 : decode cX1_drawDay 50 = .ok (.invokevirtual 107, 3) := by decide +kernel
theorem dX1_drawDay_53 : decode cX1_drawDay 53 = .ok (.aload_n 0, 1) := by decide +kernel
theorem dX1_drawDay_54 : decode cX1_drawDay 54 = .ok (.bipush 100, 2) := by decide +kernel
theorem dX1_drawDay_56 : decode cX1_drawDay 56 = .ok (.invokevirtual 160, 3) := by decide +kernel
theorem dX1_drawDay_59 : decode cX1_drawDay 59 = .ok (.iconst 3, 1) := by decide +kernel
theorem dX1_drawDay_60 : decode cX1_drawDay 60 = .ok (.if_icmp .ge 11, 3) := by decide +kernel
theorem dX1_drawDay_63 : decode cX1_drawDay 63 = .ok (.aload_n 1, 1) := by decide +kernel
theorem dX1_drawDay_64 : decode cX1_drawDay 64 = .ok (.sipush 140, 3) := by decide +kernel
theorem dX1_drawDay_67 : decode cX1_drawDay 67 = .ok (.iconst 1, 1) := by decide +kernel
theorem dX1_drawDay_68 : decode cX1_drawDay 68 = .ok (.invokevirtual 107, 3) := by decide +kernel
theorem dX1_drawDay_71 : decode cX1_drawDay 71 = .ok (.return_, 1) := by decide +kernel
theorem dX1_draw_0 : decode cX1_draw 0 = .ok (.aload_n 0, 1) := by decide +kernel
theorem dX1_draw_1 : decode cX1_draw 1 = .ok (.aload_n 0, 1) := by decide +kernel
theorem dX1_draw_2 : decode cX1_draw 2 = .ok (.getfield 33, 3) := by decide +kernel
theorem dX1_draw_5 : decode cX1_draw 5 = .ok (.ldc2_w 166, 3) := by decide +kernel
theorem dX1_draw_8 : decode cX1_draw 8 = .ok (.lmul, 1) := by decide +kernel
theorem dX1_draw_9 : decode cX1_draw 9 = .ok (.ldc2_w 168, 3) := by decide +kernel
theorem dX1_draw_12 : decode cX1_draw 12 = .ok (.ladd, 1) := by decide +kernel
theorem dX1_draw_13 : decode cX1_draw 13 = .ok (.putfield 33, 3) := by decide +kernel
theorem dX1_draw_16 : decode cX1_draw 16 = .ok (.iload_n 1, 1) := by decide +kernel
theorem dX1_draw_17 : decode cX1_draw 17 = .ok (.ifCond .gt 7, 3) := by decide +kernel
theorem dX1_draw_20 : decode cX1_draw 20 = .ok (.iconst 0, 1) := by decide +kernel
theorem dX1_draw_21 : decode cX1_draw 21 = .ok (.goto 14, 3) := by decide +kernel
theorem dX1_draw_24 : decode cX1_draw 24 = .ok (.aload_n 0, 1) := by decide +kernel
theorem dX1_draw_25 : decode cX1_draw 25 = .ok (.getfield 33, 3) := by decide +kernel
theorem dX1_draw_28 : decode cX1_draw 28 = .ok (.bipush 33, 2) := by decide +kernel
theorem dX1_draw_30 : decode cX1_draw 30 = .ok (.lushr, 1) := by decide +kernel
theorem dX1_draw_31 : decode cX1_draw 31 = .ok (.iload_n 1, 1) := by decide +kernel
theorem dX1_draw_32 : decode cX1_draw 32 = .ok (.i2l, 1) := by decide +kernel
theorem dX1_draw_33 : decode cX1_draw 33 = .ok (.lrem, 1) := by decide +kernel
theorem dX1_draw_34 : decode cX1_draw 34 = .ok (.l2i, 1) := by decide +kernel
theorem dX1_draw_35 : decode cX1_draw 35 = .ok (.ireturn, 1) := by decide +kernel
theorem dX2_init_0 : decode cX2_init 0 = .ok (.aload_n 0, 1) := by decide +kernel
theorem dX2_init_1 : decode cX2_init 1 = .ok (.invokespecial 1, 3) := by decide +kernel
theorem dX2_init_4 : decode cX2_init 4 = .ok (.aload_n 0, 1) := by decide +kernel
theorem dX2_init_5 : decode cX2_init 5 = .ok (.bipush 40, 2) := by decide +kernel
theorem dX2_init_7 : decode cX2_init 7 = .ok (.anewarray 9, 3) := by decide +kernel
theorem dX2_init_10 : decode cX2_init 10 = .ok (.putfield 11, 3) := by decide +kernel
theorem dX2_init_13 : decode cX2_init 13 = .ok (.aload_n 0, 1) := by decide +kernel
theorem dX2_init_14 : decode cX2_init 14 = .ok (.iconst 0, 1) := by decide +kernel
theorem dX2_init_15 : decode cX2_init 15 = .ok (.putfield 15, 3) := by decide +kernel
theorem dX2_init_18 : decode cX2_init 18 = .ok (.aload_n 0, 1) := by decide +kernel
theorem dX2_init_19 : decode cX2_init 19 = .ok (.iconst 0, 1) := by decide +kernel
theorem dX2_init_20 : decode cX2_init 20 = .ok (.putfield 19, 3) := by decide +kernel
theorem dX2_init_23 : decode cX2_init 23 = .ok (.iconst 0, 1) := by decide +kernel
theorem dX2_init_24 : decode cX2_init 24 = .ok (.istore_n 1, 1) := by decide +kernel
theorem dX2_init_25 : decode cX2_init 25 = .ok (.iload_n 1, 1) := by decide +kernel
theorem dX2_init_26 : decode cX2_init 26 = .ok (.aload_n 0, 1) := by decide +kernel
theorem dX2_init_27 : decode cX2_init 27 = .ok (.getfield 11, 3) := by decide +kernel
theorem dX2_init_30 : decode cX2_init 30 = .ok (.arraylength, 1) := by decide +kernel
theorem dX2_init_31 : decode cX2_init 31 = .ok (.if_icmp .ge 22, 3) := by decide +kernel
theorem dX2_init_34 : decode cX2_init 34 = .ok (.aload_n 0, 1) := by decide +kernel
theorem dX2_init_35 : decode cX2_init 35 = .ok (.getfield 11, 3) := by decide +kernel
theorem dX2_init_38 : decode cX2_init 38 = .ok (.iload_n 1, 1) := by decide +kernel
theorem dX2_init_39 : decode cX2_init 39 = .ok (.new 9, 3) := by decide +kernel
theorem dX2_init_42 : decode cX2_init 42 = .ok (.dup, 1) := by decide +kernel
theorem dX2_init_43 : decode cX2_init 43 = .ok (.invokespecial 22, 3) := by decide +kernel
theorem dX2_init_46 : decode cX2_init 46 = .ok (.aastore, 1) := by decide +kernel
theorem dX2_init_47 : decode cX2_init 47 = .ok (.iinc 1 1, 3) := by decide +kernel
theorem dX2_init_50 : decode cX2_init 50 = .ok (.goto (-25), 3) := by decide +kernel
theorem dX2_init_53 : decode cX2_init 53 = .ok (.return_, 1) := by decide +kernel
theorem dX2_size_0 : decode cX2_size 0 = .ok (.aload_n 0, 1) := by decide +kernel
theorem dX2_size_1 : decode cX2_size 1 = .ok (.getfield 15, 3) := by decide +kernel
theorem dX2_size_4 : decode cX2_size 4 = .ok (.ireturn, 1) := by decide +kernel
theorem dX2_clear_0 : decode cX2_clear 0 = .ok (.aload_n 0, 1) := by decide +kernel
theorem dX2_clear_1 : decode cX2_clear 1 = .ok (.iconst 0, 1) := by decide +kernel
theorem dX2_clear_2 : decode cX2_clear 2 = .ok (.putfield 15, 3) := by decide +kernel
theorem dX2_clear_5 : decode cX2_clear 5 = .ok (.return_, 1) := by decide +kernel
theorem dX2_keep_0 : decode cX2_keep 0 = .ok (.aload_n 0, 1) := by decide +kernel
theorem dX2_keep_1 : decode cX2_keep 1 = .ok (.aload_n 0, 1) := by decide +kernel
theorem dX2_keep_2 : decode cX2_keep 2 = .ok (.getfield 19, 3) := by decide +kernel
theorem dX2_keep_5 : decode cX2_keep 5 = .ok (.invokevirtual 23, 3) := by decide +kernel
theorem dX2_keep_8 : decode cX2_keep 8 = .ok (.astore_n 2, 1) := by decide +kernel
theorem dX2_keep_9 : decode cX2_keep 9 = .ok (.aload_n 2, 1) := by decide +kernel
theorem dX2_keep_10 : decode cX2_keep 10 = .ok (.ifnull 36, 3) := by decide +kernel
theorem dX2_keep_13 : decode cX2_keep 13 = .ok (.aload_n 2, 1) := by decide +kernel
theorem dX2_keep_14 : decode cX2_keep 14 = .ok (.aload_n 1, 1) := by decide +kernel
theorem dX2_keep_15 : decode cX2_keep 15 = .ok (.invokevirtual 27, 3) := by decide +kernel
theorem dX2_keep_18 : decode cX2_keep 18 = .ok (.aload_n 0, 1) := by decide +kernel
theorem dX2_keep_19 : decode cX2_keep 19 = .ok (.aload_n 0, 1) := by decide +kernel
theorem dX2_keep_20 : decode cX2_keep 20 = .ok (.getfield 19, 3) := by decide +kernel
theorem dX2_keep_23 : decode cX2_keep 23 = .ok (.iconst 1, 1) := by decide +kernel
theorem dX2_keep_24 : decode cX2_keep 24 = .ok (.iadd, 1) := by decide +kernel
theorem dX2_keep_25 : decode cX2_keep 25 = .ok (.bipush 40, 2) := by decide +kernel
theorem dX2_keep_27 : decode cX2_keep 27 = .ok (.irem, 1) := by decide +kernel
theorem dX2_keep_28 : decode cX2_keep 28 = .ok (.putfield 19, 3) := by decide +kernel
theorem dX2_keep_31 : decode cX2_keep 31 = .ok (.aload_n 0, 1) := by decide +kernel
theorem dX2_keep_32 : decode cX2_keep 32 = .ok (.bipush 40, 2) := by decide +kernel
theorem dX2_keep_34 : decode cX2_keep 34 = .ok (.aload_n 0, 1) := by decide +kernel
theorem dX2_keep_35 : decode cX2_keep 35 = .ok (.getfield 15, 3) := by decide +kernel
theorem dX2_keep_38 : decode cX2_keep 38 = .ok (.iconst 1, 1) := by decide +kernel
theorem dX2_keep_39 : decode cX2_keep 39 = .ok (.iadd, 1) := by decide +kernel
theorem dX2_keep_40 : decode cX2_keep 40 = .ok (.invokestatic 31, 3) := by decide +kernel
theorem dX2_keep_43 : decode cX2_keep 43 = .ok (.putfield 15, 3) := by decide +kernel
theorem dX2_keep_46 : decode cX2_keep 46 = .ok (.return_, 1) := by decide +kernel
theorem dX2_restores_0 : decode cX2_restores 0 = .ok (.aload_n 0, 1) := by decide +kernel
theorem dX2_restores_1 : decode cX2_restores 1 = .ok (.getfield 19, 3) := by decide +kernel
theorem dX2_restores_4 : decode cX2_restores 4 = .ok (.bipush 40, 2) := by decide +kernel
theorem dX2_restores_6 : decode cX2_restores 6 = .ok (.iadd, 1) := by decide +kernel
theorem dX2_restores_7 : decode cX2_restores 7 = .ok (.iconst 1, 1) := by decide +kernel
theorem dX2_restores_8 : decode cX2_restores 8 = .ok (.isub, 1) := by decide +kernel
theorem dX2_restores_9 : decode cX2_restores 9 = .ok (.bipush 40, 2) := by decide +kernel
theorem dX2_restores_11 : decode cX2_restores 11 = .ok (.irem, 1) := by decide +kernel
theorem dX2_restores_12 : decode cX2_restores 12 = .ok (.istore_n 2, 1) := by decide +kernel
theorem dX2_restores_13 : decode cX2_restores 13 = .ok (.aload_n 0, 1) := by decide +kernel
theorem dX2_restores_14 : decode cX2_restores 14 = .ok (.iload_n 2, 1) := by decide +kernel
theorem dX2_restores_15 : decode cX2_restores 15 = .ok (.invokevirtual 23, 3) := by decide +kernel
theorem dX2_restores_18 : decode cX2_restores 18 = .ok (.astore_n 3, 1) := by decide +kernel
theorem dX2_restores_19 : decode cX2_restores 19 = .ok (.aload_n 0, 1) := by decide +kernel
theorem dX2_restores_20 : decode cX2_restores 20 = .ok (.getfield 15, 3) := by decide +kernel
theorem dX2_restores_23 : decode cX2_restores 23 = .ok (.ifCond .eq 7, 3) := by decide +kernel
theorem dX2_restores_26 : decode cX2_restores 26 = .ok (.aload_n 3, 1) := by decide +kernel
theorem dX2_restores_27 : decode cX2_restores 27 = .ok (.ifnonnull 5, 3) := by decide +kernel
theorem dX2_restores_30 : decode cX2_restores 30 = .ok (.iconst 0, 1) := by decide +kernel
theorem dX2_restores_31 : decode cX2_restores 31 = .ok (.ireturn, 1) := by decide +kernel
theorem dX2_restores_32 : decode cX2_restores 32 = .ok (.aload_n 1, 1) := by decide +kernel
theorem dX2_restores_33 : decode cX2_restores 33 = .ok (.aload_n 3, 1) := by decide +kernel
theorem dX2_restores_34 : decode cX2_restores 34 = .ok (.invokevirtual 27, 3) := by decide +kernel
theorem dX2_restores_37 : decode cX2_restores 37 = .ok (.aload_n 0, 1) := by decide +kernel
theorem dX2_restores_38 : decode cX2_restores 38 = .ok (.iload_n 2, 1) := by decide +kernel
theorem dX2_restores_39 : decode cX2_restores 39 = .ok (.putfield 19, 3) := by decide +kernel
theorem dX2_restores_42 : decode cX2_restores 42 = .ok (.aload_n 0, 1) := by decide +kernel
theorem dX2_restores_43 : decode cX2_restores 43 = .ok (.dup, 1) := by decide +kernel
theorem dX2_restores_44 : decode cX2_restores 44 = .ok (.getfield 15, 3) := by decide +kernel
theorem dX2_restores_47 : decode cX2_restores 47 = .ok (.iconst 1, 1) := by decide +kernel
theorem dX2_restores_48 : decode cX2_restores 48 = .ok (.isub, 1) := by decide +kernel
theorem dX2_restores_49 : decode cX2_restores 49 = .ok (.putfield 15, 3) := by decide +kernel
theorem dX2_restores_52 : decode cX2_restores 52 = .ok (.iconst 1, 1) := by decide +kernel
theorem dX2_restores_53 : decode cX2_restores 53 = .ok (.ireturn, 1) := by decide +kernel
theorem dX2_stateAt_0 : decode cX2_stateAt 0 = .ok (.iload_n 1, 1) := by decide +kernel
theorem dX2_stateAt_1 : decode cX2_stateAt 1 = .ok (.ifCond .lt 21, 3) := by decide +kernel
theorem dX2_stateAt_4 : decode cX2_stateAt 4 = .ok (.iload_n 1, 1) := by decide +kernel
theorem dX2_stateAt_5 : decode cX2_stateAt 5 = .ok (.aload_n 0, 1) := by decide +kernel
theorem dX2_stateAt_6 : decode cX2_stateAt 6 = .ok (.getfield 11, 3) := by decide +kernel
theorem dX2_stateAt_9 : decode cX2_stateAt 9 = .ok (.arraylength, 1) := by decide +kernel
theorem dX2_stateAt_10 : decode cX2_stateAt 10 = .ok (.if_icmp .ge 12, 3) := by decide +kernel
theorem dX2_stateAt_13 : decode cX2_stateAt 13 = .ok (.aload_n 0, 1) := by decide +kernel
theorem dX2_stateAt_14 : decode cX2_stateAt 14 = .ok (.getfield 11, 3) := by decide +kernel
theorem dX2_stateAt_17 : decode cX2_stateAt 17 = .ok (.iload_n 1, 1) := by decide +kernel
theorem dX2_stateAt_18 : decode cX2_stateAt 18 = .ok (.aaload, 1) := by decide +kernel
theorem dX2_stateAt_19 : decode cX2_stateAt 19 = .ok (.goto 4, 3) := by decide +kernel
theorem dX2_stateAt_22 : decode cX2_stateAt 22 = .ok (.aconst_null, 1) := by decide +kernel
theorem dX2_stateAt_23 : decode cX2_stateAt 23 = .ok (.areturn, 1) := by decide +kernel
theorem dX3_init_0 : decode cX3_init 0 = .ok (.aload_n 0, 1) := by decide +kernel
theorem dX3_init_1 : decode cX3_init 1 = .ok (.sipush 240, 3) := by decide +kernel
theorem dX3_init_4 : decode cX3_init 4 = .ok (.invokespecial 3, 3) := by decide +kernel
theorem dX3_init_7 : decode cX3_init 7 = .ok (.aload_n 0, 1) := by decide +kernel
theorem dX3_init_8 : decode cX3_init 8 = .ok (.iconst 0, 1) := by decide +kernel
theorem dX3_init_9 : decode cX3_init 9 = .ok (.putfield 9, 3) := by decide +kernel
theorem dX3_init_12 : decode cX3_init 12 = .ok (.return_, 1) := by decide +kernel
theorem dX3_clear_0 : decode cX3_clear 0 = .ok (.aload_n 0, 1) := by decide +kernel
theorem dX3_clear_1 : decode cX3_clear 1 = .ok (.iconst 0, 1) := by decide +kernel
theorem dX3_clear_2 : decode cX3_clear 2 = .ok (.putfield 9, 3) := by decide +kernel
theorem dX3_clear_5 : decode cX3_clear 5 = .ok (.return_, 1) := by decide +kernel
theorem dX3_add_0 : decode cX3_add 0 = .ok (.aload_n 0, 1) := by decide +kernel
theorem dX3_add_1 : decode cX3_add 1 = .ok (.getfield 9, 3) := by decide +kernel
theorem dX3_add_4 : decode cX3_add 4 = .ok (.sipush 240, 3) := by decide +kernel
theorem dX3_add_7 : decode cX3_add 7 = .ok (.if_icmp .ge 22, 3) := by decide +kernel
theorem dX3_add_10 : decode cX3_add 10 = .ok (.aload_n 0, 1) := by decide +kernel
theorem dX3_add_11 : decode cX3_add 11 = .ok (.aload_n 0, 1) := by decide +kernel
theorem dX3_add_12 : decode cX3_add 12 = .ok (.getfield 9, 3) := by decide +kernel
theorem dX3_add_15 : decode cX3_add 15 = .ok (.iload_n 1, 1) := by decide +kernel
theorem dX3_add_16 : decode cX3_add 16 = .ok (.invokevirtual 15, 3) := by decide +kernel
theorem dX3_add_19 : decode cX3_add 19 = .ok (.aload_n 0, 1) := by decide +kernel
theorem dX3_add_20 : decode cX3_add 20 = .ok (.dup, 1) := by decide +kernel
theorem dX3_add_21 : decode cX3_add 21 = .ok (.getfield 9, 3) := by decide +kernel
theorem dX3_add_24 : decode cX3_add 24 = .ok (.iconst 1, 1) := by decide +kernel
theorem dX3_add_25 : decode cX3_add 25 = .ok (.iadd, 1) := by decide +kernel
theorem dX3_add_26 : decode cX3_add 26 = .ok (.putfield 9, 3) := by decide +kernel
theorem dX3_add_29 : decode cX3_add 29 = .ok (.return_, 1) := by decide +kernel
theorem dX3_worth_0 : decode cX3_worth 0 = .ok (.iconst 0, 1) := by decide +kernel
theorem dX3_worth_1 : decode cX3_worth 1 = .ok (.istore_n 3, 1) := by decide +kernel
theorem dX3_worth_2 : decode cX3_worth 2 = .ok (.iconst 0, 1) := by decide +kernel
theorem dX3_worth_3 : decode cX3_worth 3 = .ok (.istore 4, 2) := by decide +kernel
theorem dX3_worth_5 : decode cX3_worth 5 = .ok (.iconst 0, 1) := by decide +kernel
theorem dX3_worth_6 : decode cX3_worth 6 = .ok (.istore 5, 2) := by decide +kernel
theorem dX3_worth_8 : decode cX3_worth 8 = .ok (.iload 5, 2) := by decide +kernel
theorem dX3_worth_10 : decode cX3_worth 10 = .ok (.aload_n 0, 1) := by decide +kernel
theorem dX3_worth_11 : decode cX3_worth 11 = .ok (.getfield 9, 3) := by decide +kernel
theorem dX3_worth_14 : decode cX3_worth 14 = .ok (.if_icmp .ge 180, 3) := by decide +kernel
theorem dX3_worth_17 : decode cX3_worth 17 = .ok (.aload_n 0, 1) := by decide +kernel
theorem dX3_worth_18 : decode cX3_worth 18 = .ok (.iload 5, 2) := by decide +kernel
theorem dX3_worth_20 : decode cX3_worth 20 = .ok (.invokevirtual 19, 3) := by decide +kernel
theorem dX3_worth_23 : decode cX3_worth 23 = .ok (.istore 6, 2) := by decide +kernel
theorem dX3_worth_25 : decode cX3_worth 25 = .ok (.iload 4, 2) := by decide +kernel
theorem dX3_worth_27 : decode cX3_worth 27 = .ok (.ifCond .eq 20, 3) := by decide +kernel
theorem dX3_worth_30 : decode cX3_worth 30 = .ok (.iload 6, 2) := by decide +kernel
theorem dX3_worth_32 : decode cX3_worth 32 = .ok (.bipush (-59), 2) := by decide +kernel
theorem dX3_worth_34 : decode cX3_worth 34 = .ok (.if_icmp .eq 7, 3) := by decide +kernel
theorem dX3_worth_37 : decode cX3_worth 37 = .ok (.iconst 1, 1) := by decide +kernel
theorem dX3_worth_38 : decode cX3_worth 38 = .ok (.goto 4, 3) := by decide +kernel
theorem dX3_worth_41 : decode cX3_worth 41 = .ok (.iconst 0, 1) := by decide +kernel
theorem dX3_worth_42 : decode cX3_worth 42 = .ok (.istore 4, 2) := by decide +kernel
theorem dX3_worth_44 : decode cX3_worth 44 = .ok (.goto 144, 3) := by decide +kernel
theorem dX3_worth_47 : decode cX3_worth 47 = .ok (.iload 6, 2) := by decide +kernel
theorem dX3_worth_49 : decode cX3_worth 49 = .ok (.ifCond .lt 16, 3) := by decide +kernel
theorem dX3_worth_52 : decode cX3_worth 52 = .ok (.aload_n 2, 1) := by decide +kernel
theorem dX3_worth_53 : decode cX3_worth 53 = .ok (.iload_n 3, 1) := by decide +kernel
theorem dX3_worth_54 : decode cX3_worth 54 = .ok (.iload 6, 2) := by decide +kernel
theorem dX3_worth_56 : decode cX3_worth 56 = .ok (.invokevirtual 23, 3) := by decide +kernel
theorem dX3_worth_59 : decode cX3_worth 59 = .ok (.iinc 3 1, 3) := by decide +kernel
theorem dX3_worth_62 : decode cX3_worth 62 = .ok (.goto 126, 3) := by decide +kernel
theorem dX3_worth_65 : decode cX3_worth 65 = .ok (.iload 6, 2) := by decide +kernel
theorem dX3_worth_67 : decode cX3_worth 67 = .ok (.bipush (-6), 2) := by decide +kernel
theorem dX3_worth_69 : decode cX3_worth 69 = .ok (.if_icmp .lt 22, 3) := by decide +kernel
theorem dX3_worth_72 : decode cX3_worth 72 = .ok (.aload_n 2, 1) := by decide +kernel
theorem dX3_worth_73 : decode cX3_worth 73 = .ok (.iload_n 3, 1) := by decide +kernel
theorem dX3_worth_74 : decode cX3_worth 74 = .ok (.aload_n 1, 1) := by decide +kernel
theorem dX3_worth_75 : decode cX3_worth 75 = .ok (.iconst (-1), 1) := by decide +kernel
theorem dX3_worth_76 : decode cX3_worth 76 = .ok (.iload 6, 2) := by decide +kernel
theorem dX3_worth_78 : decode cX3_worth 78 = .ok (.isub, 1) := by decide +kernel
theorem dX3_worth_79 : decode cX3_worth 79 = .ok (.invokevirtual 24, 3) := by decide +kernel
theorem dX3_worth_82 : decode cX3_worth 82 = .ok (.invokevirtual 23, 3) := by decide +kernel
theorem dX3_worth_85 : decode cX3_worth 85 = .ok (.iinc 3 1, 3) := by decide +kernel
theorem dX3_worth_88 : decode cX3_worth 88 = .ok (.goto 100, 3) := by decide +kernel
theorem dX3_worth_91 : decode cX3_worth 91 = .ok (.iload 6, 2) := by decide +kernel
theorem dX3_worth_93 : decode cX3_worth 93 = .ok (.bipush (-59), 2) := by decide +kernel
theorem dX3_worth_95 : decode cX3_worth 95 = .ok (.if_icmp .ne 11, 3) := by decide +kernel
theorem dX3_worth_98 : decode cX3_worth 98 = .ok (.aload_n 2, 1) := by decide +kernel
theorem dX3_worth_99 : decode cX3_worth 99 = .ok (.iload_n 3, 1) := by decide +kernel
theorem dX3_worth_100 : decode cX3_worth 100 = .ok (.iconst 1, 1) := by decide +kernel
theorem dX3_worth_101 : decode cX3_worth 101 = .ok (.isub, 1) := by decide +kernel
theorem dX3_worth_102 : decode cX3_worth 102 = .ok (.invokevirtual 24, 3) := by decide +kernel
theorem dX3_worth_105 : decode cX3_worth 105 = .ok (.ireturn, 1) := by decide +kernel
theorem dX3_worth_106 : decode cX3_worth 106 = .ok (.iload 6, 2) := by decide +kernel
theorem dX3_worth_108 : decode cX3_worth 108 = .ok (.bipush (-63), 2) := by decide +kernel
theorem dX3_worth_110 : decode cX3_worth 110 = .ok (.if_icmp .ne 24, 3) := by decide +kernel
theorem dX3_worth_113 : decode cX3_worth 113 = .ok (.iinc 3 (-1), 3) := by decide +kernel
theorem dX3_worth_116 : decode cX3_worth 116 = .ok (.aload_n 2, 1) := by decide +kernel
theorem dX3_worth_117 : decode cX3_worth 117 = .ok (.iload_n 3, 1) := by decide +kernel
theorem dX3_worth_118 : decode cX3_worth 118 = .ok (.invokevirtual 24, 3) := by decide +kernel
theorem dX3_worth_121 : decode cX3_worth 121 = .ok (.ifCond .ne 7, 3) := by decide +kernel
theorem dX3_worth_124 : decode cX3_worth 124 = .ok (.iconst 1, 1) := by decide +kernel
theorem dX3_worth_125 : decode cX3_worth 125 = .ok (.goto 4, 3) := by decide +kernel
theorem dX3_worth_128 : decode cX3_worth 128 = .ok (.iconst 0, 1) := by decide +kernel
theorem dX3_worth_129 : decode cX3_worth 129 = .ok (.istore 4, 2) := by decide +kernel
theorem dX3_worth_131 : decode cX3_worth 131 = .ok (.goto 57, 3) := by decide +kernel
theorem dX3_worth_134 : decode cX3_worth 134 = .ok (.iload 6, 2) := by decide +kernel
theorem dX3_worth_136 : decode cX3_worth 136 = .ok (.bipush (-33), 2) := by decide +kernel
theorem dX3_worth_138 : decode cX3_worth 138 = .ok (.if_icmp .ne 22, 3) := by decide +kernel
theorem dX3_worth_141 : decode cX3_worth 141 = .ok (.aload_n 2, 1) := by decide +kernel
theorem dX3_worth_142 : decode cX3_worth 142 = .ok (.iload_n 3, 1) := by decide +kernel
theorem dX3_worth_143 : decode cX3_worth 143 = .ok (.iconst 1, 1) := by decide +kernel
theorem dX3_worth_144 : decode cX3_worth 144 = .ok (.isub, 1) := by decide +kernel
theorem dX3_worth_145 : decode cX3_worth 145 = .ok (.iconst 1, 1) := by decide +kernel
theorem dX3_worth_146 : decode cX3_worth 146 = .ok (.aload_n 2, 1) := by decide +kernel
theorem dX3_worth_147 : decode cX3_worth 147 = .ok (.iload_n 3, 1) := by decide +kernel
theorem dX3_worth_148 : decode cX3_worth 148 = .ok (.iconst 1, 1) := by decide +kernel
theorem dX3_worth_149 : decode cX3_worth 149 = .ok (.isub, 1) := by decide +kernel
theorem dX3_worth_150 : decode cX3_worth 150 = .ok (.invokevirtual 24, 3) := by decide +kernel
theorem dX3_worth_153 : decode cX3_worth 153 = .ok (.isub, 1) := by decide +kernel
theorem dX3_worth_154 : decode cX3_worth 154 = .ok (.invokevirtual 23, 3) := by decide +kernel
theorem dX3_worth_157 : decode cX3_worth 157 = .ok (.goto 31, 3) := by decide +kernel
theorem dX3_worth_160 : decode cX3_worth 160 = .ok (.iinc 3 (-1), 3) := by decide +kernel
theorem dX3_worth_163 : decode cX3_worth 163 = .ok (.aload_n 2, 1) := by decide +kernel
theorem dX3_worth_164 : decode cX3_worth 164 = .ok (.iload_n 3, 1) := by decide +kernel
theorem dX3_worth_165 : decode cX3_worth 165 = .ok (.iconst 1, 1) := by decide +kernel
theorem dX3_worth_166 : decode cX3_worth 166 = .ok (.isub, 1) := by decide +kernel
theorem dX3_worth_167 : decode cX3_worth 167 = .ok (.iload 6, 2) := by decide +kernel
theorem dX3_worth_169 : decode cX3_worth 169 = .ok (.ineg, 1) := by decide +kernel
theorem dX3_worth_170 : decode cX3_worth 170 = .ok (.aload_n 2, 1) := by decide +kernel
theorem dX3_worth_171 : decode cX3_worth 171 = .ok (.iload_n 3, 1) := by decide +kernel
theorem dX3_worth_172 : decode cX3_worth 172 = .ok (.iconst 1, 1) := by decide +kernel
theorem dX3_worth_173 : decode cX3_worth 173 = .ok (.isub, 1) := by decide +kernel
theorem dX3_worth_174 : decode cX3_worth 174 = .ok (.invokevirtual 24, 3) := by decide +kernel
theorem dX3_worth_177 : decode cX3_worth 177 = .ok (.aload_n 2, 1) := by decide +kernel
theorem dX3_worth_178 : decode cX3_worth 178 = .ok (.iload_n 3, 1) := by decide +kernel
theorem dX3_worth_179 : decode cX3_worth 179 = .ok (.invokevirtual 24, 3) := by decide +kernel
theorem dX3_worth_182 : decode cX3_worth 182 = .ok (.invokestatic 25, 3) := by decide +kernel
theorem dX3_worth_185 : decode cX3_worth 185 = .ok (.invokevirtual 23, 3) := by decide +kernel
theorem dX3_worth_188 : decode cX3_worth 188 = .ok (.iinc 5 1, 3) := by decide +kernel
theorem dX3_worth_191 : decode cX3_worth 191 = .ok (.goto (-183), 3) := by decide +kernel
theorem dX3_worth_194 : decode cX3_worth 194 = .ok (.iconst 0, 1) := by decide +kernel
theorem dX3_worth_195 : decode cX3_worth 195 = .ok (.ireturn, 1) := by decide +kernel
theorem dX3_joined_0 : decode cX3_joined 0 = .ok (.lconst 0, 1) := by decide +kernel
theorem dX3_joined_1 : decode cX3_joined 1 = .ok (.lstore_n 3, 1) := by decide +kernel
theorem dX3_joined_2 : decode cX3_joined 2 = .ok (.iload_n 0, 1) := by decide +kernel
theorem dX3_joined_3 : decode cX3_joined 3 = .ok (.lookupswitch 183 #[(38, 89), (42, 157), (43, 139), (45, 148), (47, 166), (60, 111), (61, 97), (62, 125), (124, 81)], 81) := by decide +kernel
theorem dX3_joined_84 : decode cX3_joined 84 = .ok (.iload_n 1, 1) := by decide +kernel
theorem dX3_joined_85 : decode cX3_joined 85 = .ok (.iload_n 2, 1) := by decide +kernel
theorem dX3_joined_86 : decode cX3_joined 86 = .ok (.ior, 1) := by decide +kernel
theorem dX3_joined_87 : decode cX3_joined 87 = .ok (.i2l, 1) := by decide +kernel
theorem dX3_joined_88 : decode cX3_joined 88 = .ok (.lstore_n 3, 1) := by decide +kernel
theorem dX3_joined_89 : decode cX3_joined 89 = .ok (.goto 97, 3) := by decide +kernel
theorem dX3_joined_92 : decode cX3_joined 92 = .ok (.iload_n 1, 1) := by decide +kernel
theorem dX3_joined_93 : decode cX3_joined 93 = .ok (.iload_n 2, 1) := by decide +kernel
theorem dX3_joined_94 : decode cX3_joined 94 = .ok (.iand, 1) := by decide +kernel
theorem dX3_joined_95 : decode cX3_joined 95 = .ok (.i2l, 1) := by decide +kernel
theorem dX3_joined_96 : decode cX3_joined 96 = .ok (.lstore_n 3, 1) := by decide +kernel
theorem dX3_joined_97 : decode cX3_joined 97 = .ok (.goto 89, 3) := by decide +kernel
theorem dX3_joined_100 : decode cX3_joined 100 = .ok (.iload_n 1, 1) := by decide +kernel
theorem dX3_joined_101 : decode cX3_joined 101 = .ok (.iload_n 2, 1) := by decide +kernel
theorem dX3_joined_102 : decode cX3_joined 102 = .ok (.if_icmp .ne 7, 3) := by decide +kernel
theorem dX3_joined_105 : decode cX3_joined 105 = .ok (.lconst 1, 1) := by decide +kernel
theorem dX3_joined_106 : decode cX3_joined 106 = .ok (.goto 4, 3) := by decide +kernel
theorem dX3_joined_109 : decode cX3_joined 109 = .ok (.lconst 0, 1) := by decide +kernel
theorem dX3_joined_110 : decode cX3_joined 110 = .ok (.lstore_n 3, 1) := by decide +kernel
theorem dX3_joined_111 : decode cX3_joined 111 = .ok (.goto 75, 3) := by decide +kernel
theorem dX3_joined_114 : decode cX3_joined 114 = .ok (.iload_n 1, 1) := by decide +kernel
theorem dX3_joined_115 : decode cX3_joined 115 = .ok (.iload_n 2, 1) := by decide +kernel
theorem dX3_joined_116 : decode cX3_joined 116 = .ok (.if_icmp .ge 7, 3) := by decide +kernel
theorem dX3_joined_119 : decode cX3_joined 119 = .ok (.lconst 1, 1) := by decide +kernel
theorem dX3_joined_120 : decode cX3_joined 120 = .ok (.goto 4, 3) := by decide +kernel
theorem dX3_joined_123 : decode cX3_joined 123 = .ok (.lconst 0, 1) := by decide +kernel
theorem dX3_joined_124 : decode cX3_joined 124 = .ok (.lstore_n 3, 1) := by decide +kernel
theorem dX3_joined_125 : decode cX3_joined 125 = .ok (.goto 61, 3) := by decide +kernel
theorem dX3_joined_128 : decode cX3_joined 128 = .ok (.iload_n 1, 1) := by decide +kernel
theorem dX3_joined_129 : decode cX3_joined 129 = .ok (.iload_n 2, 1) := by decide +kernel
theorem dX3_joined_130 : decode cX3_joined 130 = .ok (.if_icmp .le 7, 3) := by decide +kernel
theorem dX3_joined_133 : decode cX3_joined 133 = .ok (.lconst 1, 1) := by decide +kernel
theorem dX3_joined_134 : decode cX3_joined 134 = .ok (.goto 4, 3) := by decide +kernel
theorem dX3_joined_137 : decode cX3_joined 137 = .ok (.lconst 0, 1) := by decide +kernel
theorem dX3_joined_138 : decode cX3_joined 138 = .ok (.lstore_n 3, 1) := by decide +kernel
theorem dX3_joined_139 : decode cX3_joined 139 = .ok (.goto 47, 3) := by decide +kernel
theorem dX3_joined_142 : decode cX3_joined 142 = .ok (.iload_n 1, 1) := by decide +kernel
theorem dX3_joined_143 : decode cX3_joined 143 = .ok (.i2l, 1) := by decide +kernel
theorem dX3_joined_144 : decode cX3_joined 144 = .ok (.iload_n 2, 1) := by decide +kernel
theorem dX3_joined_145 : decode cX3_joined 145 = .ok (.i2l, 1) := by decide +kernel
theorem dX3_joined_146 : decode cX3_joined 146 = .ok (.ladd, 1) := by decide +kernel
theorem dX3_joined_147 : decode cX3_joined 147 = .ok (.lstore_n 3, 1) := by decide +kernel
theorem dX3_joined_148 : decode cX3_joined 148 = .ok (.goto 38, 3) := by decide +kernel
theorem dX3_joined_151 : decode cX3_joined 151 = .ok (.iload_n 1, 1) := by decide +kernel
theorem dX3_joined_152 : decode cX3_joined 152 = .ok (.i2l, 1) := by decide +kernel
theorem dX3_joined_153 : decode cX3_joined 153 = .ok (.iload_n 2, 1) := by decide +kernel
theorem dX3_joined_154 : decode cX3_joined 154 = .ok (.i2l, 1) := by decide +kernel
theorem dX3_joined_155 : decode cX3_joined 155 = .ok (.lsub, 1) := by decide +kernel
theorem dX3_joined_156 : decode cX3_joined 156 = .ok (.lstore_n 3, 1) := by decide +kernel
theorem dX3_joined_157 : decode cX3_joined 157 = .ok (.goto 29, 3) := by decide +kernel
theorem dX3_joined_160 : decode cX3_joined 160 = .ok (.iload_n 1, 1) := by decide +kernel
theorem dX3_joined_161 : decode cX3_joined 161 = .ok (.i2l, 1) := by decide +kernel
theorem dX3_joined_162 : decode cX3_joined 162 = .ok (.iload_n 2, 1) := by decide +kernel
theorem dX3_joined_163 : decode cX3_joined 163 = .ok (.i2l, 1) := by decide +kernel
theorem dX3_joined_164 : decode cX3_joined 164 = .ok (.lmul, 1) := by decide +kernel
theorem dX3_joined_165 : decode cX3_joined 165 = .ok (.lstore_n 3, 1) := by decide +kernel
theorem dX3_joined_166 : decode cX3_joined 166 = .ok (.goto 20, 3) := by decide +kernel
theorem dX3_joined_169 : decode cX3_joined 169 = .ok (.iload_n 2, 1) := by decide +kernel
theorem dX3_joined_170 : decode cX3_joined 170 = .ok (.ifCond .ne 7, 3) := by decide +kernel
theorem dX3_joined_173 : decode cX3_joined 173 = .ok (.lconst 0, 1) := by decide +kernel
theorem dX3_joined_174 : decode cX3_joined 174 = .ok (.goto 8, 3) := by decide +kernel
theorem dX3_joined_177 : decode cX3_joined 177 = .ok (.iload_n 1, 1) := by decide +kernel
theorem dX3_joined_178 : decode cX3_joined 178 = .ok (.i2l, 1) := by decide +kernel
theorem dX3_joined_179 : decode cX3_joined 179 = .ok (.iload_n 2, 1) := by decide +kernel
theorem dX3_joined_180 : decode cX3_joined 180 = .ok (.i2l, 1) := by decide +kernel
theorem dX3_joined_181 : decode cX3_joined 181 = .ok (.ldiv, 1) := by decide +kernel
theorem dX3_joined_182 : decode cX3_joined 182 = .ok (.lstore_n 3, 1) := by decide +kernel
theorem dX3_joined_183 : decode cX3_joined 183 = .ok (.goto 3, 3) := by decide +kernel
theorem dX3_joined_186 : decode cX3_joined 186 = .ok (.lload_n 3, 1) := by decide +kernel
theorem dX3_joined_187 : decode cX3_joined 187 = .ok (.ldc2_w 29, 3) := by decide +kernel
theorem dX3_joined_190 : decode cX3_joined 190 = .ok (.lcmp, 1) := by decide +kernel
theorem dX3_joined_191 : decode cX3_joined 191 = .ok (.ifCond .ge 8, 3) := by decide +kernel
theorem dX3_joined_194 : decode cX3_joined 194 = .ok (.ldc 31, 2) := by decide +kernel
theorem dX3_joined_196 : decode cX3_joined 196 = .ok (.goto 18, 3) := by decide +kernel
theorem dX3_joined_199 : decode cX3_joined 199 = .ok (.lload_n 3, 1) := by decide +kernel
theorem dX3_joined_200 : decode cX3_joined 200 = .ok (.ldc2_w 32, 3) := by decide +kernel
theorem dX3_joined_203 : decode cX3_joined 203 = .ok (.lcmp, 1) := by decide +kernel
theorem dX3_joined_204 : decode cX3_joined 204 = .ok (.ifCond .le 8, 3) := by decide +kernel
theorem dX3_joined_207 : decode cX3_joined 207 = .ok (.ldc 34, 2) := by decide +kernel
theorem dX3_joined_209 : decode cX3_joined 209 = .ok (.goto 5, 3) := by decide +kernel
theorem dX3_joined_212 : decode cX3_joined 212 = .ok (.lload_n 3, 1) := by decide +kernel
theorem dX3_joined_213 : decode cX3_joined 213 = .ok (.l2i, 1) := by decide +kernel
theorem dX3_joined_214 : decode cX3_joined 214 = .ok (.ireturn, 1) := by decide +kernel
theorem dX4_init_0 : decode cX4_init 0 = .ok (.aload_n 0, 1) := by decide +kernel
theorem dX4_init_1 : decode cX4_init 1 = .ok (.invokespecial 3, 3) := by decide +kernel
theorem dX4_init_4 : decode cX4_init 4 = .ok (.aload_n 0, 1) := by decide +kernel
theorem dX4_init_5 : decode cX4_init 5 = .ok (.new 9, 3) := by decide +kernel
theorem dX4_init_8 : decode cX4_init 8 = .ok (.dup, 1) := by decide +kernel
theorem dX4_init_9 : decode cX4_init 9 = .ok (.bipush 64, 2) := by decide +kernel
theorem dX4_init_11 : decode cX4_init 11 = .ok (.invokespecial 13, 3) := by decide +kernel
theorem dX4_init_14 : decode cX4_init 14 = .ok (.putfield 16, 3) := by decide +kernel
theorem dX4_init_17 : decode cX4_init 17 = .ok (.aload_n 0, 1) := by decide +kernel
theorem dX4_init_18 : decode cX4_init 18 = .ok (.iconst 0, 1) := by decide +kernel
theorem dX4_init_19 : decode cX4_init 19 = .ok (.putfield 20, 3) := by decide +kernel
theorem dX4_init_22 : decode cX4_init 22 = .ok (.aload_n 0, 1) := by decide +kernel
theorem dX4_init_23 : decode cX4_init 23 = .ok (.iconst 0, 1) := by decide +kernel
theorem dX4_init_24 : decode cX4_init 24 = .ok (.putfield 24, 3) := by decide +kernel
theorem dX4_init_27 : decode cX4_init 27 = .ok (.aload_n 0, 1) := by decide +kernel
theorem dX4_init_28 : decode cX4_init 28 = .ok (.iconst 0, 1) := by decide +kernel
theorem dX4_init_29 : decode cX4_init 29 = .ok (.putfield 27, 3) := by decide +kernel
theorem dX4_init_32 : decode cX4_init 32 = .ok (.aload_n 0, 1) := by decide +kernel
theorem dX4_init_33 : decode cX4_init 33 = .ok (.iconst 0, 1) := by decide +kernel
theorem dX4_init_34 : decode cX4_init 34 = .ok (.putfield 30, 3) := by decide +kernel
theorem dX4_init_37 : decode cX4_init 37 = .ok (.aload_n 0, 1) := by decide +kernel
theorem dX4_init_38 : decode cX4_init 38 = .ok (.iconst 0, 1) := by decide +kernel
theorem dX4_init_39 : decode cX4_init 39 = .ok (.putfield 33, 3) := by decide +kernel
theorem dX4_init_42 : decode cX4_init 42 = .ok (.aload_n 0, 1) := by decide +kernel
theorem dX4_init_43 : decode cX4_init 43 = .ok (.iconst 0, 1) := by decide +kernel
theorem dX4_init_44 : decode cX4_init 44 = .ok (.putfield 36, 3) := by decide +kernel
theorem dX4_init_47 : decode cX4_init 47 = .ok (.aload_n 0, 1) := by decide +kernel
theorem dX4_init_48 : decode cX4_init 48 = .ok (.iconst 0, 1) := by decide +kernel
theorem dX4_init_49 : decode cX4_init 49 = .ok (.putfield 40, 3) := by decide +kernel
theorem dX4_init_52 : decode cX4_init 52 = .ok (.aload_n 0, 1) := by decide +kernel
theorem dX4_init_53 : decode cX4_init 53 = .ok (.iconst 0, 1) := by decide +kernel
theorem dX4_init_54 : decode cX4_init 54 = .ok (.putfield 43, 3) := by decide +kernel
theorem dX4_init_57 : decode cX4_init 57 = .ok (.return_, 1) := by decide +kernel
theorem dX4_reads_0 : decode cX4_reads 0 = .ok (.aload_n 1, 1) := by decide +kernel
theorem dX4_reads_1 : decode cX4_reads 1 = .ok (.ifnull 7, 3) := by decide +kernel
theorem dX4_reads_4 : decode cX4_reads 4 = .ok (.aload_n 2, 1) := by decide +kernel
theorem dX4_reads_5 : decode cX4_reads 5 = .ok (.ifnonnull 5, 3) := by decide +kernel
theorem dX4_reads_8 : decode cX4_reads 8 = .ok (.iconst 0, 1) := by decide +kernel
theorem dX4_reads_9 : decode cX4_reads 9 = .ok (.ireturn, 1) := by decide +kernel
theorem dX4_reads_10 : decode cX4_reads 10 = .ok (.aload_n 2, 1) := by decide +kernel
theorem dX4_reads_11 : decode cX4_reads 11 = .ok (.invokevirtual 46, 3) := by decide +kernel
theorem dX4_reads_14 : decode cX4_reads 14 = .ok (.aload_n 0, 1) := by decide +kernel
theorem dX4_reads_15 : decode cX4_reads 15 = .ok (.invokevirtual 51, 3) := by decide +kernel
theorem dX4_reads_18 : decode cX4_reads 18 = .ok (.iconst 0, 1) := by decide +kernel
theorem dX4_reads_19 : decode cX4_reads 19 = .ok (.istore_n 3, 1) := by decide +kernel
theorem dX4_reads_20 : decode cX4_reads 20 = .ok (.iload_n 3, 1) := by decide +kernel
theorem dX4_reads_21 : decode cX4_reads 21 = .ok (.sipush 240, 3) := by decide +kernel
theorem dX4_reads_24 : decode cX4_reads 24 = .ok (.if_icmp .gt 77, 3) := by decide +kernel
theorem dX4_reads_27 : decode cX4_reads 27 = .ok (.aload_n 1, 1) := by decide +kernel
theorem dX4_reads_28 : decode cX4_reads 28 = .ok (.invokevirtual 54, 3) := by decide +kernel
theorem dX4_reads_31 : decode cX4_reads 31 = .ok (.istore 4, 2) := by decide +kernel
theorem dX4_reads_33 : decode cX4_reads 33 = .ok (.iload 4, 2) := by decide +kernel
theorem dX4_reads_35 : decode cX4_reads 35 = .ok (.ifCond .ne 6, 3) := by decide +kernel
theorem dX4_reads_38 : decode cX4_reads 38 = .ok (.goto 63, 3) := by decide +kernel
theorem dX4_reads_41 : decode cX4_reads 41 = .ok (.aload_n 0, 1) := by decide +kernel
theorem dX4_reads_42 : decode cX4_reads 42 = .ok (.getfield 24, 3) := by decide +kernel
theorem dX4_reads_45 : decode cX4_reads 45 = .ok (.iconst 4, 1) := by decide +kernel
theorem dX4_reads_46 : decode cX4_reads 46 = .ok (.if_icmp .eq 24, 3) := by decide +kernel
theorem dX4_reads_49 : decode cX4_reads 49 = .ok (.aload_n 0, 1) := by decide +kernel
theorem dX4_reads_50 : decode cX4_reads 50 = .ok (.getfield 24, 3) := by decide +kernel
theorem dX4_reads_53 : decode cX4_reads 53 = .ok (.iconst 5, 1) := by decide +kernel
theorem dX4_reads_54 : decode cX4_reads 54 = .ok (.if_icmp .eq 16, 3) := by decide +kernel
theorem dX4_reads_57 : decode cX4_reads 57 = .ok (.aload_n 0, 1) := by decide +kernel
theorem dX4_reads_58 : decode cX4_reads 58 = .ok (.iload 4, 2) := by decide +kernel
theorem dX4_reads_60 : decode cX4_reads 60 = .ok (.aload_n 1, 1) := by decide +kernel
theorem dX4_reads_61 : decode cX4_reads 61 = .ok (.aload_n 2, 1) := by decide +kernel
theorem dX4_reads_62 : decode cX4_reads 62 = .ok (.invokevirtual 60, 3) := by decide +kernel
theorem dX4_reads_65 : decode cX4_reads 65 = .ok (.ifCond .ne 30, 3) := by decide +kernel
theorem dX4_reads_68 : decode cX4_reads 68 = .ok (.iconst 0, 1) := by decide +kernel
theorem dX4_reads_69 : decode cX4_reads 69 = .ok (.ireturn, 1) := by decide +kernel
theorem dX4_reads_70 : decode cX4_reads 70 = .ok (.aload_n 0, 1) := by decide +kernel
theorem dX4_reads_71 : decode cX4_reads 71 = .ok (.iload 4, 2) := by decide +kernel
theorem dX4_reads_73 : decode cX4_reads 73 = .ok (.invokevirtual 64, 3) := by decide +kernel
theorem dX4_reads_76 : decode cX4_reads 76 = .ok (.ifCond .eq 17, 3) := by decide +kernel
theorem dX4_reads_79 : decode cX4_reads 79 = .ok (.aload_n 1, 1) := by decide +kernel
theorem dX4_reads_80 : decode cX4_reads 80 = .ok (.invokevirtual 68, 3) := by decide +kernel
theorem dX4_reads_83 : decode cX4_reads 83 = .ok (.aload_n 0, 1) := by decide +kernel
theorem dX4_reads_84 : decode cX4_reads 84 = .ok (.iload 4, 2) := by decide +kernel
theorem dX4_reads_86 : decode cX4_reads 86 = .ok (.aload_n 2, 1) := by decide +kernel
theorem dX4_reads_87 : decode cX4_reads 87 = .ok (.invokevirtual 71, 3) := by decide +kernel
theorem dX4_reads_90 : decode cX4_reads 90 = .ok (.goto 5, 3) := by decide +kernel
theorem dX4_reads_93 : decode cX4_reads 93 = .ok (.iconst 0, 1) := by decide +kernel
theorem dX4_reads_94 : decode cX4_reads 94 = .ok (.ireturn, 1) := by decide +kernel
theorem dX4_reads_95 : decode cX4_reads 95 = .ok (.iinc 3 1, 3) := by decide +kernel
theorem dX4_reads_98 : decode cX4_reads 98 = .ok (.goto (-78), 3) := by decide +kernel
theorem dX4_reads_101 : decode cX4_reads 101 = .ok (.aload_n 0, 1) := by decide +kernel
theorem dX4_reads_102 : decode cX4_reads 102 = .ok (.invokevirtual 75, 3) := by decide +kernel
theorem dX4_reads_105 : decode cX4_reads 105 = .ok (.ifCond .ne 5, 3) := by decide +kernel
theorem dX4_reads_108 : decode cX4_reads 108 = .ok (.iconst 0, 1) := by decide +kernel
theorem dX4_reads_109 : decode cX4_reads 109 = .ok (.ireturn, 1) := by decide +kernel
theorem dX4_reads_110 : decode cX4_reads 110 = .ok (.aload_n 0, 1) := by decide +kernel
theorem dX4_reads_111 : decode cX4_reads 111 = .ok (.bipush 59, 2) := by decide +kernel
theorem dX4_reads_113 : decode cX4_reads 113 = .ok (.aload_n 2, 1) := by decide +kernel
theorem dX4_reads_114 : decode cX4_reads 114 = .ok (.invokevirtual 71, 3) := by decide +kernel
theorem dX4_reads_117 : decode cX4_reads 117 = .ok (.iconst 1, 1) := by decide +kernel
theorem dX4_reads_118 : decode cX4_reads 118 = .ok (.ireturn, 1) := by decide +kernel
theorem dX4_begin_0 : decode cX4_begin 0 = .ok (.aload_n 0, 1) := by decide +kernel
theorem dX4_begin_1 : decode cX4_begin 1 = .ok (.iconst 0, 1) := by decide +kernel
theorem dX4_begin_2 : decode cX4_begin 2 = .ok (.putfield 20, 3) := by decide +kernel
theorem dX4_begin_5 : decode cX4_begin 5 = .ok (.aload_n 0, 1) := by decide +kernel
theorem dX4_begin_6 : decode cX4_begin 6 = .ok (.iconst 0, 1) := by decide +kernel
theorem dX4_begin_7 : decode cX4_begin 7 = .ok (.putfield 24, 3) := by decide +kernel
theorem dX4_begin_10 : decode cX4_begin 10 = .ok (.aload_n 0, 1) := by decide +kernel
theorem dX4_begin_11 : decode cX4_begin 11 = .ok (.iconst 0, 1) := by decide +kernel
theorem dX4_begin_12 : decode cX4_begin 12 = .ok (.putfield 27, 3) := by decide +kernel
theorem dX4_begin_15 : decode cX4_begin 15 = .ok (.aload_n 0, 1) := by decide +kernel
theorem dX4_begin_16 : decode cX4_begin 16 = .ok (.iconst 0, 1) := by decide +kernel
theorem dX4_begin_17 : decode cX4_begin 17 = .ok (.putfield 30, 3) := by decide +kernel
theorem dX4_begin_20 : decode cX4_begin 20 = .ok (.aload_n 0, 1) := by decide +kernel
theorem dX4_begin_21 : decode cX4_begin 21 = .ok (.iconst 0, 1) := by decide +kernel
theorem dX4_begin_22 : decode cX4_begin 22 = .ok (.putfield 33, 3) := by decide +kernel
theorem dX4_begin_25 : decode cX4_begin 25 = .ok (.aload_n 0, 1) := by decide +kernel
theorem dX4_begin_26 : decode cX4_begin 26 = .ok (.iconst 0, 1) := by decide +kernel
theorem dX4_begin_27 : decode cX4_begin 27 = .ok (.putfield 43, 3) := by decide +kernel
theorem dX4_begin_30 : decode cX4_begin 30 = .ok (.return_, 1) := by decide +kernel
theorem dX4_takes_0 : decode cX4_takes 0 = .ok (.aload_n 0, 1) := by decide +kernel
theorem dX4_takes_1 : decode cX4_takes 1 = .ok (.getfield 24, 3) := by decide +kernel
theorem dX4_takes_4 : decode cX4_takes 4 = .ok (.lookupswitch 74 #[(0, 28), (1, 46)], 28) := by decide +kernel
theorem dX4_takes_32 : decode cX4_takes 32 = .ok (.aload_n 0, 1) := by decide +kernel
theorem dX4_takes_33 : decode cX4_takes 33 = .ok (.iload_n 1, 1) := by decide +kernel
theorem dX4_takes_34 : decode cX4_takes 34 = .ok (.bipush 121, 2) := by decide +kernel
theorem dX4_takes_36 : decode cX4_takes 36 = .ok (.if_icmp .ne 7, 3) := by decide +kernel
theorem dX4_takes_39 : decode cX4_takes 39 = .ok (.iconst 1, 1) := by decide +kernel
theorem dX4_takes_40 : decode cX4_takes 40 = .ok (.goto 4, 3) := by decide +kernel
theorem dX4_takes_43 : decode cX4_takes 43 = .ok (.iconst 0, 1) := by decide +kernel
theorem dX4_takes_44 : decode cX4_takes 44 = .ok (.iconst 1, 1) := by decide +kernel
theorem dX4_takes_45 : decode cX4_takes 45 = .ok (.aload_n 2, 1) := by decide +kernel
theorem dX4_takes_46 : decode cX4_takes 46 = .ok (.invokevirtual 79, 3) := by decide +kernel
theorem dX4_takes_49 : decode cX4_takes 49 = .ok (.ireturn, 1) := by decide +kernel
theorem dX4_takes_50 : decode cX4_takes 50 = .ok (.aload_n 0, 1) := by decide +kernel
theorem dX4_takes_51 : decode cX4_takes 51 = .ok (.iconst 0, 1) := by decide +kernel
theorem dX4_takes_52 : decode cX4_takes 52 = .ok (.putfield 36, 3) := by decide +kernel
theorem dX4_takes_55 : decode cX4_takes 55 = .ok (.aload_n 0, 1) := by decide +kernel
theorem dX4_takes_56 : decode cX4_takes 56 = .ok (.iconst 0, 1) := by decide +kernel
theorem dX4_takes_57 : decode cX4_takes 57 = .ok (.putfield 40, 3) := by decide +kernel
theorem dX4_takes_60 : decode cX4_takes 60 = .ok (.aload_n 0, 1) := by decide +kernel
theorem dX4_takes_61 : decode cX4_takes 61 = .ok (.iload_n 1, 1) := by decide +kernel
theorem dX4_takes_62 : decode cX4_takes 62 = .ok (.bipush 58, 2) := by decide +kernel
theorem dX4_takes_64 : decode cX4_takes 64 = .ok (.if_icmp .ne 7, 3) := by decide +kernel
theorem dX4_takes_67 : decode cX4_takes 67 = .ok (.iconst 1, 1) := by decide +kernel
theorem dX4_takes_68 : decode cX4_takes 68 = .ok (.goto 4, 3) := by decide +kernel
theorem dX4_takes_71 : decode cX4_takes 71 = .ok (.iconst 0, 1) := by decide +kernel
theorem dX4_takes_72 : decode cX4_takes 72 = .ok (.iconst 2, 1) := by decide +kernel
theorem dX4_takes_73 : decode cX4_takes 73 = .ok (.aload_n 2, 1) := by decide +kernel
theorem dX4_takes_74 : decode cX4_takes 74 = .ok (.invokevirtual 79, 3) := by decide +kernel
theorem dX4_takes_77 : decode cX4_takes 77 = .ok (.ireturn, 1) := by decide +kernel
theorem dX4_takes_78 : decode cX4_takes 78 = .ok (.iload_n 1, 1) := by decide +kernel
theorem dX4_takes_79 : decode cX4_takes 79 = .ok (.bipush 91, 2) := by decide +kernel
theorem dX4_takes_81 : decode cX4_takes 81 = .ok (.if_icmp .eq 23, 3) := by decide +kernel
theorem dX4_takes_84 : decode cX4_takes 84 = .ok (.aload_n 0, 1) := by decide +kernel
theorem dX4_takes_85 : decode cX4_takes 85 = .ok (.getfield 24, 3) := by decide +kernel
theorem dX4_takes_88 : decode cX4_takes 88 = .ok (.iconst 2, 1) := by decide +kernel
theorem dX4_takes_89 : decode cX4_takes 89 = .ok (.if_icmp .ne 19, 3) := by decide +kernel
theorem dX4_takes_92 : decode cX4_takes 92 = .ok (.iload_n 1, 1) := by decide +kernel
theorem dX4_takes_93 : decode cX4_takes 93 = .ok (.bipush 33, 2) := by decide +kernel
theorem dX4_takes_95 : decode cX4_takes 95 = .ok (.if_icmp .eq 9, 3) := by decide +kernel
theorem dX4_takes_98 : decode cX4_takes 98 = .ok (.iload_n 1, 1) := by decide +kernel
theorem dX4_takes_99 : decode cX4_takes 99 = .ok (.bipush 40, 2) := by decide +kernel
theorem dX4_takes_101 : decode cX4_takes 101 = .ok (.if_icmp .ne 7, 3) := by decide +kernel
theorem dX4_takes_104 : decode cX4_takes 104 = .ok (.iconst 1, 1) := by decide +kernel
theorem dX4_takes_105 : decode cX4_takes 105 = .ok (.goto 4, 3) := by decide +kernel
theorem dX4_takes_108 : decode cX4_takes 108 = .ok (.iconst 0, 1) := by decide +kernel
theorem dX4_takes_109 : decode cX4_takes 109 = .ok (.istore 4, 2) := by decide +kernel
theorem dX4_takes_111 : decode cX4_takes 111 = .ok (.iload 4, 2) := by decide +kernel
theorem dX4_takes_113 : decode cX4_takes 113 = .ok (.ifCond .eq 12, 3) := by decide +kernel
theorem dX4_takes_116 : decode cX4_takes 116 = .ok (.aload_n 0, 1) := by decide +kernel
theorem dX4_takes_117 : decode cX4_takes 117 = .ok (.iload_n 1, 1) := by decide +kernel
theorem dX4_takes_118 : decode cX4_takes 118 = .ok (.aload_n 2, 1) := by decide +kernel
theorem dX4_takes_119 : decode cX4_takes 119 = .ok (.invokevirtual 83, 3) := by decide +kernel
theorem dX4_takes_122 : decode cX4_takes 122 = .ok (.goto 10, 3) := by decide +kernel
theorem dX4_takes_125 : decode cX4_takes 125 = .ok (.aload_n 0, 1) := by decide +kernel
theorem dX4_takes_126 : decode cX4_takes 126 = .ok (.iload_n 1, 1) := by decide +kernel
theorem dX4_takes_127 : decode cX4_takes 127 = .ok (.aload_n 2, 1) := by decide +kernel
theorem dX4_takes_128 : decode cX4_takes 128 = .ok (.aload_n 3, 1) := by decide +kernel
theorem dX4_takes_129 : decode cX4_takes 129 = .ok (.invokevirtual 87, 3) := by decide +kernel
theorem dX4_takes_132 : decode cX4_takes 132 = .ok (.ireturn, 1) := by decide +kernel
theorem dX4_takesIf_0 : decode cX4_takesIf 0 = .ok (.iload_n 1, 1) := by decide +kernel
theorem dX4_takesIf_1 : decode cX4_takesIf 1 = .ok (.ifCond .eq 12, 3) := by decide +kernel
theorem dX4_takesIf_4 : decode cX4_takesIf 4 = .ok (.aload_n 3, 1) := by decide +kernel
theorem dX4_takesIf_5 : decode cX4_takesIf 5 = .ok (.invokevirtual 68, 3) := by decide +kernel
theorem dX4_takesIf_8 : decode cX4_takesIf 8 = .ok (.aload_n 0, 1) := by decide +kernel
theorem dX4_takesIf_9 : decode cX4_takesIf 9 = .ok (.iload_n 2, 1) := by decide +kernel
theorem dX4_takesIf_10 : decode cX4_takesIf 10 = .ok (.putfield 24, 3) := by decide +kernel
theorem dX4_takesIf_13 : decode cX4_takesIf 13 = .ok (.iload_n 1, 1) := by decide +kernel
theorem dX4_takesIf_14 : decode cX4_takesIf 14 = .ok (.ireturn, 1) := by decide +kernel
theorem dX4_opens_0 : decode cX4_opens 0 = .ok (.aload_n 0, 1) := by decide +kernel
theorem dX4_opens_1 : decode cX4_opens 1 = .ok (.getfield 27, 3) := by decide +kernel
theorem dX4_opens_4 : decode cX4_opens 4 = .ok (.bipush 6, 2) := by decide +kernel
theorem dX4_opens_6 : decode cX4_opens 6 = .ok (.if_icmp .lt 5, 3) := by decide +kernel
theorem dX4_opens_9 : decode cX4_opens 9 = .ok (.iconst 0, 1) := by decide +kernel
theorem dX4_opens_10 : decode cX4_opens 10 = .ok (.ireturn, 1) := by decide +kernel
theorem dX4_opens_11 : decode cX4_opens 11 = .ok (.aload_n 2, 1) := by decide +kernel
theorem dX4_opens_12 : decode cX4_opens 12 = .ok (.invokevirtual 68, 3) := by decide +kernel
theorem dX4_opens_15 : decode cX4_opens 15 = .ok (.aload_n 0, 1) := by decide +kernel
theorem dX4_opens_16 : decode cX4_opens 16 = .ok (.dup, 1) := by decide +kernel
theorem dX4_opens_17 : decode cX4_opens 17 = .ok (.getfield 27, 3) := by decide +kernel
theorem dX4_opens_20 : decode cX4_opens 20 = .ok (.iconst 1, 1) := by decide +kernel
theorem dX4_opens_21 : decode cX4_opens 21 = .ok (.iadd, 1) := by decide +kernel
theorem dX4_opens_22 : decode cX4_opens 22 = .ok (.putfield 27, 3) := by decide +kernel
theorem dX4_opens_25 : decode cX4_opens 25 = .ok (.iload_n 1, 1) := by decide +kernel
theorem dX4_opens_26 : decode cX4_opens 26 = .ok (.bipush 91, 2) := by decide +kernel
theorem dX4_opens_28 : decode cX4_opens 28 = .ok (.if_icmp .ne 21, 3) := by decide +kernel
theorem dX4_opens_31 : decode cX4_opens 31 = .ok (.aload_n 0, 1) := by decide +kernel
theorem dX4_opens_32 : decode cX4_opens 32 = .ok (.dup, 1) := by decide +kernel
theorem dX4_opens_33 : decode cX4_opens 33 = .ok (.getfield 33, 3) := by decide +kernel
theorem dX4_opens_36 : decode cX4_opens 36 = .ok (.iconst 1, 1) := by decide +kernel
theorem dX4_opens_37 : decode cX4_opens 37 = .ok (.iadd, 1) := by decide +kernel
theorem dX4_opens_38 : decode cX4_opens 38 = .ok (.putfield 33, 3) := by decide +kernel
theorem dX4_opens_41 : decode cX4_opens 41 = .ok (.aload_n 0, 1) := by decide +kernel
theorem dX4_opens_42 : decode cX4_opens 42 = .ok (.iconst 3, 1) := by decide +kernel
theorem dX4_opens_43 : decode cX4_opens 43 = .ok (.putfield 24, 3) := by decide +kernel
theorem dX4_opens_46 : decode cX4_opens 46 = .ok (.goto 28, 3) := by decide +kernel
theorem dX4_opens_49 : decode cX4_opens 49 = .ok (.aload_n 0, 1) := by decide +kernel
theorem dX4_opens_50 : decode cX4_opens 50 = .ok (.dup, 1) := by decide +kernel
theorem dX4_opens_51 : decode cX4_opens 51 = .ok (.getfield 30, 3) := by decide +kernel
theorem dX4_opens_54 : decode cX4_opens 54 = .ok (.iload_n 1, 1) := by decide +kernel
theorem dX4_opens_55 : decode cX4_opens 55 = .ok (.bipush 40, 2) := by decide +kernel
theorem dX4_opens_57 : decode cX4_opens 57 = .ok (.if_icmp .ne 7, 3) := by decide +kernel
theorem dX4_opens_60 : decode cX4_opens 60 = .ok (.iconst 1, 1) := by decide +kernel
theorem dX4_opens_61 : decode cX4_opens 61 = .ok (.goto 4, 3) := by decide +kernel
theorem dX4_opens_64 : decode cX4_opens 64 = .ok (.iconst 0, 1) := by decide +kernel
theorem dX4_opens_65 : decode cX4_opens 65 = .ok (.iadd, 1) := by decide +kernel
theorem dX4_opens_66 : decode cX4_opens 66 = .ok (.putfield 30, 3) := by decide +kernel
theorem dX4_opens_69 : decode cX4_opens 69 = .ok (.aload_n 0, 1) := by decide +kernel
theorem dX4_opens_70 : decode cX4_opens 70 = .ok (.iconst 1, 1) := by decide +kernel
theorem dX4_opens_71 : decode cX4_opens 71 = .ok (.putfield 36, 3) := by decide +kernel
theorem dX4_opens_74 : decode cX4_opens 74 = .ok (.aload_n 0, 1) := by decide +kernel
theorem dX4_opens_75 : decode cX4_opens 75 = .ok (.iload_n 1, 1) := by decide +kernel
theorem dX4_opens_76 : decode cX4_opens 76 = .ok (.invokevirtual 90, 3) := by decide +kernel
theorem dX4_opens_79 : decode cX4_opens 79 = .ok (.iconst 1, 1) := by decide +kernel
theorem dX4_opens_80 : decode cX4_opens 80 = .ok (.ireturn, 1) := by decide +kernel
theorem dX4_takesAtom_0 : decode cX4_takesAtom 0 = .ok (.iload_n 1, 1) := by decide +kernel
theorem dX4_takesAtom_1 : decode cX4_takesAtom 1 = .ok (.invokestatic 93, 3) := by decide +kernel
theorem dX4_takesAtom_4 : decode cX4_takesAtom 4 = .ok (.ifCond .eq 28, 3) := by decide +kernel
theorem dX4_takesAtom_7 : decode cX4_takesAtom 7 = .ok (.aload_n 2, 1) := by decide +kernel
theorem dX4_takesAtom_8 : decode cX4_takesAtom 8 = .ok (.iconst 4, 1) := by decide +kernel
theorem dX4_takesAtom_9 : decode cX4_takesAtom 9 = .ok (.iconst 0, 1) := by decide +kernel
theorem dX4_takesAtom_10 : decode cX4_takesAtom 10 = .ok (.sipush 9999, 3) := by decide +kernel
theorem dX4_takesAtom_13 : decode cX4_takesAtom 13 = .ok (.invokevirtual 96, 3) := by decide +kernel
theorem dX4_takesAtom_16 : decode cX4_takesAtom 16 = .ok (.ifCond .ne 5, 3) := by decide +kernel
theorem dX4_takesAtom_19 : decode cX4_takesAtom 19 = .ok (.iconst 0, 1) := by decide +kernel
theorem dX4_takesAtom_20 : decode cX4_takesAtom 20 = .ok (.ireturn, 1) := by decide +kernel
theorem dX4_takesAtom_21 : decode cX4_takesAtom 21 = .ok (.aload_n 3, 1) := by decide +kernel
theorem dX4_takesAtom_22 : decode cX4_takesAtom 22 = .ok (.aload_n 2, 1) := by decide +kernel
theorem dX4_takesAtom_23 : decode cX4_takesAtom 23 = .ok (.invokevirtual 100, 3) := by decide +kernel
theorem dX4_takesAtom_26 : decode cX4_takesAtom 26 = .ok (.invokevirtual 103, 3) := by decide +kernel
theorem dX4_takesAtom_29 : decode cX4_takesAtom 29 = .ok (.goto 32, 3) := by decide +kernel
theorem dX4_takesAtom_32 : decode cX4_takesAtom 32 = .ok (.getstatic 106, 3) := by decide +kernel
theorem dX4_takesAtom_35 : decode cX4_takesAtom 35 = .ok (.iload_n 1, 1) := by decide +kernel
theorem dX4_takesAtom_36 : decode cX4_takesAtom 36 = .ok (.invokestatic 110, 3) := by decide +kernel
theorem dX4_takesAtom_39 : decode cX4_takesAtom 39 = .ok (.istore 4, 2) := by decide +kernel
theorem dX4_takesAtom_41 : decode cX4_takesAtom 41 = .ok (.iload 4, 2) := by decide +kernel
theorem dX4_takesAtom_43 : decode cX4_takesAtom 43 = .ok (.iconst (-1), 1) := by decide +kernel
theorem dX4_takesAtom_44 : decode cX4_takesAtom 44 = .ok (.if_icmp .ne 5, 3) := by decide +kernel
theorem dX4_takesAtom_47 : decode cX4_takesAtom 47 = .ok (.iconst 0, 1) := by decide +kernel
theorem dX4_takesAtom_48 : decode cX4_takesAtom 48 = .ok (.ireturn, 1) := by decide +kernel
theorem dX4_takesAtom_49 : decode cX4_takesAtom 49 = .ok (.aload_n 2, 1) := by decide +kernel
theorem dX4_takesAtom_50 : decode cX4_takesAtom 50 = .ok (.invokevirtual 68, 3) := by decide +kernel
theorem dX4_takesAtom_53 : decode cX4_takesAtom 53 = .ok (.aload_n 3, 1) := by decide +kernel
theorem dX4_takesAtom_54 : decode cX4_takesAtom 54 = .ok (.iconst (-1), 1) := by decide +kernel
theorem dX4_takesAtom_55 : decode cX4_takesAtom 55 = .ok (.iload 4, 2) := by decide +kernel
theorem dX4_takesAtom_57 : decode cX4_takesAtom 57 = .ok (.isub, 1) := by decide +kernel
theorem dX4_takesAtom_58 : decode cX4_takesAtom 58 = .ok (.invokevirtual 103, 3) := by decide +kernel
theorem dX4_takesAtom_61 : decode cX4_takesAtom 61 = .ok (.aload_n 0, 1) := by decide +kernel
theorem dX4_takesAtom_62 : decode cX4_takesAtom 62 = .ok (.iconst 4, 1) := by decide +kernel
theorem dX4_takesAtom_63 : decode cX4_takesAtom 63 = .ok (.putfield 24, 3) := by decide +kernel
theorem dX4_takesAtom_66 : decode cX4_takesAtom 66 = .ok (.iconst 1, 1) := by decide +kernel
theorem dX4_takesAtom_67 : decode cX4_takesAtom 67 = .ok (.ireturn, 1) := by decide +kernel
theorem dX4_mayEnd_0 : decode cX4_mayEnd 0 = .ok (.aload_n 0, 1) := by decide +kernel
theorem dX4_mayEnd_1 : decode cX4_mayEnd 1 = .ok (.getfield 24, 3) := by decide +kernel
theorem dX4_mayEnd_4 : decode cX4_mayEnd 4 = .ok (.iconst 4, 1) := by decide +kernel
theorem dX4_mayEnd_5 : decode cX4_mayEnd 5 = .ok (.if_icmp .ne 35, 3) := by decide +kernel
theorem dX4_mayEnd_8 : decode cX4_mayEnd 8 = .ok (.aload_n 0, 1) := by decide +kernel
theorem dX4_mayEnd_9 : decode cX4_mayEnd 9 = .ok (.getfield 33, 3) := by decide +kernel
theorem dX4_mayEnd_12 : decode cX4_mayEnd 12 = .ok (.ifCond .ne 28, 3) := by decide +kernel
theorem dX4_mayEnd_15 : decode cX4_mayEnd 15 = .ok (.aload_n 0, 1) := by decide +kernel
theorem dX4_mayEnd_16 : decode cX4_mayEnd 16 = .ok (.getfield 30, 3) := by decide +kernel
theorem dX4_mayEnd_19 : decode cX4_mayEnd 19 = .ok (.ifCond .ne 21, 3) := by decide +kernel
theorem dX4_mayEnd_22 : decode cX4_mayEnd 22 = .ok (.aload_n 0, 1) := by decide +kernel
theorem dX4_mayEnd_23 : decode cX4_mayEnd 23 = .ok (.getfield 40, 3) := by decide +kernel
theorem dX4_mayEnd_26 : decode cX4_mayEnd 26 = .ok (.ifCond .ne 10, 3) := by decide +kernel
theorem dX4_mayEnd_29 : decode cX4_mayEnd 29 = .ok (.aload_n 0, 1) := by decide +kernel
theorem dX4_mayEnd_30 : decode cX4_mayEnd 30 = .ok (.getfield 36, 3) := by decide +kernel
theorem dX4_mayEnd_33 : decode cX4_mayEnd 33 = .ok (.ifCond .ne 7, 3) := by decide +kernel
theorem dX4_mayEnd_36 : decode cX4_mayEnd 36 = .ok (.iconst 1, 1) := by decide +kernel
theorem dX4_mayEnd_37 : decode cX4_mayEnd 37 = .ok (.goto 4, 3) := by decide +kernel
theorem dX4_mayEnd_40 : decode cX4_mayEnd 40 = .ok (.iconst 0, 1) := by decide +kernel
theorem dX4_mayEnd_41 : decode cX4_mayEnd 41 = .ok (.ireturn, 1) := by decide +kernel
theorem dX4_fitsBehind_0 : decode cX4_fitsBehind 0 = .ok (.aload_n 0, 1) := by decide +kernel
theorem dX4_fitsBehind_1 : decode cX4_fitsBehind 1 = .ok (.getfield 24, 3) := by decide +kernel
theorem dX4_fitsBehind_4 : decode cX4_fitsBehind 4 = .ok (.iconst 4, 1) := by decide +kernel
theorem dX4_fitsBehind_5 : decode cX4_fitsBehind 5 = .ok (.if_icmp .ne 7, 3) := by decide +kernel
theorem dX4_fitsBehind_8 : decode cX4_fitsBehind 8 = .ok (.iconst 1, 1) := by decide +kernel
theorem dX4_fitsBehind_9 : decode cX4_fitsBehind 9 = .ok (.goto 4, 3) := by decide +kernel
theorem dX4_fitsBehind_12 : decode cX4_fitsBehind 12 = .ok (.iconst 0, 1) := by decide +kernel
theorem dX4_fitsBehind_13 : decode cX4_fitsBehind 13 = .ok (.istore_n 2, 1) := by decide +kernel
theorem dX4_fitsBehind_14 : decode cX4_fitsBehind 14 = .ok (.aload_n 0, 1) := by decide +kernel
theorem dX4_fitsBehind_15 : decode cX4_fitsBehind 15 = .ok (.getfield 33, 3) := by decide +kernel
theorem dX4_fitsBehind_18 : decode cX4_fitsBehind 18 = .ok (.ifCond .ne 22, 3) := by decide +kernel
theorem dX4_fitsBehind_21 : decode cX4_fitsBehind 21 = .ok (.aload_n 0, 1) := by decide +kernel
theorem dX4_fitsBehind_22 : decode cX4_fitsBehind 22 = .ok (.getfield 24, 3) := by decide +kernel
theorem dX4_fitsBehind_25 : decode cX4_fitsBehind 25 = .ok (.iconst 5, 1) := by decide +kernel
theorem dX4_fitsBehind_26 : decode cX4_fitsBehind 26 = .ok (.if_icmp .eq 10, 3) := by decide +kernel
theorem dX4_fitsBehind_29 : decode cX4_fitsBehind 29 = .ok (.aload_n 0, 1) := by decide +kernel
theorem dX4_fitsBehind_30 : decode cX4_fitsBehind 30 = .ok (.getfield 43, 3) := by decide +kernel
theorem dX4_fitsBehind_33 : decode cX4_fitsBehind 33 = .ok (.ifCond .eq 7, 3) := by decide +kernel
theorem dX4_fitsBehind_36 : decode cX4_fitsBehind 36 = .ok (.iconst 1, 1) := by decide +kernel
theorem dX4_fitsBehind_37 : decode cX4_fitsBehind 37 = .ok (.goto 4, 3) := by decide +kernel
theorem dX4_fitsBehind_40 : decode cX4_fitsBehind 40 = .ok (.iconst 0, 1) := by decide +kernel
theorem dX4_fitsBehind_41 : decode cX4_fitsBehind 41 = .ok (.istore_n 3, 1) := by decide +kernel
theorem dX4_fitsBehind_42 : decode cX4_fitsBehind 42 = .ok (.iload_n 1, 1) := by decide +kernel
theorem dX4_fitsBehind_43 : decode cX4_fitsBehind 43 = .ok (.lookupswitch 204 #[(38, 163), (41, 165), (42, 113), (43, 113), (45, 113), (47, 113), (59, 199), (60, 115), (61, 115), (62, 115), (63, 182), (93, 146), (124, 163)], 113) := by decide +kernel
theorem dX4_fitsBehind_156 : decode cX4_fitsBehind 156 = .ok (.iload_n 2, 1) := by decide +kernel
theorem dX4_fitsBehind_157 : decode cX4_fitsBehind 157 = .ok (.ireturn, 1) := by decide +kernel
theorem dX4_fitsBehind_158 : decode cX4_fitsBehind 158 = .ok (.iload_n 2, 1) := by decide +kernel
theorem dX4_fitsBehind_159 : decode cX4_fitsBehind 159 = .ok (.ifCond .eq 28, 3) := by decide +kernel
theorem dX4_fitsBehind_162 : decode cX4_fitsBehind 162 = .ok (.aload_n 0, 1) := by decide +kernel
theorem dX4_fitsBehind_163 : decode cX4_fitsBehind 163 = .ok (.getfield 33, 3) := by decide +kernel
theorem dX4_fitsBehind_166 : decode cX4_fitsBehind 166 = .ok (.ifCond .ne 21, 3) := by decide +kernel
theorem dX4_fitsBehind_169 : decode cX4_fitsBehind 169 = .ok (.aload_n 0, 1) := by decide +kernel
theorem dX4_fitsBehind_170 : decode cX4_fitsBehind 170 = .ok (.getfield 43, 3) := by decide +kernel
theorem dX4_fitsBehind_173 : decode cX4_fitsBehind 173 = .ok (.ifCond .ne 14, 3) := by decide +kernel
theorem dX4_fitsBehind_176 : decode cX4_fitsBehind 176 = .ok (.aload_n 0, 1) := by decide +kernel
theorem dX4_fitsBehind_177 : decode cX4_fitsBehind 177 = .ok (.getfield 40, 3) := by decide +kernel
theorem dX4_fitsBehind_180 : decode cX4_fitsBehind 180 = .ok (.ifCond .ne 7, 3) := by decide +kernel
theorem dX4_fitsBehind_183 : decode cX4_fitsBehind 183 = .ok (.iconst 1, 1) := by decide +kernel
theorem dX4_fitsBehind_184 : decode cX4_fitsBehind 184 = .ok (.goto 4, 3) := by decide +kernel
theorem dX4_fitsBehind_187 : decode cX4_fitsBehind 187 = .ok (.iconst 0, 1) := by decide +kernel
theorem dX4_fitsBehind_188 : decode cX4_fitsBehind 188 = .ok (.ireturn, 1) := by decide +kernel
theorem dX4_fitsBehind_189 : decode cX4_fitsBehind 189 = .ok (.iload_n 2, 1) := by decide +kernel
theorem dX4_fitsBehind_190 : decode cX4_fitsBehind 190 = .ok (.ifCond .eq 14, 3) := by decide +kernel
theorem dX4_fitsBehind_193 : decode cX4_fitsBehind 193 = .ok (.aload_n 0, 1) := by decide +kernel
theorem dX4_fitsBehind_194 : decode cX4_fitsBehind 194 = .ok (.getfield 33, 3) := by decide +kernel
theorem dX4_fitsBehind_197 : decode cX4_fitsBehind 197 = .ok (.ifCond .le 7, 3) := by decide +kernel
theorem dX4_fitsBehind_200 : decode cX4_fitsBehind 200 = .ok (.iconst 1, 1) := by decide +kernel
theorem dX4_fitsBehind_201 : decode cX4_fitsBehind 201 = .ok (.goto 4, 3) := by decide +kernel
theorem dX4_fitsBehind_204 : decode cX4_fitsBehind 204 = .ok (.iconst 0, 1) := by decide +kernel
theorem dX4_fitsBehind_205 : decode cX4_fitsBehind 205 = .ok (.ireturn, 1) := by decide +kernel
theorem dX4_fitsBehind_206 : decode cX4_fitsBehind 206 = .ok (.iload_n 3, 1) := by decide +kernel
theorem dX4_fitsBehind_207 : decode cX4_fitsBehind 207 = .ok (.ireturn, 1) := by decide +kernel
theorem dX4_fitsBehind_208 : decode cX4_fitsBehind 208 = .ok (.iload_n 3, 1) := by decide +kernel
theorem dX4_fitsBehind_209 : decode cX4_fitsBehind 209 = .ok (.ifCond .eq 14, 3) := by decide +kernel
theorem dX4_fitsBehind_212 : decode cX4_fitsBehind 212 = .ok (.aload_n 0, 1) := by decide +kernel
theorem dX4_fitsBehind_213 : decode cX4_fitsBehind 213 = .ok (.getfield 30, 3) := by decide +kernel
theorem dX4_fitsBehind_216 : decode cX4_fitsBehind 216 = .ok (.ifCond .le 7, 3) := by decide +kernel
theorem dX4_fitsBehind_219 : decode cX4_fitsBehind 219 = .ok (.iconst 1, 1) := by decide +kernel
theorem dX4_fitsBehind_220 : decode cX4_fitsBehind 220 = .ok (.goto 4, 3) := by decide +kernel
theorem dX4_fitsBehind_223 : decode cX4_fitsBehind 223 = .ok (.iconst 0, 1) := by decide +kernel
theorem dX4_fitsBehind_224 : decode cX4_fitsBehind 224 = .ok (.ireturn, 1) := by decide +kernel
theorem dX4_fitsBehind_225 : decode cX4_fitsBehind 225 = .ok (.iload_n 3, 1) := by decide +kernel
theorem dX4_fitsBehind_226 : decode cX4_fitsBehind 226 = .ok (.ifCond .eq 14, 3) := by decide +kernel
theorem dX4_fitsBehind_229 : decode cX4_fitsBehind 229 = .ok (.aload_n 0, 1) := by decide +kernel
theorem dX4_fitsBehind_230 : decode cX4_fitsBehind 230 = .ok (.getfield 30, 3) := by decide +kernel
theorem dX4_fitsBehind_233 : decode cX4_fitsBehind 233 = .ok (.ifCond .ne 7, 3) := by decide +kernel
theorem dX4_fitsBehind_236 : decode cX4_fitsBehind 236 = .ok (.iconst 1, 1) := by decide +kernel
theorem dX4_fitsBehind_237 : decode cX4_fitsBehind 237 = .ok (.goto 4, 3) := by decide +kernel
theorem dX4_fitsBehind_240 : decode cX4_fitsBehind 240 = .ok (.iconst 0, 1) := by decide +kernel
theorem dX4_fitsBehind_241 : decode cX4_fitsBehind 241 = .ok (.ireturn, 1) := by decide +kernel
theorem dX4_fitsBehind_242 : decode cX4_fitsBehind 242 = .ok (.aload_n 0, 1) := by decide +kernel
theorem dX4_fitsBehind_243 : decode cX4_fitsBehind 243 = .ok (.invokevirtual 75, 3) := by decide +kernel
theorem dX4_fitsBehind_246 : decode cX4_fitsBehind 246 = .ok (.ireturn, 1) := by decide +kernel
theorem dX4_fitsBehind_247 : decode cX4_fitsBehind 247 = .ok (.iconst 0, 1) := by decide +kernel
theorem dX4_fitsBehind_248 : decode cX4_fitsBehind 248 = .ok (.ireturn, 1) := by decide +kernel
theorem dX4_goOnBehind_0 : decode cX4_goOnBehind 0 = .ok (.aload_n 0, 1) := by decide +kernel
theorem dX4_goOnBehind_1 : decode cX4_goOnBehind 1 = .ok (.iconst 1, 1) := by decide +kernel
theorem dX4_goOnBehind_2 : decode cX4_goOnBehind 2 = .ok (.iload_n 1, 1) := by decide +kernel
theorem dX4_goOnBehind_3 : decode cX4_goOnBehind 3 = .ok (.invokestatic 114, 3) := by decide +kernel
theorem dX4_goOnBehind_6 : decode cX4_goOnBehind 6 = .ok (.invokestatic 118, 3) := by decide +kernel
theorem dX4_goOnBehind_9 : decode cX4_goOnBehind 9 = .ok (.aload_n 2, 1) := by decide +kernel
theorem dX4_goOnBehind_10 : decode cX4_goOnBehind 10 = .ok (.invokevirtual 124, 3) := by decide +kernel
theorem dX4_goOnBehind_13 : decode cX4_goOnBehind 13 = .ok (.iload_n 1, 1) := by decide +kernel
theorem dX4_goOnBehind_14 : decode cX4_goOnBehind 14 = .ok (.lookupswitch 158 #[(38, 140), (41, 80), (59, 102), (63, 116), (93, 58), (124, 140)], 58) := by decide +kernel
theorem dX4_goOnBehind_72 : decode cX4_goOnBehind 72 = .ok (.aload_n 0, 1) := by decide +kernel
theorem dX4_goOnBehind_73 : decode cX4_goOnBehind 73 = .ok (.invokevirtual 127, 3) := by decide +kernel
theorem dX4_goOnBehind_76 : decode cX4_goOnBehind 76 = .ok (.aload_n 0, 1) := by decide +kernel
theorem dX4_goOnBehind_77 : decode cX4_goOnBehind 77 = .ok (.dup, 1) := by decide +kernel
theorem dX4_goOnBehind_78 : decode cX4_goOnBehind 78 = .ok (.getfield 33, 3) := by decide +kernel
theorem dX4_goOnBehind_81 : decode cX4_goOnBehind 81 = .ok (.iconst 1, 1) := by decide +kernel
theorem dX4_goOnBehind_82 : decode cX4_goOnBehind 82 = .ok (.isub, 1) := by decide +kernel
theorem dX4_goOnBehind_83 : decode cX4_goOnBehind 83 = .ok (.putfield 33, 3) := by decide +kernel
theorem dX4_goOnBehind_86 : decode cX4_goOnBehind 86 = .ok (.aload_n 0, 1) := by decide +kernel
theorem dX4_goOnBehind_87 : decode cX4_goOnBehind 87 = .ok (.iconst 4, 1) := by decide +kernel
theorem dX4_goOnBehind_88 : decode cX4_goOnBehind 88 = .ok (.putfield 24, 3) := by decide +kernel
theorem dX4_goOnBehind_91 : decode cX4_goOnBehind 91 = .ok (.goto 119, 3) := by decide +kernel
theorem dX4_goOnBehind_94 : decode cX4_goOnBehind 94 = .ok (.aload_n 0, 1) := by decide +kernel
theorem dX4_goOnBehind_95 : decode cX4_goOnBehind 95 = .ok (.invokevirtual 127, 3) := by decide +kernel
theorem dX4_goOnBehind_98 : decode cX4_goOnBehind 98 = .ok (.aload_n 0, 1) := by decide +kernel
theorem dX4_goOnBehind_99 : decode cX4_goOnBehind 99 = .ok (.dup, 1) := by decide +kernel
theorem dX4_goOnBehind_100 : decode cX4_goOnBehind 100 = .ok (.getfield 30, 3) := by decide +kernel
theorem dX4_goOnBehind_103 : decode cX4_goOnBehind 103 = .ok (.iconst 1, 1) := by decide +kernel
theorem dX4_goOnBehind_104 : decode cX4_goOnBehind 104 = .ok (.isub, 1) := by decide +kernel
theorem dX4_goOnBehind_105 : decode cX4_goOnBehind 105 = .ok (.putfield 30, 3) := by decide +kernel
theorem dX4_goOnBehind_108 : decode cX4_goOnBehind 108 = .ok (.aload_n 0, 1) := by decide +kernel
theorem dX4_goOnBehind_109 : decode cX4_goOnBehind 109 = .ok (.iconst 5, 1) := by decide +kernel
theorem dX4_goOnBehind_110 : decode cX4_goOnBehind 110 = .ok (.putfield 24, 3) := by decide +kernel
theorem dX4_goOnBehind_113 : decode cX4_goOnBehind 113 = .ok (.goto 97, 3) := by decide +kernel
theorem dX4_goOnBehind_116 : decode cX4_goOnBehind 116 = .ok (.aload_n 2, 1) := by decide +kernel
theorem dX4_goOnBehind_117 : decode cX4_goOnBehind 117 = .ok (.bipush (-59), 2) := by decide +kernel
theorem dX4_goOnBehind_119 : decode cX4_goOnBehind 119 = .ok (.invokevirtual 103, 3) := by decide +kernel
theorem dX4_goOnBehind_122 : decode cX4_goOnBehind 122 = .ok (.aload_n 0, 1) := by decide +kernel
theorem dX4_goOnBehind_123 : decode cX4_goOnBehind 123 = .ok (.iconst 0, 1) := by decide +kernel
theorem dX4_goOnBehind_124 : decode cX4_goOnBehind 124 = .ok (.putfield 24, 3) := by decide +kernel
theorem dX4_goOnBehind_127 : decode cX4_goOnBehind 127 = .ok (.goto 83, 3) := by decide +kernel
theorem dX4_goOnBehind_130 : decode cX4_goOnBehind 130 = .ok (.aload_n 2, 1) := by decide +kernel
theorem dX4_goOnBehind_131 : decode cX4_goOnBehind 131 = .ok (.bipush (-63), 2) := by decide +kernel
theorem dX4_goOnBehind_133 : decode cX4_goOnBehind 133 = .ok (.invokevirtual 103, 3) := by decide +kernel
theorem dX4_goOnBehind_136 : decode cX4_goOnBehind 136 = .ok (.aload_n 0, 1) := by decide +kernel
theorem dX4_goOnBehind_137 : decode cX4_goOnBehind 137 = .ok (.iconst 1, 1) := by decide +kernel
theorem dX4_goOnBehind_138 : decode cX4_goOnBehind 138 = .ok (.putfield 40, 3) := by decide +kernel
theorem dX4_goOnBehind_141 : decode cX4_goOnBehind 141 = .ok (.aload_n 0, 1) := by decide +kernel
theorem dX4_goOnBehind_142 : decode cX4_goOnBehind 142 = .ok (.iconst 0, 1) := by decide +kernel
theorem dX4_goOnBehind_143 : decode cX4_goOnBehind 143 = .ok (.putfield 43, 3) := by decide +kernel
theorem dX4_goOnBehind_146 : decode cX4_goOnBehind 146 = .ok (.aload_n 0, 1) := by decide +kernel
theorem dX4_goOnBehind_147 : decode cX4_goOnBehind 147 = .ok (.iconst 3, 1) := by decide +kernel
theorem dX4_goOnBehind_148 : decode cX4_goOnBehind 148 = .ok (.putfield 24, 3) := by decide +kernel
theorem dX4_goOnBehind_151 : decode cX4_goOnBehind 151 = .ok (.goto 59, 3) := by decide +kernel
theorem dX4_goOnBehind_154 : decode cX4_goOnBehind 154 = .ok (.aload_n 0, 1) := by decide +kernel
theorem dX4_goOnBehind_155 : decode cX4_goOnBehind 155 = .ok (.iload_n 1, 1) := by decide +kernel
theorem dX4_goOnBehind_156 : decode cX4_goOnBehind 156 = .ok (.invokevirtual 90, 3) := by decide +kernel
theorem dX4_goOnBehind_159 : decode cX4_goOnBehind 159 = .ok (.aload_n 0, 1) := by decide +kernel
theorem dX4_goOnBehind_160 : decode cX4_goOnBehind 160 = .ok (.iconst 0, 1) := by decide +kernel
theorem dX4_goOnBehind_161 : decode cX4_goOnBehind 161 = .ok (.putfield 43, 3) := by decide +kernel
theorem dX4_goOnBehind_164 : decode cX4_goOnBehind 164 = .ok (.aload_n 0, 1) := by decide +kernel
theorem dX4_goOnBehind_165 : decode cX4_goOnBehind 165 = .ok (.iconst 2, 1) := by decide +kernel
theorem dX4_goOnBehind_166 : decode cX4_goOnBehind 166 = .ok (.putfield 24, 3) := by decide +kernel
theorem dX4_goOnBehind_169 : decode cX4_goOnBehind 169 = .ok (.goto 41, 3) := by decide +kernel
theorem dX4_goOnBehind_172 : decode cX4_goOnBehind 172 = .ok (.aload_n 0, 1) := by decide +kernel
theorem dX4_goOnBehind_173 : decode cX4_goOnBehind 173 = .ok (.iload_n 1, 1) := by decide +kernel
theorem dX4_goOnBehind_174 : decode cX4_goOnBehind 174 = .ok (.invokevirtual 90, 3) := by decide +kernel
theorem dX4_goOnBehind_177 : decode cX4_goOnBehind 177 = .ok (.iload_n 1, 1) := by decide +kernel
theorem dX4_goOnBehind_178 : decode cX4_goOnBehind 178 = .ok (.bipush 61, 2) := by decide +kernel
theorem dX4_goOnBehind_180 : decode cX4_goOnBehind 180 = .ok (.if_icmp .eq 15, 3) := by decide +kernel
theorem dX4_goOnBehind_183 : decode cX4_goOnBehind 183 = .ok (.iload_n 1, 1) := by decide +kernel
theorem dX4_goOnBehind_184 : decode cX4_goOnBehind 184 = .ok (.bipush 60, 2) := by decide +kernel
theorem dX4_goOnBehind_186 : decode cX4_goOnBehind 186 = .ok (.if_icmp .eq 9, 3) := by decide +kernel
theorem dX4_goOnBehind_189 : decode cX4_goOnBehind 189 = .ok (.iload_n 1, 1) := by decide +kernel
theorem dX4_goOnBehind_190 : decode cX4_goOnBehind 190 = .ok (.bipush 62, 2) := by decide +kernel
theorem dX4_goOnBehind_192 : decode cX4_goOnBehind 192 = .ok (.if_icmp .ne 13, 3) := by decide +kernel
theorem dX4_goOnBehind_195 : decode cX4_goOnBehind 195 = .ok (.aload_n 0, 1) := by decide +kernel
theorem dX4_goOnBehind_196 : decode cX4_goOnBehind 196 = .ok (.iconst 1, 1) := by decide +kernel
theorem dX4_goOnBehind_197 : decode cX4_goOnBehind 197 = .ok (.putfield 43, 3) := by decide +kernel
theorem dX4_goOnBehind_200 : decode cX4_goOnBehind 200 = .ok (.aload_n 0, 1) := by decide +kernel
theorem dX4_goOnBehind_201 : decode cX4_goOnBehind 201 = .ok (.iconst 1, 1) := by decide +kernel
theorem dX4_goOnBehind_202 : decode cX4_goOnBehind 202 = .ok (.putfield 36, 3) := by decide +kernel
theorem dX4_goOnBehind_205 : decode cX4_goOnBehind 205 = .ok (.aload_n 0, 1) := by decide +kernel
theorem dX4_goOnBehind_206 : decode cX4_goOnBehind 206 = .ok (.iconst 3, 1) := by decide +kernel
theorem dX4_goOnBehind_207 : decode cX4_goOnBehind 207 = .ok (.putfield 24, 3) := by decide +kernel
theorem dX4_goOnBehind_210 : decode cX4_goOnBehind 210 = .ok (.return_, 1) := by decide +kernel
theorem dX4_await_0 : decode cX4_await 0 = .ok (.aload_n 0, 1) := by decide +kernel
theorem dX4_await_1 : decode cX4_await 1 = .ok (.getfield 20, 3) := by decide +kernel
theorem dX4_await_4 : decode cX4_await 4 = .ok (.bipush 64, 2) := by decide +kernel
theorem dX4_await_6 : decode cX4_await 6 = .ok (.if_icmp .ge 25, 3) := by decide +kernel
theorem dX4_await_9 : decode cX4_await 9 = .ok (.aload_n 0, 1) := by decide +kernel
theorem dX4_await_10 : decode cX4_await 10 = .ok (.getfield 16, 3) := by decide +kernel
theorem dX4_await_13 : decode cX4_await 13 = .ok (.aload_n 0, 1) := by decide +kernel
theorem dX4_await_14 : decode cX4_await 14 = .ok (.getfield 20, 3) := by decide +kernel
theorem dX4_await_17 : decode cX4_await 17 = .ok (.iload_n 1, 1) := by decide +kernel
theorem dX4_await_18 : decode cX4_await 18 = .ok (.invokevirtual 130, 3) := by decide +kernel
theorem dX4_await_21 : decode cX4_await 21 = .ok (.aload_n 0, 1) := by decide +kernel
theorem dX4_await_22 : decode cX4_await 22 = .ok (.dup, 1) := by decide +kernel
theorem dX4_await_23 : decode cX4_await 23 = .ok (.getfield 20, 3) := by decide +kernel
theorem dX4_await_26 : decode cX4_await 26 = .ok (.iconst 1, 1) := by decide +kernel
theorem dX4_await_27 : decode cX4_await 27 = .ok (.iadd, 1) := by decide +kernel
theorem dX4_await_28 : decode cX4_await 28 = .ok (.putfield 20, 3) := by decide +kernel
theorem dX4_await_31 : decode cX4_await 31 = .ok (.return_, 1) := by decide +kernel
theorem dX4_release_0 : decode cX4_release 0 = .ok (.aload_n 0, 1) := by decide +kernel
theorem dX4_release_1 : decode cX4_release 1 = .ok (.getfield 20, 3) := by decide +kernel
theorem dX4_release_4 : decode cX4_release 4 = .ok (.ifCond .le 82, 3) := by decide +kernel
theorem dX4_release_7 : decode cX4_release 7 = .ok (.aload_n 0, 1) := by decide +kernel
theorem dX4_release_8 : decode cX4_release 8 = .ok (.getfield 16, 3) := by decide +kernel
theorem dX4_release_11 : decode cX4_release 11 = .ok (.aload_n 0, 1) := by decide +kernel
theorem dX4_release_12 : decode cX4_release 12 = .ok (.getfield 20, 3) := by decide +kernel
theorem dX4_release_15 : decode cX4_release 15 = .ok (.iconst 1, 1) := by decide +kernel
theorem dX4_release_16 : decode cX4_release 16 = .ok (.isub, 1) := by decide +kernel
theorem dX4_release_17 : decode cX4_release 17 = .ok (.invokevirtual 134, 3) := by decide +kernel
theorem dX4_release_20 : decode cX4_release 20 = .ok (.invokestatic 114, 3) := by decide +kernel
theorem dX4_release_23 : decode cX4_release 23 = .ok (.iload_n 1, 1) := by decide +kernel
theorem dX4_release_24 : decode cX4_release 24 = .ok (.if_icmp .lt 62, 3) := by decide +kernel
theorem dX4_release_27 : decode cX4_release 27 = .ok (.aload_n 0, 1) := by decide +kernel
theorem dX4_release_28 : decode cX4_release 28 = .ok (.dup, 1) := by decide +kernel
theorem dX4_release_29 : decode cX4_release 29 = .ok (.getfield 20, 3) := by decide +kernel
theorem dX4_release_32 : decode cX4_release 32 = .ok (.iconst 1, 1) := by decide +kernel
theorem dX4_release_33 : decode cX4_release 33 = .ok (.isub, 1) := by decide +kernel
theorem dX4_release_34 : decode cX4_release 34 = .ok (.putfield 20, 3) := by decide +kernel
theorem dX4_release_37 : decode cX4_release 37 = .ok (.aload_n 2, 1) := by decide +kernel
theorem dX4_release_38 : decode cX4_release 38 = .ok (.aload_n 0, 1) := by decide +kernel
theorem dX4_release_39 : decode cX4_release 39 = .ok (.getfield 16, 3) := by decide +kernel
theorem dX4_release_42 : decode cX4_release 42 = .ok (.aload_n 0, 1) := by decide +kernel
theorem dX4_release_43 : decode cX4_release 43 = .ok (.getfield 20, 3) := by decide +kernel
theorem dX4_release_46 : decode cX4_release 46 = .ok (.invokevirtual 134, 3) := by decide +kernel
theorem dX4_release_49 : decode cX4_release 49 = .ok (.ineg, 1) := by decide +kernel
theorem dX4_release_50 : decode cX4_release 50 = .ok (.invokevirtual 103, 3) := by decide +kernel
theorem dX4_release_53 : decode cX4_release 53 = .ok (.aload_n 0, 1) := by decide +kernel
theorem dX4_release_54 : decode cX4_release 54 = .ok (.dup, 1) := by decide +kernel
theorem dX4_release_55 : decode cX4_release 55 = .ok (.getfield 27, 3) := by decide +kernel
theorem dX4_release_58 : decode cX4_release 58 = .ok (.aload_n 0, 1) := by decide +kernel
theorem dX4_release_59 : decode cX4_release 59 = .ok (.getfield 16, 3) := by decide +kernel
theorem dX4_release_62 : decode cX4_release 62 = .ok (.aload_n 0, 1) := by decide +kernel
theorem dX4_release_63 : decode cX4_release 63 = .ok (.getfield 20, 3) := by decide +kernel
theorem dX4_release_66 : decode cX4_release 66 = .ok (.invokevirtual 134, 3) := by decide +kernel
theorem dX4_release_69 : decode cX4_release 69 = .ok (.bipush 33, 2) := by decide +kernel
theorem dX4_release_71 : decode cX4_release 71 = .ok (.if_icmp .ne 7, 3) := by decide +kernel
theorem dX4_release_74 : decode cX4_release 74 = .ok (.iconst 1, 1) := by decide +kernel
theorem dX4_release_75 : decode cX4_release 75 = .ok (.goto 4, 3) := by decide +kernel
theorem dX4_release_78 : decode cX4_release 78 = .ok (.iconst 0, 1) := by decide +kernel
theorem dX4_release_79 : decode cX4_release 79 = .ok (.isub, 1) := by decide +kernel
theorem dX4_release_80 : decode cX4_release 80 = .ok (.putfield 27, 3) := by decide +kernel
theorem dX4_release_83 : decode cX4_release 83 = .ok (.goto (-83), 3) := by decide +kernel
theorem dX4_release_86 : decode cX4_release 86 = .ok (.return_, 1) := by decide +kernel
theorem dX4_closeBracket_0 : decode cX4_closeBracket 0 = .ok (.aload_n 0, 1) := by decide +kernel
theorem dX4_closeBracket_1 : decode cX4_closeBracket 1 = .ok (.iconst 0, 1) := by decide +kernel
theorem dX4_closeBracket_2 : decode cX4_closeBracket 2 = .ok (.aload_n 0, 1) := by decide +kernel
theorem dX4_closeBracket_3 : decode cX4_closeBracket 3 = .ok (.getfield 20, 3) := by decide +kernel
theorem dX4_closeBracket_6 : decode cX4_closeBracket 6 = .ok (.iconst 1, 1) := by decide +kernel
theorem dX4_closeBracket_7 : decode cX4_closeBracket 7 = .ok (.isub, 1) := by decide +kernel
theorem dX4_closeBracket_8 : decode cX4_closeBracket 8 = .ok (.invokestatic 118, 3) := by decide +kernel
theorem dX4_closeBracket_11 : decode cX4_closeBracket 11 = .ok (.putfield 20, 3) := by decide +kernel
theorem dX4_closeBracket_14 : decode cX4_closeBracket 14 = .ok (.aload_n 0, 1) := by decide +kernel
theorem dX4_closeBracket_15 : decode cX4_closeBracket 15 = .ok (.dup, 1) := by decide +kernel
theorem dX4_closeBracket_16 : decode cX4_closeBracket 16 = .ok (.getfield 27, 3) := by decide +kernel
theorem dX4_closeBracket_19 : decode cX4_closeBracket 19 = .ok (.iconst 1, 1) := by decide +kernel
theorem dX4_closeBracket_20 : decode cX4_closeBracket 20 = .ok (.isub, 1) := by decide +kernel
theorem dX4_closeBracket_21 : decode cX4_closeBracket 21 = .ok (.putfield 27, 3) := by decide +kernel
theorem dX4_closeBracket_24 : decode cX4_closeBracket 24 = .ok (.return_, 1) := by decide +kernel
theorem dX4_strengthOf_0 : decode cX4_strengthOf 0 = .ok (.iload_n 0, 1) := by decide +kernel
theorem dX4_strengthOf_1 : decode cX4_strengthOf 1 = .ok (.lookupswitch 104 #[(33, 95), (38, 93), (42, 101), (43, 99), (45, 99), (47, 101), (60, 97), (61, 97), (62, 97), (124, 91)], 91) := by decide +kernel
theorem dX4_strengthOf_92 : decode cX4_strengthOf 92 = .ok (.iconst 1, 1) := by decide +kernel
theorem dX4_strengthOf_93 : decode cX4_strengthOf 93 = .ok (.ireturn, 1) := by decide +kernel
theorem dX4_strengthOf_94 : decode cX4_strengthOf 94 = .ok (.iconst 2, 1) := by decide +kernel
theorem dX4_strengthOf_95 : decode cX4_strengthOf 95 = .ok (.ireturn, 1) := by decide +kernel
theorem dX4_strengthOf_96 : decode cX4_strengthOf 96 = .ok (.iconst 3, 1) := by decide +kernel
theorem dX4_strengthOf_97 : decode cX4_strengthOf 97 = .ok (.ireturn, 1) := by decide +kernel
theorem dX4_strengthOf_98 : decode cX4_strengthOf 98 = .ok (.iconst 4, 1) := by decide +kernel
theorem dX4_strengthOf_99 : decode cX4_strengthOf 99 = .ok (.ireturn, 1) := by decide +kernel
theorem dX4_strengthOf_100 : decode cX4_strengthOf 100 = .ok (.iconst 5, 1) := by decide +kernel
theorem dX4_strengthOf_101 : decode cX4_strengthOf 101 = .ok (.ireturn, 1) := by decide +kernel
theorem dX4_strengthOf_102 : decode cX4_strengthOf 102 = .ok (.bipush 6, 2) := by decide +kernel
theorem dX4_strengthOf_104 : decode cX4_strengthOf 104 = .ok (.ireturn, 1) := by decide +kernel
theorem dX4_strengthOf_105 : decode cX4_strengthOf 105 = .ok (.iconst 0, 1) := by decide +kernel
theorem dX4_strengthOf_106 : decode cX4_strengthOf 106 = .ok (.ireturn, 1) := by decide +kernel
theorem dX5_init_0 : decode cX5_init 0 = .ok (.aload_n 0, 1) := by decide +kernel
theorem dX5_init_1 : decode cX5_init 1 = .ok (.invokespecial 3, 3) := by decide +kernel
theorem dX5_init_4 : decode cX5_init 4 = .ok (.aload_n 0, 1) := by decide +kernel
theorem dX5_init_5 : decode cX5_init 5 = .ok (.new 9, 3) := by decide +kernel
theorem dX5_init_8 : decode cX5_init 8 = .ok (.dup, 1) := by decide +kernel
theorem dX5_init_9 : decode cX5_init 9 = .ok (.invokespecial 11, 3) := by decide +kernel
theorem dX5_init_12 : decode cX5_init 12 = .ok (.putfield 12, 3) := by decide +kernel
theorem dX5_init_15 : decode cX5_init 15 = .ok (.aload_n 0, 1) := by decide +kernel
theorem dX5_init_16 : decode cX5_init 16 = .ok (.new 18, 3) := by decide +kernel
theorem dX5_init_19 : decode cX5_init 19 = .ok (.dup, 1) := by decide +kernel
theorem dX5_init_20 : decode cX5_init 20 = .ok (.bipush 30, 2) := by decide +kernel
theorem dX5_init_22 : decode cX5_init 22 = .ok (.invokespecial 20, 3) := by decide +kernel
theorem dX5_init_25 : decode cX5_init 25 = .ok (.putfield 23, 3) := by decide +kernel
theorem dX5_init_28 : decode cX5_init 28 = .ok (.aload_n 0, 1) := by decide +kernel
theorem dX5_init_29 : decode cX5_init 29 = .ok (.new 18, 3) := by decide +kernel
theorem dX5_init_32 : decode cX5_init 32 = .ok (.dup, 1) := by decide +kernel
theorem dX5_init_33 : decode cX5_init 33 = .ok (.bipush 30, 2) := by decide +kernel
theorem dX5_init_35 : decode cX5_init 35 = .ok (.invokespecial 20, 3) := by decide +kernel
theorem dX5_init_38 : decode cX5_init 38 = .ok (.putfield 27, 3) := by decide +kernel
theorem dX5_init_41 : decode cX5_init 41 = .ok (.aload_n 0, 1) := by decide +kernel
theorem dX5_init_42 : decode cX5_init 42 = .ok (.new 18, 3) := by decide +kernel
theorem dX5_init_45 : decode cX5_init 45 = .ok (.dup, 1) := by decide +kernel
theorem dX5_init_46 : decode cX5_init 46 = .ok (.bipush 61, 2) := by decide +kernel
theorem dX5_init_48 : decode cX5_init 48 = .ok (.invokespecial 20, 3) := by decide +kernel
theorem dX5_init_51 : decode cX5_init 51 = .ok (.putfield 30, 3) := by decide +kernel
theorem dX5_init_54 : decode cX5_init 54 = .ok (.aload_n 0, 1) := by decide +kernel
theorem dX5_init_55 : decode cX5_init 55 = .ok (.new 18, 3) := by decide +kernel
theorem dX5_init_58 : decode cX5_init 58 = .ok (.dup, 1) := by decide +kernel
theorem dX5_init_59 : decode cX5_init 59 = .ok (.bipush 61, 2) := by decide +kernel
theorem dX5_init_61 : decode cX5_init 61 = .ok (.invokespecial 20, 3) := by decide +kernel
theorem dX5_init_64 : decode cX5_init 64 = .ok (.putfield 33, 3) := by decide +kernel
theorem dX5_init_67 : decode cX5_init 67 = .ok (.aload_n 0, 1) := by decide +kernel
theorem dX5_init_68 : decode cX5_init 68 = .ok (.new 18, 3) := by decide +kernel
theorem dX5_init_71 : decode cX5_init 71 = .ok (.dup, 1) := by decide +kernel
theorem dX5_init_72 : decode cX5_init 72 = .ok (.bipush 7, 2) := by decide +kernel
theorem dX5_init_74 : decode cX5_init 74 = .ok (.invokespecial 20, 3) := by decide +kernel
theorem dX5_init_77 : decode cX5_init 77 = .ok (.putfield 36, 3) := by decide +kernel
theorem dX5_init_80 : decode cX5_init 80 = .ok (.aload_n 0, 1) := by decide +kernel
theorem dX5_init_81 : decode cX5_init 81 = .ok (.new 18, 3) := by decide +kernel
theorem dX5_init_84 : decode cX5_init 84 = .ok (.dup, 1) := by decide +kernel
theorem dX5_init_85 : decode cX5_init 85 = .ok (.bipush 12, 2) := by decide +kernel
theorem dX5_init_87 : decode cX5_init 87 = .ok (.invokespecial 20, 3) := by decide +kernel
theorem dX5_init_90 : decode cX5_init 90 = .ok (.putfield 39, 3) := by decide +kernel
theorem dX5_init_93 : decode cX5_init 93 = .ok (.aload_n 0, 1) := by decide +kernel
theorem dX5_init_94 : decode cX5_init 94 = .ok (.new 18, 3) := by decide +kernel
theorem dX5_init_97 : decode cX5_init 97 = .ok (.dup, 1) := by decide +kernel
theorem dX5_init_98 : decode cX5_init 98 = .ok (.bipush 36, 2) := by decide +kernel
theorem dX5_init_100 : decode cX5_init 100 = .ok (.invokespecial 20, 3) := by decide +kernel
theorem dX5_init_103 : decode cX5_init 103 = .ok (.putfield 42, 3) := by decide +kernel
theorem dX5_init_106 : decode cX5_init 106 = .ok (.aload_n 0, 1) := by decide +kernel
theorem dX5_init_107 : decode cX5_init 107 = .ok (.aload_n 1, 1) := by decide +kernel
theorem dX5_init_108 : decode cX5_init 108 = .ok (.putfield 45, 3) := by decide +kernel
theorem dX5_init_111 : decode cX5_init 111 = .ok (.aload_n 0, 1) := by decide +kernel
theorem dX5_init_112 : decode cX5_init 112 = .ok (.aload_n 2, 1) := by decide +kernel
theorem dX5_init_113 : decode cX5_init 113 = .ok (.putfield 49, 3) := by decide +kernel
theorem dX5_init_116 : decode cX5_init 116 = .ok (.return_, 1) := by decide +kernel
theorem dX5_runOf_0 : decode cX5_runOf 0 = .ok (.aload_n 2, 1) := by decide +kernel
theorem dX5_runOf_1 : decode cX5_runOf 1 = .ok (.ifnonnull 6, 3) := by decide +kernel
theorem dX5_runOf_4 : decode cX5_runOf 4 = .ok (.ldc 53, 2) := by decide +kernel
theorem dX5_runOf_6 : decode cX5_runOf 6 = .ok (.ireturn, 1) := by decide +kernel
theorem dX5_runOf_7 : decode cX5_runOf 7 = .ok (.aload_n 0, 1) := by decide +kernel
theorem dX5_runOf_8 : decode cX5_runOf 8 = .ok (.getfield 12, 3) := by decide +kernel
theorem dX5_runOf_11 : decode cX5_runOf 11 = .ok (.aload_n 1, 1) := by decide +kernel
theorem dX5_runOf_12 : decode cX5_runOf 12 = .ok (.invokevirtual 54, 3) := by decide +kernel
theorem dX5_runOf_15 : decode cX5_runOf 15 = .ok (.iconst 0, 1) := by decide +kernel
theorem dX5_runOf_16 : decode cX5_runOf 16 = .ok (.istore 4, 2) := by decide +kernel
theorem dX5_runOf_18 : decode cX5_runOf 18 = .ok (.iload 4, 2) := by decide +kernel
theorem dX5_runOf_20 : decode cX5_runOf 20 = .ok (.aload_n 2, 1) := by decide +kernel
theorem dX5_runOf_21 : decode cX5_runOf 21 = .ok (.invokevirtual 58, 3) := by decide +kernel
theorem dX5_runOf_24 : decode cX5_runOf 24 = .ok (.if_icmp .ge 58, 3) := by decide +kernel
theorem dX5_runOf_27 : decode cX5_runOf 27 = .ok (.aload_n 0, 1) := by decide +kernel
theorem dX5_runOf_28 : decode cX5_runOf 28 = .ok (.getfield 49, 3) := by decide +kernel
theorem dX5_runOf_31 : decode cX5_runOf 31 = .ok (.aload_n 0, 1) := by decide +kernel
theorem dX5_runOf_32 : decode cX5_runOf 32 = .ok (.getfield 12, 3) := by decide +kernel
theorem dX5_runOf_35 : decode cX5_runOf 35 = .ok (.aload_n 2, 1) := by decide +kernel
theorem dX5_runOf_36 : decode cX5_runOf 36 = .ok (.iload 4, 2) := by decide +kernel
theorem dX5_runOf_38 : decode cX5_runOf 38 = .ok (.invokevirtual 64, 3) := by decide +kernel
theorem dX5_runOf_41 : decode cX5_runOf 41 = .ok (.ifCond .eq 41, 3) := by decide +kernel
theorem dX5_runOf_44 : decode cX5_runOf 44 = .ok (.aload_n 0, 1) := by decide +kernel
theorem dX5_runOf_45 : decode cX5_runOf 45 = .ok (.getfield 49, 3) := by decide +kernel
theorem dX5_runOf_48 : decode cX5_runOf 48 = .ok (.aload_n 0, 1) := by decide +kernel
theorem dX5_runOf_49 : decode cX5_runOf 49 = .ok (.getfield 12, 3) := by decide +kernel
theorem dX5_runOf_52 : decode cX5_runOf 52 = .ok (.aload_n 2, 1) := by decide +kernel
theorem dX5_runOf_53 : decode cX5_runOf 53 = .ok (.iload 4, 2) := by decide +kernel
theorem dX5_runOf_55 : decode cX5_runOf 55 = .ok (.iconst 0, 1) := by decide +kernel
theorem dX5_runOf_56 : decode cX5_runOf 56 = .ok (.invokevirtual 70, 3) := by decide +kernel
theorem dX5_runOf_59 : decode cX5_runOf 59 = .ok (.aload_n 2, 1) := by decide +kernel
theorem dX5_runOf_60 : decode cX5_runOf 60 = .ok (.iload 4, 2) := by decide +kernel
theorem dX5_runOf_62 : decode cX5_runOf 62 = .ok (.iconst 1, 1) := by decide +kernel
theorem dX5_runOf_63 : decode cX5_runOf 63 = .ok (.invokevirtual 70, 3) := by decide +kernel
theorem dX5_runOf_66 : decode cX5_runOf 66 = .ok (.aload_n 2, 1) := by decide +kernel
theorem dX5_runOf_67 : decode cX5_runOf 67 = .ok (.iload 4, 2) := by decide +kernel
theorem dX5_runOf_69 : decode cX5_runOf 69 = .ok (.iconst 2, 1) := by decide +kernel
theorem dX5_runOf_70 : decode cX5_runOf 70 = .ok (.invokevirtual 70, 3) := by decide +kernel
theorem dX5_runOf_73 : decode cX5_runOf 73 = .ok (.invokevirtual 74, 3) := by decide +kernel
theorem dX5_runOf_76 : decode cX5_runOf 76 = .ok (.iinc 4 1, 3) := by decide +kernel
theorem dX5_runOf_79 : decode cX5_runOf 79 = .ok (.goto (-61), 3) := by decide +kernel
theorem dX5_runOf_82 : decode cX5_runOf 82 = .ok (.iload_n 3, 1) := by decide +kernel
theorem dX5_runOf_83 : decode cX5_runOf 83 = .ok (.iconst 1, 1) := by decide +kernel
theorem dX5_runOf_84 : decode cX5_runOf 84 = .ok (.if_icmp .ne 22, 3) := by decide +kernel
theorem dX5_runOf_87 : decode cX5_runOf 87 = .ok (.aload_n 0, 1) := by decide +kernel
theorem dX5_runOf_88 : decode cX5_runOf 88 = .ok (.getfield 12, 3) := by decide +kernel
theorem dX5_runOf_91 : decode cX5_runOf 91 = .ok (.sipush 142, 3) := by decide +kernel
theorem dX5_runOf_94 : decode cX5_runOf 94 = .ok (.invokevirtual 78, 3) := by decide +kernel
theorem dX5_runOf_97 : decode cX5_runOf 97 = .ok (.aload_n 1, 1) := by decide +kernel
theorem dX5_runOf_98 : decode cX5_runOf 98 = .ok (.sipush 142, 3) := by decide +kernel
theorem dX5_runOf_101 : decode cX5_runOf 101 = .ok (.invokevirtual 78, 3) := by decide +kernel
theorem dX5_runOf_104 : decode cX5_runOf 104 = .ok (.isub, 1) := by decide +kernel
theorem dX5_runOf_105 : decode cX5_runOf 105 = .ok (.ireturn, 1) := by decide +kernel
theorem dX5_runOf_106 : decode cX5_runOf 106 = .ok (.iload 4, 2) := by decide +kernel
theorem dX5_runOf_108 : decode cX5_runOf 108 = .ok (.aload_n 2, 1) := by decide +kernel
theorem dX5_runOf_109 : decode cX5_runOf 109 = .ok (.invokevirtual 58, 3) := by decide +kernel
theorem dX5_runOf_112 : decode cX5_runOf 112 = .ok (.if_icmp .ne 7, 3) := by decide +kernel
theorem dX5_runOf_115 : decode cX5_runOf 115 = .ok (.iconst (-1), 1) := by decide +kernel
theorem dX5_runOf_116 : decode cX5_runOf 116 = .ok (.goto 5, 3) := by decide +kernel
theorem dX5_runOf_119 : decode cX5_runOf 119 = .ok (.iload 4, 2) := by decide +kernel
theorem dX5_runOf_121 : decode cX5_runOf 121 = .ok (.ireturn, 1) := by decide +kernel
theorem dX5_maybeDarkest_0 : decode cX5_maybeDarkest 0 = .ok (.bipush 99, 2) := by decide +kernel
theorem dX5_maybeDarkest_2 : decode cX5_maybeDarkest 2 = .ok (.istore_n 3, 1) := by decide +kernel
theorem dX5_maybeDarkest_3 : decode cX5_maybeDarkest 3 = .ok (.iconst 0, 1) := by decide +kernel
theorem dX5_maybeDarkest_4 : decode cX5_maybeDarkest 4 = .ok (.istore 4, 2) := by decide +kernel
theorem dX5_maybeDarkest_6 : decode cX5_maybeDarkest 6 = .ok (.iload 4, 2) := by decide +kernel
theorem dX5_maybeDarkest_8 : decode cX5_maybeDarkest 8 = .ok (.aload_n 0, 1) := by decide +kernel
theorem dX5_maybeDarkest_9 : decode cX5_maybeDarkest 9 = .ok (.getfield 45, 3) := by decide +kernel
theorem dX5_maybeDarkest_12 : decode cX5_maybeDarkest 12 = .ok (.iconst 0, 1) := by decide +kernel
theorem dX5_maybeDarkest_13 : decode cX5_maybeDarkest 13 = .ok (.invokevirtual 84, 3) := by decide +kernel
theorem dX5_maybeDarkest_16 : decode cX5_maybeDarkest 16 = .ok (.if_icmp .ge 42, 3) := by decide +kernel
theorem dX5_maybeDarkest_19 : decode cX5_maybeDarkest 19 = .ok (.aload_n 0, 1) := by decide +kernel
theorem dX5_maybeDarkest_20 : decode cX5_maybeDarkest 20 = .ok (.getfield 23, 3) := by decide +kernel
theorem dX5_maybeDarkest_23 : decode cX5_maybeDarkest 23 = .ok (.iload 4, 2) := by decide +kernel
theorem dX5_maybeDarkest_25 : decode cX5_maybeDarkest 25 = .ok (.aload_n 0, 1) := by decide +kernel
theorem dX5_maybeDarkest_26 : decode cX5_maybeDarkest 26 = .ok (.getfield 49, 3) := by decide +kernel
theorem dX5_maybeDarkest_29 : decode cX5_maybeDarkest 29 = .ok (.aload_n 1, 1) := by decide +kernel
theorem dX5_maybeDarkest_30 : decode cX5_maybeDarkest 30 = .ok (.iload 4, 2) := by decide +kernel
theorem dX5_maybeDarkest_32 : decode cX5_maybeDarkest 32 = .ok (.invokevirtual 85, 3) := by decide +kernel
theorem dX5_maybeDarkest_35 : decode cX5_maybeDarkest 35 = .ok (.invokevirtual 89, 3) := by decide +kernel
theorem dX5_maybeDarkest_38 : decode cX5_maybeDarkest 38 = .ok (.iload_n 3, 1) := by decide +kernel
theorem dX5_maybeDarkest_39 : decode cX5_maybeDarkest 39 = .ok (.aload_n 0, 1) := by decide +kernel
theorem dX5_maybeDarkest_40 : decode cX5_maybeDarkest 40 = .ok (.getfield 23, 3) := by decide +kernel
theorem dX5_maybeDarkest_43 : decode cX5_maybeDarkest 43 = .ok (.iload 4, 2) := by decide +kernel
theorem dX5_maybeDarkest_45 : decode cX5_maybeDarkest 45 = .ok (.invokevirtual 93, 3) := by decide +kernel
theorem dX5_maybeDarkest_48 : decode cX5_maybeDarkest 48 = .ok (.invokestatic 94, 3) := by decide +kernel
theorem dX5_maybeDarkest_51 : decode cX5_maybeDarkest 51 = .ok (.istore_n 3, 1) := by decide +kernel
theorem dX5_maybeDarkest_52 : decode cX5_maybeDarkest 52 = .ok (.iinc 4 1, 3) := by decide +kernel
theorem dX5_maybeDarkest_55 : decode cX5_maybeDarkest 55 = .ok (.goto (-49), 3) := by decide +kernel
theorem dX5_maybeDarkest_58 : decode cX5_maybeDarkest 58 = .ok (.iconst 0, 1) := by decide +kernel
theorem dX5_maybeDarkest_59 : decode cX5_maybeDarkest 59 = .ok (.istore 4, 2) := by decide +kernel
theorem dX5_maybeDarkest_61 : decode cX5_maybeDarkest 61 = .ok (.iconst 0, 1) := by decide +kernel
theorem dX5_maybeDarkest_62 : decode cX5_maybeDarkest 62 = .ok (.istore 5, 2) := by decide +kernel
theorem dX5_maybeDarkest_64 : decode cX5_maybeDarkest 64 = .ok (.iload 5, 2) := by decide +kernel
theorem dX5_maybeDarkest_66 : decode cX5_maybeDarkest 66 = .ok (.aload_n 0, 1) := by decide +kernel
theorem dX5_maybeDarkest_67 : decode cX5_maybeDarkest 67 = .ok (.getfield 45, 3) := by decide +kernel
theorem dX5_maybeDarkest_70 : decode cX5_maybeDarkest 70 = .ok (.iconst 0, 1) := by decide +kernel
theorem dX5_maybeDarkest_71 : decode cX5_maybeDarkest 71 = .ok (.invokevirtual 84, 3) := by decide +kernel
theorem dX5_maybeDarkest_74 : decode cX5_maybeDarkest 74 = .ok (.if_icmp .ge 39, 3) := by decide +kernel
theorem dX5_maybeDarkest_77 : decode cX5_maybeDarkest 77 = .ok (.iload 4, 2) := by decide +kernel
theorem dX5_maybeDarkest_79 : decode cX5_maybeDarkest 79 = .ok (.aload_n 0, 1) := by decide +kernel
theorem dX5_maybeDarkest_80 : decode cX5_maybeDarkest 80 = .ok (.getfield 23, 3) := by decide +kernel
theorem dX5_maybeDarkest_83 : decode cX5_maybeDarkest 83 = .ok (.iload 5, 2) := by decide +kernel
theorem dX5_maybeDarkest_85 : decode cX5_maybeDarkest 85 = .ok (.invokevirtual 93, 3) := by decide +kernel
theorem dX5_maybeDarkest_88 : decode cX5_maybeDarkest 88 = .ok (.iload_n 3, 1) := by decide +kernel
theorem dX5_maybeDarkest_89 : decode cX5_maybeDarkest 89 = .ok (.iconst 2, 1) := by decide +kernel
theorem dX5_maybeDarkest_90 : decode cX5_maybeDarkest 90 = .ok (.iload_n 2, 1) := by decide +kernel
theorem dX5_maybeDarkest_91 : decode cX5_maybeDarkest 91 = .ok (.imul, 1) := by decide +kernel
theorem dX5_maybeDarkest_92 : decode cX5_maybeDarkest 92 = .ok (.iadd, 1) := by decide +kernel
theorem dX5_maybeDarkest_93 : decode cX5_maybeDarkest 93 = .ok (.if_icmp .gt 10, 3) := by decide +kernel
theorem dX5_maybeDarkest_96 : decode cX5_maybeDarkest 96 = .ok (.iconst 1, 1) := by decide +kernel
theorem dX5_maybeDarkest_97 : decode cX5_maybeDarkest 97 = .ok (.iload 5, 2) := by decide +kernel
theorem dX5_maybeDarkest_99 : decode cX5_maybeDarkest 99 = .ok (.ishl, 1) := by decide +kernel
theorem dX5_maybeDarkest_100 : decode cX5_maybeDarkest 100 = .ok (.goto 4, 3) := by decide +kernel
theorem dX5_maybeDarkest_103 : decode cX5_maybeDarkest 103 = .ok (.iconst 0, 1) := by decide +kernel
theorem dX5_maybeDarkest_104 : decode cX5_maybeDarkest 104 = .ok (.ior, 1) := by decide +kernel
theorem dX5_maybeDarkest_105 : decode cX5_maybeDarkest 105 = .ok (.istore 4, 2) := by decide +kernel
theorem dX5_maybeDarkest_107 : decode cX5_maybeDarkest 107 = .ok (.iinc 5 1, 3) := by decide +kernel
theorem dX5_maybeDarkest_110 : decode cX5_maybeDarkest 110 = .ok (.goto (-46), 3) := by decide +kernel
theorem dX5_maybeDarkest_113 : decode cX5_maybeDarkest 113 = .ok (.iload 4, 2) := by decide +kernel
theorem dX5_maybeDarkest_115 : decode cX5_maybeDarkest 115 = .ok (.ireturn, 1) := by decide +kernel
theorem dX5_governorBehind_0 : decode cX5_governorBehind 0 = .ok (.aload_n 0, 1) := by decide +kernel
theorem dX5_governorBehind_1 : decode cX5_governorBehind 1 = .ok (.getfield 12, 3) := by decide +kernel
theorem dX5_governorBehind_4 : decode cX5_governorBehind 4 = .ok (.aload_n 1, 1) := by decide +kernel
theorem dX5_governorBehind_5 : decode cX5_governorBehind 5 = .ok (.invokevirtual 54, 3) := by decide +kernel
theorem dX5_governorBehind_8 : decode cX5_governorBehind 8 = .ok (.iconst 0, 1) := by decide +kernel
theorem dX5_governorBehind_9 : decode cX5_governorBehind 9 = .ok (.istore_n 3, 1) := by decide +kernel
theorem dX5_governorBehind_10 : decode cX5_governorBehind 10 = .ok (.iload_n 3, 1) := by decide +kernel
theorem dX5_governorBehind_11 : decode cX5_governorBehind 11 = .ok (.iload_n 2, 1) := by decide +kernel
theorem dX5_governorBehind_12 : decode cX5_governorBehind 12 = .ok (.if_icmp .ge 20, 3) := by decide +kernel
theorem dX5_governorBehind_15 : decode cX5_governorBehind 15 = .ok (.aload_n 0, 1) := by decide +kernel
theorem dX5_governorBehind_16 : decode cX5_governorBehind 16 = .ok (.getfield 49, 3) := by decide +kernel
theorem dX5_governorBehind_19 : decode cX5_governorBehind 19 = .ok (.aload_n 0, 1) := by decide +kernel
theorem dX5_governorBehind_20 : decode cX5_governorBehind 20 = .ok (.getfield 12, 3) := by decide +kernel
theorem dX5_governorBehind_23 : decode cX5_governorBehind 23 = .ok (.invokevirtual 99, 3) := by decide +kernel
theorem dX5_governorBehind_26 : decode cX5_governorBehind 26 = .ok (.iinc 3 1, 3) := by decide +kernel
theorem dX5_governorBehind_29 : decode cX5_governorBehind 29 = .ok (.goto (-19), 3) := by decide +kernel
theorem dX5_governorBehind_32 : decode cX5_governorBehind 32 = .ok (.aload_n 0, 1) := by decide +kernel
theorem dX5_governorBehind_33 : decode cX5_governorBehind 33 = .ok (.getfield 12, 3) := by decide +kernel
theorem dX5_governorBehind_36 : decode cX5_governorBehind 36 = .ok (.sipush 143, 3) := by decide +kernel
theorem dX5_governorBehind_39 : decode cX5_governorBehind 39 = .ok (.invokevirtual 78, 3) := by decide +kernel
theorem dX5_governorBehind_42 : decode cX5_governorBehind 42 = .ok (.ireturn, 1) := by decide +kernel
theorem dX5_swayed_0 : decode cX5_swayed 0 = .ok (.aload_n 0, 1) := by decide +kernel
theorem dX5_swayed_1 : decode cX5_swayed 1 = .ok (.getfield 12, 3) := by decide +kernel
theorem dX5_swayed_4 : decode cX5_swayed 4 = .ok (.aload_n 1, 1) := by decide +kernel
theorem dX5_swayed_5 : decode cX5_swayed 5 = .ok (.invokevirtual 54, 3) := by decide +kernel
theorem dX5_swayed_8 : decode cX5_swayed 8 = .ok (.aload_n 0, 1) := by decide +kernel
theorem dX5_swayed_9 : decode cX5_swayed 9 = .ok (.getfield 49, 3) := by decide +kernel
theorem dX5_swayed_12 : decode cX5_swayed 12 = .ok (.aload_n 0, 1) := by decide +kernel
theorem dX5_swayed_13 : decode cX5_swayed 13 = .ok (.getfield 12, 3) := by decide +kernel
theorem dX5_swayed_16 : decode cX5_swayed 16 = .ok (.invokevirtual 99, 3) := by decide +kernel
theorem dX5_swayed_19 : decode cX5_swayed 19 = .ok (.iconst 0, 1) := by decide +kernel
theorem dX5_swayed_20 : decode cX5_swayed 20 = .ok (.istore_n 2, 1) := by decide +kernel
theorem dX5_swayed_21 : decode cX5_swayed 21 = .ok (.iconst 0, 1) := by decide +kernel
theorem dX5_swayed_22 : decode cX5_swayed 22 = .ok (.istore_n 3, 1) := by decide +kernel
theorem dX5_swayed_23 : decode cX5_swayed 23 = .ok (.iload_n 3, 1) := by decide +kernel
theorem dX5_swayed_24 : decode cX5_swayed 24 = .ok (.aload_n 0, 1) := by decide +kernel
theorem dX5_swayed_25 : decode cX5_swayed 25 = .ok (.getfield 45, 3) := by decide +kernel
theorem dX5_swayed_28 : decode cX5_swayed 28 = .ok (.invokevirtual 103, 3) := by decide +kernel
theorem dX5_swayed_31 : decode cX5_swayed 31 = .ok (.if_icmp .ge 39, 3) := by decide +kernel
theorem dX5_swayed_34 : decode cX5_swayed 34 = .ok (.iload_n 2, 1) := by decide +kernel
theorem dX5_swayed_35 : decode cX5_swayed 35 = .ok (.aload_n 0, 1) := by decide +kernel
theorem dX5_swayed_36 : decode cX5_swayed 36 = .ok (.getfield 12, 3) := by decide +kernel
theorem dX5_swayed_39 : decode cX5_swayed 39 = .ok (.iconst 0, 1) := by decide +kernel
theorem dX5_swayed_40 : decode cX5_swayed 40 = .ok (.iload_n 3, 1) := by decide +kernel
theorem dX5_swayed_41 : decode cX5_swayed 41 = .ok (.iadd, 1) := by decide +kernel
theorem dX5_swayed_42 : decode cX5_swayed 42 = .ok (.invokevirtual 78, 3) := by decide +kernel
theorem dX5_swayed_45 : decode cX5_swayed 45 = .ok (.aload_n 1, 1) := by decide +kernel
theorem dX5_swayed_46 : decode cX5_swayed 46 = .ok (.iconst 0, 1) := by decide +kernel
theorem dX5_swayed_47 : decode cX5_swayed 47 = .ok (.iload_n 3, 1) := by decide +kernel
theorem dX5_swayed_48 : decode cX5_swayed 48 = .ok (.iadd, 1) := by decide +kernel
theorem dX5_swayed_49 : decode cX5_swayed 49 = .ok (.invokevirtual 78, 3) := by decide +kernel
theorem dX5_swayed_52 : decode cX5_swayed 52 = .ok (.if_icmp .eq 9, 3) := by decide +kernel
theorem dX5_swayed_55 : decode cX5_swayed 55 = .ok (.iconst 1, 1) := by decide +kernel
theorem dX5_swayed_56 : decode cX5_swayed 56 = .ok (.iload_n 3, 1) := by decide +kernel
theorem dX5_swayed_57 : decode cX5_swayed 57 = .ok (.ishl, 1) := by decide +kernel
theorem dX5_swayed_58 : decode cX5_swayed 58 = .ok (.goto 4, 3) := by decide +kernel
theorem dX5_swayed_61 : decode cX5_swayed 61 = .ok (.iconst 0, 1) := by decide +kernel
theorem dX5_swayed_62 : decode cX5_swayed 62 = .ok (.ior, 1) := by decide +kernel
theorem dX5_swayed_63 : decode cX5_swayed 63 = .ok (.istore_n 2, 1) := by decide +kernel
theorem dX5_swayed_64 : decode cX5_swayed 64 = .ok (.iinc 3 1, 3) := by decide +kernel
theorem dX5_swayed_67 : decode cX5_swayed 67 = .ok (.goto (-44), 3) := by decide +kernel
theorem dX5_swayed_70 : decode cX5_swayed 70 = .ok (.iload_n 2, 1) := by decide +kernel
theorem dX5_swayed_71 : decode cX5_swayed 71 = .ok (.ireturn, 1) := by decide +kernel
theorem dX5_comingRound_0 : decode cX5_comingRound 0 = .ok (.aload_n 0, 1) := by decide +kernel
theorem dX5_comingRound_1 : decode cX5_comingRound 1 = .ok (.getfield 12, 3) := by decide +kernel
theorem dX5_comingRound_4 : decode cX5_comingRound 4 = .ok (.aload_n 1, 1) := by decide +kernel
theorem dX5_comingRound_5 : decode cX5_comingRound 5 = .ok (.invokevirtual 54, 3) := by decide +kernel
theorem dX5_comingRound_8 : decode cX5_comingRound 8 = .ok (.iconst 1, 1) := by decide +kernel
theorem dX5_comingRound_9 : decode cX5_comingRound 9 = .ok (.istore_n 3, 1) := by decide +kernel
theorem dX5_comingRound_10 : decode cX5_comingRound 10 = .ok (.iload_n 3, 1) := by decide +kernel
theorem dX5_comingRound_11 : decode cX5_comingRound 11 = .ok (.bipush 60, 2) := by decide +kernel
theorem dX5_comingRound_13 : decode cX5_comingRound 13 = .ok (.if_icmp .gt 130, 3) := by decide +kernel
theorem dX5_comingRound_16 : decode cX5_comingRound 16 = .ok (.aload_n 0, 1) := by decide +kernel
theorem dX5_comingRound_17 : decode cX5_comingRound 17 = .ok (.getfield 49, 3) := by decide +kernel
theorem dX5_comingRound_20 : decode cX5_comingRound 20 = .ok (.aload_n 0, 1) := by decide +kernel
theorem dX5_comingRound_21 : decode cX5_comingRound 21 = .ok (.getfield 12, 3) := by decide +kernel
theorem dX5_comingRound_24 : decode cX5_comingRound 24 = .ok (.invokevirtual 99, 3) := by decide +kernel
theorem dX5_comingRound_27 : decode cX5_comingRound 27 = .ok (.aload_n 0, 1) := by decide +kernel
theorem dX5_comingRound_28 : decode cX5_comingRound 28 = .ok (.getfield 30, 3) := by decide +kernel
theorem dX5_comingRound_31 : decode cX5_comingRound 31 = .ok (.iload_n 3, 1) := by decide +kernel
theorem dX5_comingRound_32 : decode cX5_comingRound 32 = .ok (.aload_n 0, 1) := by decide +kernel
theorem dX5_comingRound_33 : decode cX5_comingRound 33 = .ok (.iconst 0, 1) := by decide +kernel
theorem dX5_comingRound_34 : decode cX5_comingRound 34 = .ok (.aload_n 0, 1) := by decide +kernel
theorem dX5_comingRound_35 : decode cX5_comingRound 35 = .ok (.getfield 45, 3) := by decide +kernel
theorem dX5_comingRound_38 : decode cX5_comingRound 38 = .ok (.invokevirtual 103, 3) := by decide +kernel
theorem dX5_comingRound_41 : decode cX5_comingRound 41 = .ok (.invokevirtual 106, 3) := by decide +kernel
theorem dX5_comingRound_44 : decode cX5_comingRound 44 = .ok (.invokevirtual 89, 3) := by decide +kernel
theorem dX5_comingRound_47 : decode cX5_comingRound 47 = .ok (.aload_n 0, 1) := by decide +kernel
theorem dX5_comingRound_48 : decode cX5_comingRound 48 = .ok (.getfield 33, 3) := by decide +kernel
theorem dX5_comingRound_51 : decode cX5_comingRound 51 = .ok (.iload_n 3, 1) := by decide +kernel
theorem dX5_comingRound_52 : decode cX5_comingRound 52 = .ok (.aload_n 0, 1) := by decide +kernel
theorem dX5_comingRound_53 : decode cX5_comingRound 53 = .ok (.bipush 12, 2) := by decide +kernel
theorem dX5_comingRound_55 : decode cX5_comingRound 55 = .ok (.aload_n 0, 1) := by decide +kernel
theorem dX5_comingRound_56 : decode cX5_comingRound 56 = .ok (.getfield 45, 3) := by decide +kernel
theorem dX5_comingRound_59 : decode cX5_comingRound 59 = .ok (.invokevirtual 109, 3) := by decide +kernel
theorem dX5_comingRound_62 : decode cX5_comingRound 62 = .ok (.invokevirtual 106, 3) := by decide +kernel
theorem dX5_comingRound_65 : decode cX5_comingRound 65 = .ok (.invokevirtual 89, 3) := by decide +kernel
theorem dX5_comingRound_68 : decode cX5_comingRound 68 = .ok (.iconst 1, 1) := by decide +kernel
theorem dX5_comingRound_69 : decode cX5_comingRound 69 = .ok (.istore 4, 2) := by decide +kernel
theorem dX5_comingRound_71 : decode cX5_comingRound 71 = .ok (.iload 4, 2) := by decide +kernel
theorem dX5_comingRound_73 : decode cX5_comingRound 73 = .ok (.iload_n 3, 1) := by decide +kernel
theorem dX5_comingRound_74 : decode cX5_comingRound 74 = .ok (.if_icmp .ge 63, 3) := by decide +kernel
theorem dX5_comingRound_77 : decode cX5_comingRound 77 = .ok (.aload_n 0, 1) := by decide +kernel
theorem dX5_comingRound_78 : decode cX5_comingRound 78 = .ok (.getfield 30, 3) := by decide +kernel
theorem dX5_comingRound_81 : decode cX5_comingRound 81 = .ok (.iload 4, 2) := by decide +kernel
theorem dX5_comingRound_83 : decode cX5_comingRound 83 = .ok (.invokevirtual 93, 3) := by decide +kernel
theorem dX5_comingRound_86 : decode cX5_comingRound 86 = .ok (.aload_n 0, 1) := by decide +kernel
theorem dX5_comingRound_87 : decode cX5_comingRound 87 = .ok (.getfield 30, 3) := by decide +kernel
theorem dX5_comingRound_90 : decode cX5_comingRound 90 = .ok (.iload_n 3, 1) := by decide +kernel
theorem dX5_comingRound_91 : decode cX5_comingRound 91 = .ok (.invokevirtual 93, 3) := by decide +kernel
theorem dX5_comingRound_94 : decode cX5_comingRound 94 = .ok (.if_icmp .ne 37, 3) := by decide +kernel
theorem dX5_comingRound_97 : decode cX5_comingRound 97 = .ok (.aload_n 0, 1) := by decide +kernel
theorem dX5_comingRound_98 : decode cX5_comingRound 98 = .ok (.getfield 33, 3) := by decide +kernel
theorem dX5_comingRound_101 : decode cX5_comingRound 101 = .ok (.iload 4, 2) := by decide +kernel
theorem dX5_comingRound_103 : decode cX5_comingRound 103 = .ok (.invokevirtual 93, 3) := by decide +kernel
theorem dX5_comingRound_106 : decode cX5_comingRound 106 = .ok (.aload_n 0, 1) := by decide +kernel
theorem dX5_comingRound_107 : decode cX5_comingRound 107 = .ok (.getfield 33, 3) := by decide +kernel
theorem dX5_comingRound_110 : decode cX5_comingRound 110 = .ok (.iload_n 3, 1) := by decide +kernel
theorem dX5_comingRound_111 : decode cX5_comingRound 111 = .ok (.invokevirtual 93, 3) := by decide +kernel
theorem dX5_comingRound_114 : decode cX5_comingRound 114 = .ok (.if_icmp .ne 17, 3) := by decide +kernel
theorem dX5_comingRound_117 : decode cX5_comingRound 117 = .ok (.iload_n 2, 1) := by decide +kernel
theorem dX5_comingRound_118 : decode cX5_comingRound 118 = .ok (.ifCond .ne 8, 3) := by decide +kernel
theorem dX5_comingRound_121 : decode cX5_comingRound 121 = .ok (.iload 4, 2) := by decide +kernel
theorem dX5_comingRound_123 : decode cX5_comingRound 123 = .ok (.goto 7, 3) := by decide +kernel
theorem dX5_comingRound_126 : decode cX5_comingRound 126 = .ok (.iload_n 3, 1) := by decide +kernel
theorem dX5_comingRound_127 : decode cX5_comingRound 127 = .ok (.iload 4, 2) := by decide +kernel
theorem dX5_comingRound_129 : decode cX5_comingRound 129 = .ok (.isub, 1) := by decide +kernel
theorem dX5_comingRound_130 : decode cX5_comingRound 130 = .ok (.ireturn, 1) := by decide +kernel
theorem dX5_comingRound_131 : decode cX5_comingRound 131 = .ok (.iinc 4 1, 3) := by decide +kernel
theorem dX5_comingRound_134 : decode cX5_comingRound 134 = .ok (.goto (-63), 3) := by decide +kernel
theorem dX5_comingRound_137 : decode cX5_comingRound 137 = .ok (.iinc 3 1, 3) := by decide +kernel
theorem dX5_comingRound_140 : decode cX5_comingRound 140 = .ok (.goto (-130), 3) := by decide +kernel
theorem dX5_comingRound_143 : decode cX5_comingRound 143 = .ok (.iconst (-1), 1) := by decide +kernel
theorem dX5_comingRound_144 : decode cX5_comingRound 144 = .ok (.ireturn, 1) := by decide +kernel
theorem dX5_packed_0 : decode cX5_packed 0 = .ok (.iconst 0, 1) := by decide +kernel
theorem dX5_packed_1 : decode cX5_packed 1 = .ok (.istore_n 3, 1) := by decide +kernel
theorem dX5_packed_2 : decode cX5_packed 2 = .ok (.iconst 0, 1) := by decide +kernel
theorem dX5_packed_3 : decode cX5_packed 3 = .ok (.istore 4, 2) := by decide +kernel
theorem dX5_packed_5 : decode cX5_packed 5 = .ok (.iload 4, 2) := by decide +kernel
theorem dX5_packed_7 : decode cX5_packed 7 = .ok (.iload_n 2, 1) := by decide +kernel
theorem dX5_packed_8 : decode cX5_packed 8 = .ok (.if_icmp .ge 25, 3) := by decide +kernel
theorem dX5_packed_11 : decode cX5_packed 11 = .ok (.iload_n 3, 1) := by decide +kernel
theorem dX5_packed_12 : decode cX5_packed 12 = .ok (.iconst 3, 1) := by decide +kernel
theorem dX5_packed_13 : decode cX5_packed 13 = .ok (.ishl, 1) := by decide +kernel
theorem dX5_packed_14 : decode cX5_packed 14 = .ok (.aload_n 0, 1) := by decide +kernel
theorem dX5_packed_15 : decode cX5_packed 15 = .ok (.getfield 12, 3) := by decide +kernel
theorem dX5_packed_18 : decode cX5_packed 18 = .ok (.iload_n 1, 1) := by decide +kernel
theorem dX5_packed_19 : decode cX5_packed 19 = .ok (.iload 4, 2) := by decide +kernel
theorem dX5_packed_21 : decode cX5_packed 21 = .ok (.iadd, 1) := by decide +kernel
theorem dX5_packed_22 : decode cX5_packed 22 = .ok (.invokevirtual 78, 3) := by decide +kernel
theorem dX5_packed_25 : decode cX5_packed 25 = .ok (.ior, 1) := by decide +kernel
theorem dX5_packed_26 : decode cX5_packed 26 = .ok (.istore_n 3, 1) := by decide +kernel
theorem dX5_packed_27 : decode cX5_packed 27 = .ok (.iinc 4 1, 3) := by decide +kernel
theorem dX5_packed_30 : decode cX5_packed 30 = .ok (.goto (-25), 3) := by decide +kernel
theorem dX5_packed_33 : decode cX5_packed 33 = .ok (.iload_n 3, 1) := by decide +kernel
theorem dX5_packed_34 : decode cX5_packed 34 = .ok (.ireturn, 1) := by decide +kernel
theorem dX5_fewestSwings_0 : decode cX5_fewestSwings 0 = .ok (.aload_n 0, 1) := by decide +kernel
theorem dX5_fewestSwings_1 : decode cX5_fewestSwings 1 = .ok (.getfield 49, 3) := by decide +kernel
theorem dX5_fewestSwings_4 : decode cX5_fewestSwings 4 = .ok (.aload_n 1, 1) := by decide +kernel
theorem dX5_fewestSwings_5 : decode cX5_fewestSwings 5 = .ok (.aload_n 1, 1) := by decide +kernel
theorem dX5_fewestSwings_6 : decode cX5_fewestSwings 6 = .ok (.aload_n 0, 1) := by decide +kernel
theorem dX5_fewestSwings_7 : decode cX5_fewestSwings 7 = .ok (.getfield 45, 3) := by decide +kernel
theorem dX5_fewestSwings_10 : decode cX5_fewestSwings 10 = .ok (.invokevirtual 103, 3) := by decide +kernel
theorem dX5_fewestSwings_13 : decode cX5_fewestSwings 13 = .ok (.invokevirtual 112, 3) := by decide +kernel
theorem dX5_fewestSwings_16 : decode cX5_fewestSwings 16 = .ok (.invokevirtual 115, 3) := by decide +kernel
theorem dX5_fewestSwings_19 : decode cX5_fewestSwings 19 = .ok (.istore_n 3, 1) := by decide +kernel
theorem dX5_fewestSwings_20 : decode cX5_fewestSwings 20 = .ok (.iconst (-1), 1) := by decide +kernel
theorem dX5_fewestSwings_21 : decode cX5_fewestSwings 21 = .ok (.istore 4, 2) := by decide +kernel
theorem dX5_fewestSwings_23 : decode cX5_fewestSwings 23 = .ok (.iconst 0, 1) := by decide +kernel
theorem dX5_fewestSwings_24 : decode cX5_fewestSwings 24 = .ok (.istore 5, 2) := by decide +kernel
theorem dX5_fewestSwings_26 : decode cX5_fewestSwings 26 = .ok (.iload 5, 2) := by decide +kernel
theorem dX5_fewestSwings_28 : decode cX5_fewestSwings 28 = .ok (.iconst 1, 1) := by decide +kernel
theorem dX5_fewestSwings_29 : decode cX5_fewestSwings 29 = .ok (.aload_n 0, 1) := by decide +kernel
theorem dX5_fewestSwings_30 : decode cX5_fewestSwings 30 = .ok (.getfield 45, 3) := by decide +kernel
theorem dX5_fewestSwings_33 : decode cX5_fewestSwings 33 = .ok (.invokevirtual 103, 3) := by decide +kernel
theorem dX5_fewestSwings_36 : decode cX5_fewestSwings 36 = .ok (.ishl, 1) := by decide +kernel
theorem dX5_fewestSwings_37 : decode cX5_fewestSwings 37 = .ok (.if_icmp .ge 111, 3) := by decide +kernel
theorem dX5_fewestSwings_40 : decode cX5_fewestSwings 40 = .ok (.iload 4, 2) := by decide +kernel
theorem dX5_fewestSwings_42 : decode cX5_fewestSwings 42 = .ok (.iconst (-1), 1) := by decide +kernel
theorem dX5_fewestSwings_43 : decode cX5_fewestSwings 43 = .ok (.if_icmp .eq 16, 3) := by decide +kernel
theorem dX5_fewestSwings_46 : decode cX5_fewestSwings 46 = .ok (.iload 5, 2) := by decide +kernel
theorem dX5_fewestSwings_48 : decode cX5_fewestSwings 48 = .ok (.invokestatic 118, 3) := by decide +kernel
theorem dX5_fewestSwings_51 : decode cX5_fewestSwings 51 = .ok (.iload 4, 2) := by decide +kernel
theorem dX5_fewestSwings_53 : decode cX5_fewestSwings 53 = .ok (.invokestatic 118, 3) := by decide +kernel
theorem dX5_fewestSwings_56 : decode cX5_fewestSwings 56 = .ok (.if_icmp .ge 86, 3) := by decide +kernel
theorem dX5_fewestSwings_59 : decode cX5_fewestSwings 59 = .ok (.aload_n 0, 1) := by decide +kernel
theorem dX5_fewestSwings_60 : decode cX5_fewestSwings 60 = .ok (.getfield 12, 3) := by decide +kernel
theorem dX5_fewestSwings_63 : decode cX5_fewestSwings 63 = .ok (.aload_n 1, 1) := by decide +kernel
theorem dX5_fewestSwings_64 : decode cX5_fewestSwings 64 = .ok (.invokevirtual 54, 3) := by decide +kernel
theorem dX5_fewestSwings_67 : decode cX5_fewestSwings 67 = .ok (.iconst 0, 1) := by decide +kernel
theorem dX5_fewestSwings_68 : decode cX5_fewestSwings 68 = .ok (.istore 6, 2) := by decide +kernel
theorem dX5_fewestSwings_70 : decode cX5_fewestSwings 70 = .ok (.iload 6, 2) := by decide +kernel
theorem dX5_fewestSwings_72 : decode cX5_fewestSwings 72 = .ok (.aload_n 0, 1) := by decide +kernel
theorem dX5_fewestSwings_73 : decode cX5_fewestSwings 73 = .ok (.getfield 45, 3) := by decide +kernel
theorem dX5_fewestSwings_76 : decode cX5_fewestSwings 76 = .ok (.invokevirtual 103, 3) := by decide +kernel
theorem dX5_fewestSwings_79 : decode cX5_fewestSwings 79 = .ok (.if_icmp .ge 31, 3) := by decide +kernel
theorem dX5_fewestSwings_82 : decode cX5_fewestSwings 82 = .ok (.iload 5, 2) := by decide +kernel
theorem dX5_fewestSwings_84 : decode cX5_fewestSwings 84 = .ok (.iload 6, 2) := by decide +kernel
theorem dX5_fewestSwings_86 : decode cX5_fewestSwings 86 = .ok (.invokestatic 123, 3) := by decide +kernel
theorem dX5_fewestSwings_89 : decode cX5_fewestSwings 89 = .ok (.ifCond .eq 15, 3) := by decide +kernel
theorem dX5_fewestSwings_92 : decode cX5_fewestSwings 92 = .ok (.aload_n 0, 1) := by decide +kernel
theorem dX5_fewestSwings_93 : decode cX5_fewestSwings 93 = .ok (.getfield 12, 3) := by decide +kernel
theorem dX5_fewestSwings_96 : decode cX5_fewestSwings 96 = .ok (.iconst 0, 1) := by decide +kernel
theorem dX5_fewestSwings_97 : decode cX5_fewestSwings 97 = .ok (.iload 6, 2) := by decide +kernel
theorem dX5_fewestSwings_99 : decode cX5_fewestSwings 99 = .ok (.iadd, 1) := by decide +kernel
theorem dX5_fewestSwings_100 : decode cX5_fewestSwings 100 = .ok (.iload_n 2, 1) := by decide +kernel
theorem dX5_fewestSwings_101 : decode cX5_fewestSwings 101 = .ok (.invokevirtual 127, 3) := by decide +kernel
theorem dX5_fewestSwings_104 : decode cX5_fewestSwings 104 = .ok (.iinc 6 1, 3) := by decide +kernel
theorem dX5_fewestSwings_107 : decode cX5_fewestSwings 107 = .ok (.goto (-37), 3) := by decide +kernel
theorem dX5_fewestSwings_110 : decode cX5_fewestSwings 110 = .ok (.aload_n 0, 1) := by decide +kernel
theorem dX5_fewestSwings_111 : decode cX5_fewestSwings 111 = .ok (.getfield 49, 3) := by decide +kernel
theorem dX5_fewestSwings_114 : decode cX5_fewestSwings 114 = .ok (.aload_n 0, 1) := by decide +kernel
theorem dX5_fewestSwings_115 : decode cX5_fewestSwings 115 = .ok (.getfield 49, 3) := by decide +kernel
theorem dX5_fewestSwings_118 : decode cX5_fewestSwings 118 = .ok (.aload_n 0, 1) := by decide +kernel
theorem dX5_fewestSwings_119 : decode cX5_fewestSwings 119 = .ok (.getfield 12, 3) := by decide +kernel
theorem dX5_fewestSwings_122 : decode cX5_fewestSwings 122 = .ok (.iload_n 3, 1) := by decide +kernel
theorem dX5_fewestSwings_123 : decode cX5_fewestSwings 123 = .ok (.invokevirtual 128, 3) := by decide +kernel
theorem dX5_fewestSwings_126 : decode cX5_fewestSwings 126 = .ok (.invokevirtual 131, 3) := by decide +kernel
theorem dX5_fewestSwings_129 : decode cX5_fewestSwings 129 = .ok (.iload_n 2, 1) := by decide +kernel
theorem dX5_fewestSwings_130 : decode cX5_fewestSwings 130 = .ok (.if_icmp .ne 8, 3) := by decide +kernel
theorem dX5_fewestSwings_133 : decode cX5_fewestSwings 133 = .ok (.iload 5, 2) := by decide +kernel
theorem dX5_fewestSwings_135 : decode cX5_fewestSwings 135 = .ok (.goto 5, 3) := by decide +kernel
theorem dX5_fewestSwings_138 : decode cX5_fewestSwings 138 = .ok (.iload 4, 2) := by decide +kernel
theorem dX5_fewestSwings_140 : decode cX5_fewestSwings 140 = .ok (.istore 4, 2) := by decide +kernel
theorem dX5_fewestSwings_142 : decode cX5_fewestSwings 142 = .ok (.iinc 5 1, 3) := by decide +kernel
theorem dX5_fewestSwings_145 : decode cX5_fewestSwings 145 = .ok (.goto (-119), 3) := by decide +kernel
theorem dX5_fewestSwings_148 : decode cX5_fewestSwings 148 = .ok (.iload 4, 2) := by decide +kernel
theorem dX5_fewestSwings_150 : decode cX5_fewestSwings 150 = .ok (.ireturn, 1) := by decide +kernel
theorem dX5_fewestInBed_0 : decode cX5_fewestInBed 0 = .ok (.aload_n 1, 1) := by decide +kernel
theorem dX5_fewestInBed_1 : decode cX5_fewestInBed 1 = .ok (.aload_n 0, 1) := by decide +kernel
theorem dX5_fewestInBed_2 : decode cX5_fewestInBed 2 = .ok (.getfield 45, 3) := by decide +kernel
theorem dX5_fewestInBed_5 : decode cX5_fewestInBed 5 = .ok (.invokevirtual 103, 3) := by decide +kernel
theorem dX5_fewestInBed_8 : decode cX5_fewestInBed 8 = .ok (.invokevirtual 134, 3) := by decide +kernel
theorem dX5_fewestInBed_11 : decode cX5_fewestInBed 11 = .ok (.istore_n 3, 1) := by decide +kernel
theorem dX5_fewestInBed_12 : decode cX5_fewestInBed 12 = .ok (.iconst 0, 1) := by decide +kernel
theorem dX5_fewestInBed_13 : decode cX5_fewestInBed 13 = .ok (.istore 4, 2) := by decide +kernel
theorem dX5_fewestInBed_15 : decode cX5_fewestInBed 15 = .ok (.iload 4, 2) := by decide +kernel
theorem dX5_fewestInBed_17 : decode cX5_fewestInBed 17 = .ok (.iload_n 3, 1) := by decide +kernel
theorem dX5_fewestInBed_18 : decode cX5_fewestInBed 18 = .ok (.invokestatic 118, 3) := by decide +kernel
theorem dX5_fewestInBed_21 : decode cX5_fewestInBed 21 = .ok (.if_icmp .gt 28, 3) := by decide +kernel
theorem dX5_fewestInBed_24 : decode cX5_fewestInBed 24 = .ok (.aload_n 0, 1) := by decide +kernel
theorem dX5_fewestInBed_25 : decode cX5_fewestInBed 25 = .ok (.getfield 36, 3) := by decide +kernel
theorem dX5_fewestInBed_28 : decode cX5_fewestInBed 28 = .ok (.iload 4, 2) := by decide +kernel
theorem dX5_fewestInBed_30 : decode cX5_fewestInBed 30 = .ok (.aload_n 0, 1) := by decide +kernel
theorem dX5_fewestInBed_31 : decode cX5_fewestInBed 31 = .ok (.getfield 49, 3) := by decide +kernel
theorem dX5_fewestInBed_34 : decode cX5_fewestInBed 34 = .ok (.aload_n 1, 1) := by decide +kernel
theorem dX5_fewestInBed_35 : decode cX5_fewestInBed 35 = .ok (.iload 4, 2) := by decide +kernel
theorem dX5_fewestInBed_37 : decode cX5_fewestInBed 37 = .ok (.invokevirtual 115, 3) := by decide +kernel
theorem dX5_fewestInBed_40 : decode cX5_fewestInBed 40 = .ok (.invokevirtual 89, 3) := by decide +kernel
theorem dX5_fewestInBed_43 : decode cX5_fewestInBed 43 = .ok (.iinc 4 1, 3) := by decide +kernel
theorem dX5_fewestInBed_46 : decode cX5_fewestInBed 46 = .ok (.goto (-31), 3) := by decide +kernel
theorem dX5_fewestInBed_49 : decode cX5_fewestInBed 49 = .ok (.iconst (-1), 1) := by decide +kernel
theorem dX5_fewestInBed_50 : decode cX5_fewestInBed 50 = .ok (.istore 4, 2) := by decide +kernel
theorem dX5_fewestInBed_52 : decode cX5_fewestInBed 52 = .ok (.iconst 0, 1) := by decide +kernel
theorem dX5_fewestInBed_53 : decode cX5_fewestInBed 53 = .ok (.istore 5, 2) := by decide +kernel
theorem dX5_fewestInBed_55 : decode cX5_fewestInBed 55 = .ok (.iload 5, 2) := by decide +kernel
theorem dX5_fewestInBed_57 : decode cX5_fewestInBed 57 = .ok (.iload_n 3, 1) := by decide +kernel
theorem dX5_fewestInBed_58 : decode cX5_fewestInBed 58 = .ok (.if_icmp .gt 128, 3) := by decide +kernel
theorem dX5_fewestInBed_61 : decode cX5_fewestInBed 61 = .ok (.iload 4, 2) := by decide +kernel
theorem dX5_fewestInBed_63 : decode cX5_fewestInBed 63 = .ok (.iconst (-1), 1) := by decide +kernel
theorem dX5_fewestInBed_64 : decode cX5_fewestInBed 64 = .ok (.if_icmp .eq 16, 3) := by decide +kernel
theorem dX5_fewestInBed_67 : decode cX5_fewestInBed 67 = .ok (.iload 5, 2) := by decide +kernel
theorem dX5_fewestInBed_69 : decode cX5_fewestInBed 69 = .ok (.invokestatic 118, 3) := by decide +kernel
theorem dX5_fewestInBed_72 : decode cX5_fewestInBed 72 = .ok (.iload 4, 2) := by decide +kernel
theorem dX5_fewestInBed_74 : decode cX5_fewestInBed 74 = .ok (.invokestatic 118, 3) := by decide +kernel
theorem dX5_fewestInBed_77 : decode cX5_fewestInBed 77 = .ok (.if_icmp .ge 7, 3) := by decide +kernel
theorem dX5_fewestInBed_80 : decode cX5_fewestInBed 80 = .ok (.iconst 1, 1) := by decide +kernel
theorem dX5_fewestInBed_81 : decode cX5_fewestInBed 81 = .ok (.goto 4, 3) := by decide +kernel
theorem dX5_fewestInBed_84 : decode cX5_fewestInBed 84 = .ok (.iconst 0, 1) := by decide +kernel
theorem dX5_fewestInBed_85 : decode cX5_fewestInBed 85 = .ok (.istore 6, 2) := by decide +kernel
theorem dX5_fewestInBed_87 : decode cX5_fewestInBed 87 = .ok (.iload 6, 2) := by decide +kernel
theorem dX5_fewestInBed_89 : decode cX5_fewestInBed 89 = .ok (.ifCond .eq 91, 3) := by decide +kernel
theorem dX5_fewestInBed_92 : decode cX5_fewestInBed 92 = .ok (.iload 5, 2) := by decide +kernel
theorem dX5_fewestInBed_94 : decode cX5_fewestInBed 94 = .ok (.iload_n 3, 1) := by decide +kernel
theorem dX5_fewestInBed_95 : decode cX5_fewestInBed 95 = .ok (.iconst (-1), 1) := by decide +kernel
theorem dX5_fewestInBed_96 : decode cX5_fewestInBed 96 = .ok (.ixor, 1) := by decide +kernel
theorem dX5_fewestInBed_97 : decode cX5_fewestInBed 97 = .ok (.iand, 1) := by decide +kernel
theorem dX5_fewestInBed_98 : decode cX5_fewestInBed 98 = .ok (.ifCond .ne 82, 3) := by decide +kernel
theorem dX5_fewestInBed_101 : decode cX5_fewestInBed 101 = .ok (.aload_n 0, 1) := by decide +kernel
theorem dX5_fewestInBed_102 : decode cX5_fewestInBed 102 = .ok (.getfield 12, 3) := by decide +kernel
theorem dX5_fewestInBed_105 : decode cX5_fewestInBed 105 = .ok (.aload_n 1, 1) := by decide +kernel
theorem dX5_fewestInBed_106 : decode cX5_fewestInBed 106 = .ok (.invokevirtual 54, 3) := by decide +kernel
theorem dX5_fewestInBed_109 : decode cX5_fewestInBed 109 = .ok (.aload_n 0, 1) := by decide +kernel
theorem dX5_fewestInBed_110 : decode cX5_fewestInBed 110 = .ok (.getfield 12, 3) := by decide +kernel
theorem dX5_fewestInBed_113 : decode cX5_fewestInBed 113 = .ok (.sipush 138, 3) := by decide +kernel
theorem dX5_fewestInBed_116 : decode cX5_fewestInBed 116 = .ok (.aload_n 1, 1) := by decide +kernel
theorem dX5_fewestInBed_117 : decode cX5_fewestInBed 117 = .ok (.sipush 138, 3) := by decide +kernel
theorem dX5_fewestInBed_120 : decode cX5_fewestInBed 120 = .ok (.invokevirtual 78, 3) := by decide +kernel
theorem dX5_fewestInBed_123 : decode cX5_fewestInBed 123 = .ok (.iload 5, 2) := by decide +kernel
theorem dX5_fewestInBed_125 : decode cX5_fewestInBed 125 = .ok (.ior, 1) := by decide +kernel
theorem dX5_fewestInBed_126 : decode cX5_fewestInBed 126 = .ok (.invokevirtual 127, 3) := by decide +kernel
theorem dX5_fewestInBed_129 : decode cX5_fewestInBed 129 = .ok (.aload_n 0, 1) := by decide +kernel
theorem dX5_fewestInBed_130 : decode cX5_fewestInBed 130 = .ok (.getfield 36, 3) := by decide +kernel
theorem dX5_fewestInBed_133 : decode cX5_fewestInBed 133 = .ok (.iload_n 3, 1) := by decide +kernel
theorem dX5_fewestInBed_134 : decode cX5_fewestInBed 134 = .ok (.iload 5, 2) := by decide +kernel
theorem dX5_fewestInBed_136 : decode cX5_fewestInBed 136 = .ok (.iconst (-1), 1) := by decide +kernel
theorem dX5_fewestInBed_137 : decode cX5_fewestInBed 137 = .ok (.ixor, 1) := by decide +kernel
theorem dX5_fewestInBed_138 : decode cX5_fewestInBed 138 = .ok (.iand, 1) := by decide +kernel
theorem dX5_fewestInBed_139 : decode cX5_fewestInBed 139 = .ok (.invokestatic 118, 3) := by decide +kernel
theorem dX5_fewestInBed_142 : decode cX5_fewestInBed 142 = .ok (.invokevirtual 93, 3) := by decide +kernel
theorem dX5_fewestInBed_145 : decode cX5_fewestInBed 145 = .ok (.istore 7, 2) := by decide +kernel
theorem dX5_fewestInBed_147 : decode cX5_fewestInBed 147 = .ok (.aload_n 0, 1) := by decide +kernel
theorem dX5_fewestInBed_148 : decode cX5_fewestInBed 148 = .ok (.getfield 49, 3) := by decide +kernel
theorem dX5_fewestInBed_151 : decode cX5_fewestInBed 151 = .ok (.aload_n 0, 1) := by decide +kernel
theorem dX5_fewestInBed_152 : decode cX5_fewestInBed 152 = .ok (.getfield 49, 3) := by decide +kernel
theorem dX5_fewestInBed_155 : decode cX5_fewestInBed 155 = .ok (.aload_n 0, 1) := by decide +kernel
theorem dX5_fewestInBed_156 : decode cX5_fewestInBed 156 = .ok (.getfield 12, 3) := by decide +kernel
theorem dX5_fewestInBed_159 : decode cX5_fewestInBed 159 = .ok (.iload 7, 2) := by decide +kernel
theorem dX5_fewestInBed_161 : decode cX5_fewestInBed 161 = .ok (.invokevirtual 128, 3) := by decide +kernel
theorem dX5_fewestInBed_164 : decode cX5_fewestInBed 164 = .ok (.invokevirtual 131, 3) := by decide +kernel
theorem dX5_fewestInBed_167 : decode cX5_fewestInBed 167 = .ok (.iload_n 2, 1) := by decide +kernel
theorem dX5_fewestInBed_168 : decode cX5_fewestInBed 168 = .ok (.if_icmp .ne 8, 3) := by decide +kernel
theorem dX5_fewestInBed_171 : decode cX5_fewestInBed 171 = .ok (.iload 5, 2) := by decide +kernel
theorem dX5_fewestInBed_173 : decode cX5_fewestInBed 173 = .ok (.goto 5, 3) := by decide +kernel
theorem dX5_fewestInBed_176 : decode cX5_fewestInBed 176 = .ok (.iload 4, 2) := by decide +kernel
theorem dX5_fewestInBed_178 : decode cX5_fewestInBed 178 = .ok (.istore 4, 2) := by decide +kernel
theorem dX5_fewestInBed_180 : decode cX5_fewestInBed 180 = .ok (.iinc 5 1, 3) := by decide +kernel
theorem dX5_fewestInBed_183 : decode cX5_fewestInBed 183 = .ok (.goto (-128), 3) := by decide +kernel
theorem dX5_fewestInBed_186 : decode cX5_fewestInBed 186 = .ok (.iload 4, 2) := by decide +kernel
theorem dX5_fewestInBed_188 : decode cX5_fewestInBed 188 = .ok (.ireturn, 1) := by decide +kernel
theorem dX5_treasuryBehind_0 : decode cX5_treasuryBehind 0 = .ok (.aload_n 0, 1) := by decide +kernel
theorem dX5_treasuryBehind_1 : decode cX5_treasuryBehind 1 = .ok (.getfield 12, 3) := by decide +kernel
theorem dX5_treasuryBehind_4 : decode cX5_treasuryBehind 4 = .ok (.aload_n 1, 1) := by decide +kernel
theorem dX5_treasuryBehind_5 : decode cX5_treasuryBehind 5 = .ok (.invokevirtual 54, 3) := by decide +kernel
theorem dX5_treasuryBehind_8 : decode cX5_treasuryBehind 8 = .ok (.iconst 0, 1) := by decide +kernel
theorem dX5_treasuryBehind_9 : decode cX5_treasuryBehind 9 = .ok (.istore_n 3, 1) := by decide +kernel
theorem dX5_treasuryBehind_10 : decode cX5_treasuryBehind 10 = .ok (.iload_n 3, 1) := by decide +kernel
theorem dX5_treasuryBehind_11 : decode cX5_treasuryBehind 11 = .ok (.iload_n 2, 1) := by decide +kernel
theorem dX5_treasuryBehind_12 : decode cX5_treasuryBehind 12 = .ok (.if_icmp .ge 20, 3) := by decide +kernel
theorem dX5_treasuryBehind_15 : decode cX5_treasuryBehind 15 = .ok (.aload_n 0, 1) := by decide +kernel
theorem dX5_treasuryBehind_16 : decode cX5_treasuryBehind 16 = .ok (.getfield 49, 3) := by decide +kernel
theorem dX5_treasuryBehind_19 : decode cX5_treasuryBehind 19 = .ok (.aload_n 0, 1) := by decide +kernel
theorem dX5_treasuryBehind_20 : decode cX5_treasuryBehind 20 = .ok (.getfield 12, 3) := by decide +kernel
theorem dX5_treasuryBehind_23 : decode cX5_treasuryBehind 23 = .ok (.invokevirtual 137, 3) := by decide +kernel
theorem dX5_treasuryBehind_26 : decode cX5_treasuryBehind 26 = .ok (.iinc 3 1, 3) := by decide +kernel
theorem dX5_treasuryBehind_29 : decode cX5_treasuryBehind 29 = .ok (.goto (-19), 3) := by decide +kernel
theorem dX5_treasuryBehind_32 : decode cX5_treasuryBehind 32 = .ok (.aload_n 0, 1) := by decide +kernel
theorem dX5_treasuryBehind_33 : decode cX5_treasuryBehind 33 = .ok (.getfield 12, 3) := by decide +kernel
theorem dX5_treasuryBehind_36 : decode cX5_treasuryBehind 36 = .ok (.sipush 142, 3) := by decide +kernel
theorem dX5_treasuryBehind_39 : decode cX5_treasuryBehind 39 = .ok (.invokevirtual 78, 3) := by decide +kernel
theorem dX5_treasuryBehind_42 : decode cX5_treasuryBehind 42 = .ok (.ireturn, 1) := by decide +kernel
theorem dX5_gameOf_0 : decode cX5_gameOf 0 = .ok (.aload_n 0, 1) := by decide +kernel
theorem dX5_gameOf_1 : decode cX5_gameOf 1 = .ok (.aload_n 1, 1) := by decide +kernel
theorem dX5_gameOf_2 : decode cX5_gameOf 2 = .ok (.iload_n 2, 1) := by decide +kernel
theorem dX5_gameOf_3 : decode cX5_gameOf 3 = .ok (.iload_n 3, 1) := by decide +kernel
theorem dX5_gameOf_4 : decode cX5_gameOf 4 = .ok (.invokevirtual 140, 3) := by decide +kernel
theorem dX5_gameOf_7 : decode cX5_gameOf 7 = .ok (.aload_n 0, 1) := by decide +kernel
theorem dX5_gameOf_8 : decode cX5_gameOf 8 = .ok (.iload 4, 2) := by decide +kernel
theorem dX5_gameOf_10 : decode cX5_gameOf 10 = .ok (.iload 5, 2) := by decide +kernel
theorem dX5_gameOf_12 : decode cX5_gameOf 12 = .ok (.iload 6, 2) := by decide +kernel
theorem dX5_gameOf_14 : decode cX5_gameOf 14 = .ok (.invokevirtual 144, 3) := by decide +kernel
theorem dX5_gameOf_17 : decode cX5_gameOf 17 = .ok (.ireturn, 1) := by decide +kernel
theorem dX5_restsOf_0 : decode cX5_restsOf 0 = .ok (.aload_n 0, 1) := by decide +kernel
theorem dX5_restsOf_1 : decode cX5_restsOf 1 = .ok (.aload_n 1, 1) := by decide +kernel
theorem dX5_restsOf_2 : decode cX5_restsOf 2 = .ok (.iload_n 2, 1) := by decide +kernel
theorem dX5_restsOf_3 : decode cX5_restsOf 3 = .ok (.iload_n 3, 1) := by decide +kernel
theorem dX5_restsOf_4 : decode cX5_restsOf 4 = .ok (.invokevirtual 140, 3) := by decide +kernel
theorem dX5_restsOf_7 : decode cX5_restsOf 7 = .ok (.iconst 0, 1) := by decide +kernel
theorem dX5_restsOf_8 : decode cX5_restsOf 8 = .ok (.istore 5, 2) := by decide +kernel
theorem dX5_restsOf_10 : decode cX5_restsOf 10 = .ok (.iconst 0, 1) := by decide +kernel
theorem dX5_restsOf_11 : decode cX5_restsOf 11 = .ok (.istore 6, 2) := by decide +kernel
theorem dX5_restsOf_13 : decode cX5_restsOf 13 = .ok (.iload 6, 2) := by decide +kernel
theorem dX5_restsOf_15 : decode cX5_restsOf 15 = .ok (.aload_n 0, 1) := by decide +kernel
theorem dX5_restsOf_16 : decode cX5_restsOf 16 = .ok (.getfield 45, 3) := by decide +kernel
theorem dX5_restsOf_19 : decode cX5_restsOf 19 = .ok (.invokevirtual 109, 3) := by decide +kernel
theorem dX5_restsOf_22 : decode cX5_restsOf 22 = .ok (.if_icmp .ge 60, 3) := by decide +kernel
theorem dX5_restsOf_25 : decode cX5_restsOf 25 = .ok (.iconst 0, 1) := by decide +kernel
theorem dX5_restsOf_26 : decode cX5_restsOf 26 = .ok (.istore 7, 2) := by decide +kernel
theorem dX5_restsOf_28 : decode cX5_restsOf 28 = .ok (.iload 7, 2) := by decide +kernel
theorem dX5_restsOf_30 : decode cX5_restsOf 30 = .ok (.aload_n 0, 1) := by decide +kernel
theorem dX5_restsOf_31 : decode cX5_restsOf 31 = .ok (.getfield 45, 3) := by decide +kernel
theorem dX5_restsOf_34 : decode cX5_restsOf 34 = .ok (.invokevirtual 109, 3) := by decide +kernel
theorem dX5_restsOf_37 : decode cX5_restsOf 37 = .ok (.if_icmp .ge 39, 3) := by decide +kernel
theorem dX5_restsOf_40 : decode cX5_restsOf 40 = .ok (.aload_n 0, 1) := by decide +kernel
theorem dX5_restsOf_41 : decode cX5_restsOf 41 = .ok (.iload 6, 2) := by decide +kernel
theorem dX5_restsOf_43 : decode cX5_restsOf 43 = .ok (.iload 7, 2) := by decide +kernel
theorem dX5_restsOf_45 : decode cX5_restsOf 45 = .ok (.invokevirtual 148, 3) := by decide +kernel
theorem dX5_restsOf_48 : decode cX5_restsOf 48 = .ok (.ifCond .eq 22, 3) := by decide +kernel
theorem dX5_restsOf_51 : decode cX5_restsOf 51 = .ok (.iload 5, 2) := by decide +kernel
theorem dX5_restsOf_53 : decode cX5_restsOf 53 = .ok (.iload 4, 2) := by decide +kernel
theorem dX5_restsOf_55 : decode cX5_restsOf 55 = .ok (.if_icmp .ne 12, 3) := by decide +kernel
theorem dX5_restsOf_58 : decode cX5_restsOf 58 = .ok (.bipush 10, 2) := by decide +kernel
theorem dX5_restsOf_60 : decode cX5_restsOf 60 = .ok (.iload 6, 2) := by decide +kernel
theorem dX5_restsOf_62 : decode cX5_restsOf 62 = .ok (.imul, 1) := by decide +kernel
theorem dX5_restsOf_63 : decode cX5_restsOf 63 = .ok (.iload 7, 2) := by decide +kernel
theorem dX5_restsOf_65 : decode cX5_restsOf 65 = .ok (.iadd, 1) := by decide +kernel
theorem dX5_restsOf_66 : decode cX5_restsOf 66 = .ok (.ireturn, 1) := by decide +kernel
theorem dX5_restsOf_67 : decode cX5_restsOf 67 = .ok (.iinc 5 1, 3) := by decide +kernel
theorem dX5_restsOf_70 : decode cX5_restsOf 70 = .ok (.iinc 7 1, 3) := by decide +kernel
theorem dX5_restsOf_73 : decode cX5_restsOf 73 = .ok (.goto (-45), 3) := by decide +kernel
theorem dX5_restsOf_76 : decode cX5_restsOf 76 = .ok (.iinc 6 1, 3) := by decide +kernel
theorem dX5_restsOf_79 : decode cX5_restsOf 79 = .ok (.goto (-66), 3) := by decide +kernel
theorem dX5_restsOf_82 : decode cX5_restsOf 82 = .ok (.iload 4, 2) := by decide +kernel
theorem dX5_restsOf_84 : decode cX5_restsOf 84 = .ok (.iconst (-1), 1) := by decide +kernel
theorem dX5_restsOf_85 : decode cX5_restsOf 85 = .ok (.if_icmp .ne 8, 3) := by decide +kernel
theorem dX5_restsOf_88 : decode cX5_restsOf 88 = .ok (.iload 5, 2) := by decide +kernel
theorem dX5_restsOf_90 : decode cX5_restsOf 90 = .ok (.goto 4, 3) := by decide +kernel
theorem dX5_restsOf_93 : decode cX5_restsOf 93 = .ok (.iconst (-1), 1) := by decide +kernel
theorem dX5_restsOf_94 : decode cX5_restsOf 94 = .ok (.ireturn, 1) := by decide +kernel
theorem dX5_isRest_0 : decode cX5_isRest 0 = .ok (.iconst 0, 1) := by decide +kernel
theorem dX5_isRest_1 : decode cX5_isRest 1 = .ok (.istore_n 3, 1) := by decide +kernel
theorem dX5_isRest_2 : decode cX5_isRest 2 = .ok (.iload_n 3, 1) := by decide +kernel
theorem dX5_isRest_3 : decode cX5_isRest 3 = .ok (.aload_n 0, 1) := by decide +kernel
theorem dX5_isRest_4 : decode cX5_isRest 4 = .ok (.getfield 45, 3) := by decide +kernel
theorem dX5_isRest_7 : decode cX5_isRest 7 = .ok (.invokevirtual 109, 3) := by decide +kernel
theorem dX5_isRest_10 : decode cX5_isRest 10 = .ok (.if_icmp .ge 45, 3) := by decide +kernel
theorem dX5_isRest_13 : decode cX5_isRest 13 = .ok (.aload_n 0, 1) := by decide +kernel
theorem dX5_isRest_14 : decode cX5_isRest 14 = .ok (.iload_n 3, 1) := by decide +kernel
theorem dX5_isRest_15 : decode cX5_isRest 15 = .ok (.iload_n 2, 1) := by decide +kernel
theorem dX5_isRest_16 : decode cX5_isRest 16 = .ok (.iconst 0, 1) := by decide +kernel
theorem dX5_isRest_17 : decode cX5_isRest 17 = .ok (.invokevirtual 144, 3) := by decide +kernel
theorem dX5_isRest_20 : decode cX5_isRest 20 = .ok (.aload_n 0, 1) := by decide +kernel
theorem dX5_isRest_21 : decode cX5_isRest 21 = .ok (.iload_n 1, 1) := by decide +kernel
theorem dX5_isRest_22 : decode cX5_isRest 22 = .ok (.iload_n 2, 1) := by decide +kernel
theorem dX5_isRest_23 : decode cX5_isRest 23 = .ok (.iconst 0, 1) := by decide +kernel
theorem dX5_isRest_24 : decode cX5_isRest 24 = .ok (.invokevirtual 144, 3) := by decide +kernel
theorem dX5_isRest_27 : decode cX5_isRest 27 = .ok (.if_icmp .gt 20, 3) := by decide +kernel
theorem dX5_isRest_30 : decode cX5_isRest 30 = .ok (.aload_n 0, 1) := by decide +kernel
theorem dX5_isRest_31 : decode cX5_isRest 31 = .ok (.iload_n 1, 1) := by decide +kernel
theorem dX5_isRest_32 : decode cX5_isRest 32 = .ok (.iload_n 3, 1) := by decide +kernel
theorem dX5_isRest_33 : decode cX5_isRest 33 = .ok (.iconst 1, 1) := by decide +kernel
theorem dX5_isRest_34 : decode cX5_isRest 34 = .ok (.invokevirtual 144, 3) := by decide +kernel
theorem dX5_isRest_37 : decode cX5_isRest 37 = .ok (.aload_n 0, 1) := by decide +kernel
theorem dX5_isRest_38 : decode cX5_isRest 38 = .ok (.iload_n 1, 1) := by decide +kernel
theorem dX5_isRest_39 : decode cX5_isRest 39 = .ok (.iload_n 2, 1) := by decide +kernel
theorem dX5_isRest_40 : decode cX5_isRest 40 = .ok (.iconst 1, 1) := by decide +kernel
theorem dX5_isRest_41 : decode cX5_isRest 41 = .ok (.invokevirtual 144, 3) := by decide +kernel
theorem dX5_isRest_44 : decode cX5_isRest 44 = .ok (.if_icmp .le 5, 3) := by decide +kernel
theorem dX5_isRest_47 : decode cX5_isRest 47 = .ok (.iconst 0, 1) := by decide +kernel
theorem dX5_isRest_48 : decode cX5_isRest 48 = .ok (.ireturn, 1) := by decide +kernel
theorem dX5_isRest_49 : decode cX5_isRest 49 = .ok (.iinc 3 1, 3) := by decide +kernel
theorem dX5_isRest_52 : decode cX5_isRest 52 = .ok (.goto (-50), 3) := by decide +kernel
theorem dX5_isRest_55 : decode cX5_isRest 55 = .ok (.iconst 1, 1) := by decide +kernel
theorem dX5_isRest_56 : decode cX5_isRest 56 = .ok (.ireturn, 1) := by decide +kernel
theorem dX5_hasThen_0 : decode cX5_hasThen 0 = .ok (.iload_n 3, 1) := by decide +kernel
theorem dX5_hasThen_1 : decode cX5_hasThen 1 = .ok (.ifCond .ne 7, 3) := by decide +kernel
theorem dX5_hasThen_4 : decode cX5_hasThen 4 = .ok (.iload_n 1, 1) := by decide +kernel
theorem dX5_hasThen_5 : decode cX5_hasThen 5 = .ok (.goto 4, 3) := by decide +kernel
theorem dX5_hasThen_8 : decode cX5_hasThen 8 = .ok (.iload_n 2, 1) := by decide +kernel
theorem dX5_hasThen_9 : decode cX5_hasThen 9 = .ok (.istore 4, 2) := by decide +kernel
theorem dX5_hasThen_11 : decode cX5_hasThen 11 = .ok (.aload_n 0, 1) := by decide +kernel
theorem dX5_hasThen_12 : decode cX5_hasThen 12 = .ok (.getfield 42, 3) := by decide +kernel
theorem dX5_hasThen_15 : decode cX5_hasThen 15 = .ok (.iload_n 1, 1) := by decide +kernel
theorem dX5_hasThen_16 : decode cX5_hasThen 16 = .ok (.bipush 6, 2) := by decide +kernel
theorem dX5_hasThen_18 : decode cX5_hasThen 18 = .ok (.imul, 1) := by decide +kernel
theorem dX5_hasThen_19 : decode cX5_hasThen 19 = .ok (.iload_n 2, 1) := by decide +kernel
theorem dX5_hasThen_20 : decode cX5_hasThen 20 = .ok (.iadd, 1) := by decide +kernel
theorem dX5_hasThen_21 : decode cX5_hasThen 21 = .ok (.invokevirtual 93, 3) := by decide +kernel
theorem dX5_hasThen_24 : decode cX5_hasThen 24 = .ok (.istore 5, 2) := by decide +kernel
theorem dX5_hasThen_26 : decode cX5_hasThen 26 = .ok (.aload_n 0, 1) := by decide +kernel
theorem dX5_hasThen_27 : decode cX5_hasThen 27 = .ok (.getfield 39, 3) := by decide +kernel
theorem dX5_hasThen_30 : decode cX5_hasThen 30 = .ok (.iload_n 3, 1) := by decide +kernel
theorem dX5_hasThen_31 : decode cX5_hasThen 31 = .ok (.bipush 6, 2) := by decide +kernel
theorem dX5_hasThen_33 : decode cX5_hasThen 33 = .ok (.imul, 1) := by decide +kernel
theorem dX5_hasThen_34 : decode cX5_hasThen 34 = .ok (.iload 4, 2) := by decide +kernel
theorem dX5_hasThen_36 : decode cX5_hasThen 36 = .ok (.iadd, 1) := by decide +kernel
theorem dX5_hasThen_37 : decode cX5_hasThen 37 = .ok (.invokevirtual 93, 3) := by decide +kernel
theorem dX5_hasThen_40 : decode cX5_hasThen 40 = .ok (.iload 5, 2) := by decide +kernel
theorem dX5_hasThen_42 : decode cX5_hasThen 42 = .ok (.iload 4, 2) := by decide +kernel
theorem dX5_hasThen_44 : decode cX5_hasThen 44 = .ok (.if_icmp .ne 7, 3) := by decide +kernel
theorem dX5_hasThen_47 : decode cX5_hasThen 47 = .ok (.iconst 5, 1) := by decide +kernel
theorem dX5_hasThen_48 : decode cX5_hasThen 48 = .ok (.goto 4, 3) := by decide +kernel
theorem dX5_hasThen_51 : decode cX5_hasThen 51 = .ok (.iconst 0, 1) := by decide +kernel
theorem dX5_hasThen_52 : decode cX5_hasThen 52 = .ok (.iadd, 1) := by decide +kernel
theorem dX5_hasThen_53 : decode cX5_hasThen 53 = .ok (.ireturn, 1) := by decide +kernel
theorem dX5_layOut_0 : decode cX5_layOut 0 = .ok (.aload_n 1, 1) := by decide +kernel
theorem dX5_layOut_1 : decode cX5_layOut 1 = .ok (.sipush 145, 3) := by decide +kernel
theorem dX5_layOut_4 : decode cX5_layOut 4 = .ok (.invokevirtual 78, 3) := by decide +kernel
theorem dX5_layOut_7 : decode cX5_layOut 7 = .ok (.istore 4, 2) := by decide +kernel
theorem dX5_layOut_9 : decode cX5_layOut 9 = .ok (.iload 4, 2) := by decide +kernel
theorem dX5_layOut_11 : decode cX5_layOut 11 = .ok (.aload_n 0, 1) := by decide +kernel
theorem dX5_layOut_12 : decode cX5_layOut 12 = .ok (.getfield 45, 3) := by decide +kernel
theorem dX5_layOut_15 : decode cX5_layOut 15 = .ok (.iconst 0, 1) := by decide +kernel
theorem dX5_layOut_16 : decode cX5_layOut 16 = .ok (.invokevirtual 84, 3) := by decide +kernel
theorem dX5_layOut_19 : decode cX5_layOut 19 = .ok (.if_icmp .ge 28, 3) := by decide +kernel
theorem dX5_layOut_22 : decode cX5_layOut 22 = .ok (.aload_n 0, 1) := by decide +kernel
theorem dX5_layOut_23 : decode cX5_layOut 23 = .ok (.getfield 23, 3) := by decide +kernel
theorem dX5_layOut_26 : decode cX5_layOut 26 = .ok (.iload 4, 2) := by decide +kernel
theorem dX5_layOut_28 : decode cX5_layOut 28 = .ok (.aload_n 0, 1) := by decide +kernel
theorem dX5_layOut_29 : decode cX5_layOut 29 = .ok (.getfield 49, 3) := by decide +kernel
theorem dX5_layOut_32 : decode cX5_layOut 32 = .ok (.aload_n 1, 1) := by decide +kernel
theorem dX5_layOut_33 : decode cX5_layOut 33 = .ok (.iload 4, 2) := by decide +kernel
theorem dX5_layOut_35 : decode cX5_layOut 35 = .ok (.invokevirtual 85, 3) := by decide +kernel
theorem dX5_layOut_38 : decode cX5_layOut 38 = .ok (.invokevirtual 89, 3) := by decide +kernel
theorem dX5_layOut_41 : decode cX5_layOut 41 = .ok (.iinc 4 1, 3) := by decide +kernel
theorem dX5_layOut_44 : decode cX5_layOut 44 = .ok (.goto (-35), 3) := by decide +kernel
theorem dX5_layOut_47 : decode cX5_layOut 47 = .ok (.aload_n 0, 1) := by decide +kernel
theorem dX5_layOut_48 : decode cX5_layOut 48 = .ok (.getfield 49, 3) := by decide +kernel
theorem dX5_layOut_51 : decode cX5_layOut 51 = .ok (.aload_n 1, 1) := by decide +kernel
theorem dX5_layOut_52 : decode cX5_layOut 52 = .ok (.aload_n 1, 1) := by decide +kernel
theorem dX5_layOut_53 : decode cX5_layOut 53 = .ok (.aload_n 0, 1) := by decide +kernel
theorem dX5_layOut_54 : decode cX5_layOut 54 = .ok (.getfield 45, 3) := by decide +kernel
theorem dX5_layOut_57 : decode cX5_layOut 57 = .ok (.invokevirtual 103, 3) := by decide +kernel
theorem dX5_layOut_60 : decode cX5_layOut 60 = .ok (.invokevirtual 112, 3) := by decide +kernel
theorem dX5_layOut_63 : decode cX5_layOut 63 = .ok (.invokevirtual 115, 3) := by decide +kernel
theorem dX5_layOut_66 : decode cX5_layOut 66 = .ok (.istore 4, 2) := by decide +kernel
theorem dX5_layOut_68 : decode cX5_layOut 68 = .ok (.aload_n 0, 1) := by decide +kernel
theorem dX5_layOut_69 : decode cX5_layOut 69 = .ok (.getfield 12, 3) := by decide +kernel
theorem dX5_layOut_72 : decode cX5_layOut 72 = .ok (.aload_n 1, 1) := by decide +kernel
theorem dX5_layOut_73 : decode cX5_layOut 73 = .ok (.invokevirtual 54, 3) := by decide +kernel
theorem dX5_layOut_76 : decode cX5_layOut 76 = .ok (.iconst 0, 1) := by decide +kernel
theorem dX5_layOut_77 : decode cX5_layOut 77 = .ok (.istore 5, 2) := by decide +kernel
theorem dX5_layOut_79 : decode cX5_layOut 79 = .ok (.iload 5, 2) := by decide +kernel
theorem dX5_layOut_81 : decode cX5_layOut 81 = .ok (.aload_n 0, 1) := by decide +kernel
theorem dX5_layOut_82 : decode cX5_layOut 82 = .ok (.getfield 45, 3) := by decide +kernel
theorem dX5_layOut_85 : decode cX5_layOut 85 = .ok (.invokevirtual 109, 3) := by decide +kernel
theorem dX5_layOut_88 : decode cX5_layOut 88 = .ok (.if_icmp .ge 126, 3) := by decide +kernel
theorem dX5_layOut_91 : decode cX5_layOut 91 = .ok (.aload_n 0, 1) := by decide +kernel
theorem dX5_layOut_92 : decode cX5_layOut 92 = .ok (.getfield 39, 3) := by decide +kernel
theorem dX5_layOut_95 : decode cX5_layOut 95 = .ok (.iload 5, 2) := by decide +kernel
theorem dX5_layOut_97 : decode cX5_layOut 97 = .ok (.aload_n 0, 1) := by decide +kernel
theorem dX5_layOut_98 : decode cX5_layOut 98 = .ok (.aload_n 1, 1) := by decide +kernel
theorem dX5_layOut_99 : decode cX5_layOut 99 = .ok (.iload_n 2, 1) := by decide +kernel
theorem dX5_layOut_100 : decode cX5_layOut 100 = .ok (.iload 5, 2) := by decide +kernel
theorem dX5_layOut_102 : decode cX5_layOut 102 = .ok (.invokevirtual 151, 3) := by decide +kernel
theorem dX5_layOut_105 : decode cX5_layOut 105 = .ok (.invokevirtual 89, 3) := by decide +kernel
theorem dX5_layOut_108 : decode cX5_layOut 108 = .ok (.aload_n 0, 1) := by decide +kernel
theorem dX5_layOut_109 : decode cX5_layOut 109 = .ok (.getfield 39, 3) := by decide +kernel
theorem dX5_layOut_112 : decode cX5_layOut 112 = .ok (.bipush 6, 2) := by decide +kernel
theorem dX5_layOut_114 : decode cX5_layOut 114 = .ok (.iload 5, 2) := by decide +kernel
theorem dX5_layOut_116 : decode cX5_layOut 116 = .ok (.iadd, 1) := by decide +kernel
theorem dX5_layOut_117 : decode cX5_layOut 117 = .ok (.aload_n 0, 1) := by decide +kernel
theorem dX5_layOut_118 : decode cX5_layOut 118 = .ok (.aload_n 1, 1) := by decide +kernel
theorem dX5_layOut_119 : decode cX5_layOut 119 = .ok (.iload_n 3, 1) := by decide +kernel
theorem dX5_layOut_120 : decode cX5_layOut 120 = .ok (.iload 5, 2) := by decide +kernel
theorem dX5_layOut_122 : decode cX5_layOut 122 = .ok (.invokevirtual 151, 3) := by decide +kernel
theorem dX5_layOut_125 : decode cX5_layOut 125 = .ok (.invokevirtual 89, 3) := by decide +kernel
theorem dX5_layOut_128 : decode cX5_layOut 128 = .ok (.aload_n 0, 1) := by decide +kernel
theorem dX5_layOut_129 : decode cX5_layOut 129 = .ok (.getfield 12, 3) := by decide +kernel
theorem dX5_layOut_132 : decode cX5_layOut 132 = .ok (.iconst 0, 1) := by decide +kernel
theorem dX5_layOut_133 : decode cX5_layOut 133 = .ok (.iload_n 2, 1) := by decide +kernel
theorem dX5_layOut_134 : decode cX5_layOut 134 = .ok (.iadd, 1) := by decide +kernel
theorem dX5_layOut_135 : decode cX5_layOut 135 = .ok (.iload 5, 2) := by decide +kernel
theorem dX5_layOut_137 : decode cX5_layOut 137 = .ok (.invokevirtual 127, 3) := by decide +kernel
theorem dX5_layOut_140 : decode cX5_layOut 140 = .ok (.iconst 0, 1) := by decide +kernel
theorem dX5_layOut_141 : decode cX5_layOut 141 = .ok (.istore 6, 2) := by decide +kernel
theorem dX5_layOut_143 : decode cX5_layOut 143 = .ok (.iload 6, 2) := by decide +kernel
theorem dX5_layOut_145 : decode cX5_layOut 145 = .ok (.aload_n 0, 1) := by decide +kernel
theorem dX5_layOut_146 : decode cX5_layOut 146 = .ok (.getfield 45, 3) := by decide +kernel
theorem dX5_layOut_149 : decode cX5_layOut 149 = .ok (.invokevirtual 109, 3) := by decide +kernel
theorem dX5_layOut_152 : decode cX5_layOut 152 = .ok (.if_icmp .ge 56, 3) := by decide +kernel
theorem dX5_layOut_155 : decode cX5_layOut 155 = .ok (.aload_n 0, 1) := by decide +kernel
theorem dX5_layOut_156 : decode cX5_layOut 156 = .ok (.getfield 12, 3) := by decide +kernel
theorem dX5_layOut_159 : decode cX5_layOut 159 = .ok (.iconst 0, 1) := by decide +kernel
theorem dX5_layOut_160 : decode cX5_layOut 160 = .ok (.iload_n 3, 1) := by decide +kernel
theorem dX5_layOut_161 : decode cX5_layOut 161 = .ok (.iadd, 1) := by decide +kernel
theorem dX5_layOut_162 : decode cX5_layOut 162 = .ok (.iload 6, 2) := by decide +kernel
theorem dX5_layOut_164 : decode cX5_layOut 164 = .ok (.invokevirtual 127, 3) := by decide +kernel
theorem dX5_layOut_167 : decode cX5_layOut 167 = .ok (.aload_n 0, 1) := by decide +kernel
theorem dX5_layOut_168 : decode cX5_layOut 168 = .ok (.getfield 42, 3) := by decide +kernel
theorem dX5_layOut_171 : decode cX5_layOut 171 = .ok (.iload 5, 2) := by decide +kernel
theorem dX5_layOut_173 : decode cX5_layOut 173 = .ok (.bipush 6, 2) := by decide +kernel
theorem dX5_layOut_175 : decode cX5_layOut 175 = .ok (.imul, 1) := by decide +kernel
theorem dX5_layOut_176 : decode cX5_layOut 176 = .ok (.iload 6, 2) := by decide +kernel
theorem dX5_layOut_178 : decode cX5_layOut 178 = .ok (.iadd, 1) := by decide +kernel
theorem dX5_layOut_179 : decode cX5_layOut 179 = .ok (.aload_n 0, 1) := by decide +kernel
theorem dX5_layOut_180 : decode cX5_layOut 180 = .ok (.getfield 49, 3) := by decide +kernel
theorem dX5_layOut_183 : decode cX5_layOut 183 = .ok (.aload_n 0, 1) := by decide +kernel
theorem dX5_layOut_184 : decode cX5_layOut 184 = .ok (.getfield 49, 3) := by decide +kernel
theorem dX5_layOut_187 : decode cX5_layOut 187 = .ok (.aload_n 0, 1) := by decide +kernel
theorem dX5_layOut_188 : decode cX5_layOut 188 = .ok (.getfield 12, 3) := by decide +kernel
theorem dX5_layOut_191 : decode cX5_layOut 191 = .ok (.iload 4, 2) := by decide +kernel
theorem dX5_layOut_193 : decode cX5_layOut 193 = .ok (.invokevirtual 128, 3) := by decide +kernel
theorem dX5_layOut_196 : decode cX5_layOut 196 = .ok (.invokevirtual 131, 3) := by decide +kernel
theorem dX5_layOut_199 : decode cX5_layOut 199 = .ok (.invokevirtual 89, 3) := by decide +kernel
theorem dX5_layOut_202 : decode cX5_layOut 202 = .ok (.iinc 6 1, 3) := by decide +kernel
theorem dX5_layOut_205 : decode cX5_layOut 205 = .ok (.goto (-62), 3) := by decide +kernel
theorem dX5_layOut_208 : decode cX5_layOut 208 = .ok (.iinc 5 1, 3) := by decide +kernel
theorem dX5_layOut_211 : decode cX5_layOut 211 = .ok (.goto (-132), 3) := by decide +kernel
theorem dX5_layOut_214 : decode cX5_layOut 214 = .ok (.return_, 1) := by decide +kernel
theorem dX5_gainOf_0 : decode cX5_gainOf 0 = .ok (.aload_n 0, 1) := by decide +kernel
theorem dX5_gainOf_1 : decode cX5_gainOf 1 = .ok (.getfield 45, 3) := by decide +kernel
theorem dX5_gainOf_4 : decode cX5_gainOf 4 = .ok (.iconst 3, 1) := by decide +kernel
theorem dX5_gainOf_5 : decode cX5_gainOf 5 = .ok (.iload_n 3, 1) := by decide +kernel
theorem dX5_gainOf_6 : decode cX5_gainOf 6 = .ok (.iadd, 1) := by decide +kernel
theorem dX5_gainOf_7 : decode cX5_gainOf 7 = .ok (.invokevirtual 84, 3) := by decide +kernel
theorem dX5_gainOf_10 : decode cX5_gainOf 10 = .ok (.aload_n 1, 1) := by decide +kernel
theorem dX5_gainOf_11 : decode cX5_gainOf 11 = .ok (.bipush 12, 2) := by decide +kernel
theorem dX5_gainOf_13 : decode cX5_gainOf 13 = .ok (.iload_n 3, 1) := by decide +kernel
theorem dX5_gainOf_14 : decode cX5_gainOf 14 = .ok (.iadd, 1) := by decide +kernel
theorem dX5_gainOf_15 : decode cX5_gainOf 15 = .ok (.invokevirtual 78, 3) := by decide +kernel
theorem dX5_gainOf_18 : decode cX5_gainOf 18 = .ok (.iadd, 1) := by decide +kernel
theorem dX5_gainOf_19 : decode cX5_gainOf 19 = .ok (.istore 4, 2) := by decide +kernel
theorem dX5_gainOf_21 : decode cX5_gainOf 21 = .ok (.iconst 0, 1) := by decide +kernel
theorem dX5_gainOf_22 : decode cX5_gainOf 22 = .ok (.istore 5, 2) := by decide +kernel
theorem dX5_gainOf_24 : decode cX5_gainOf 24 = .ok (.aload_n 1, 1) := by decide +kernel
theorem dX5_gainOf_25 : decode cX5_gainOf 25 = .ok (.sipush 145, 3) := by decide +kernel
theorem dX5_gainOf_28 : decode cX5_gainOf 28 = .ok (.invokevirtual 78, 3) := by decide +kernel
theorem dX5_gainOf_31 : decode cX5_gainOf 31 = .ok (.istore 6, 2) := by decide +kernel
theorem dX5_gainOf_33 : decode cX5_gainOf 33 = .ok (.iload 6, 2) := by decide +kernel
theorem dX5_gainOf_35 : decode cX5_gainOf 35 = .ok (.aload_n 0, 1) := by decide +kernel
theorem dX5_gainOf_36 : decode cX5_gainOf 36 = .ok (.getfield 45, 3) := by decide +kernel
theorem dX5_gainOf_39 : decode cX5_gainOf 39 = .ok (.iconst 0, 1) := by decide +kernel
theorem dX5_gainOf_40 : decode cX5_gainOf 40 = .ok (.invokevirtual 84, 3) := by decide +kernel
theorem dX5_gainOf_43 : decode cX5_gainOf 43 = .ok (.if_icmp .ge 43, 3) := by decide +kernel
theorem dX5_gainOf_46 : decode cX5_gainOf 46 = .ok (.iload 5, 2) := by decide +kernel
theorem dX5_gainOf_48 : decode cX5_gainOf 48 = .ok (.aload_n 0, 1) := by decide +kernel
theorem dX5_gainOf_49 : decode cX5_gainOf 49 = .ok (.getfield 23, 3) := by decide +kernel
theorem dX5_gainOf_52 : decode cX5_gainOf 52 = .ok (.iload 6, 2) := by decide +kernel
theorem dX5_gainOf_54 : decode cX5_gainOf 54 = .ok (.invokevirtual 93, 3) := by decide +kernel
theorem dX5_gainOf_57 : decode cX5_gainOf 57 = .ok (.aload_n 0, 1) := by decide +kernel
theorem dX5_gainOf_58 : decode cX5_gainOf 58 = .ok (.getfield 45, 3) := by decide +kernel
theorem dX5_gainOf_61 : decode cX5_gainOf 61 = .ok (.bipush 9, 2) := by decide +kernel
theorem dX5_gainOf_63 : decode cX5_gainOf 63 = .ok (.iload_n 3, 1) := by decide +kernel
theorem dX5_gainOf_64 : decode cX5_gainOf 64 = .ok (.iadd, 1) := by decide +kernel
theorem dX5_gainOf_65 : decode cX5_gainOf 65 = .ok (.invokevirtual 84, 3) := by decide +kernel
theorem dX5_gainOf_68 : decode cX5_gainOf 68 = .ok (.if_icmp .lt 8, 3) := by decide +kernel
theorem dX5_gainOf_71 : decode cX5_gainOf 71 = .ok (.iload 4, 2) := by decide +kernel
theorem dX5_gainOf_73 : decode cX5_gainOf 73 = .ok (.goto 4, 3) := by decide +kernel
theorem dX5_gainOf_76 : decode cX5_gainOf 76 = .ok (.iconst 0, 1) := by decide +kernel
theorem dX5_gainOf_77 : decode cX5_gainOf 77 = .ok (.iadd, 1) := by decide +kernel
theorem dX5_gainOf_78 : decode cX5_gainOf 78 = .ok (.istore 5, 2) := by decide +kernel
theorem dX5_gainOf_80 : decode cX5_gainOf 80 = .ok (.iinc 6 1, 3) := by decide +kernel
theorem dX5_gainOf_83 : decode cX5_gainOf 83 = .ok (.goto (-50), 3) := by decide +kernel
theorem dX5_gainOf_86 : decode cX5_gainOf 86 = .ok (.aload_n 1, 1) := by decide +kernel
theorem dX5_gainOf_87 : decode cX5_gainOf 87 = .ok (.bipush 6, 2) := by decide +kernel
theorem dX5_gainOf_89 : decode cX5_gainOf 89 = .ok (.iload_n 2, 1) := by decide +kernel
theorem dX5_gainOf_90 : decode cX5_gainOf 90 = .ok (.iadd, 1) := by decide +kernel
theorem dX5_gainOf_91 : decode cX5_gainOf 91 = .ok (.invokevirtual 78, 3) := by decide +kernel
theorem dX5_gainOf_94 : decode cX5_gainOf 94 = .ok (.istore 6, 2) := by decide +kernel
theorem dX5_gainOf_96 : decode cX5_gainOf 96 = .ok (.sipush 9999, 3) := by decide +kernel
theorem dX5_gainOf_99 : decode cX5_gainOf 99 = .ok (.iload 6, 2) := by decide +kernel
theorem dX5_gainOf_101 : decode cX5_gainOf 101 = .ok (.iload 5, 2) := by decide +kernel
theorem dX5_gainOf_103 : decode cX5_gainOf 103 = .ok (.iadd, 1) := by decide +kernel
theorem dX5_gainOf_104 : decode cX5_gainOf 104 = .ok (.invokestatic 94, 3) := by decide +kernel
theorem dX5_gainOf_107 : decode cX5_gainOf 107 = .ok (.iload 6, 2) := by decide +kernel
theorem dX5_gainOf_109 : decode cX5_gainOf 109 = .ok (.isub, 1) := by decide +kernel
theorem dX5_gainOf_110 : decode cX5_gainOf 110 = .ok (.ireturn, 1) := by decide +kernel
theorem dX5_oddsOf_0 : decode cX5_oddsOf 0 = .ok (.aload_n 1, 1) := by decide +kernel
theorem dX5_oddsOf_1 : decode cX5_oddsOf 1 = .ok (.sipush 145, 3) := by decide +kernel
theorem dX5_oddsOf_4 : decode cX5_oddsOf 4 = .ok (.invokevirtual 78, 3) := by decide +kernel
theorem dX5_oddsOf_7 : decode cX5_oddsOf 7 = .ok (.istore 4, 2) := by decide +kernel
theorem dX5_oddsOf_9 : decode cX5_oddsOf 9 = .ok (.aload_n 0, 1) := by decide +kernel
theorem dX5_oddsOf_10 : decode cX5_oddsOf 10 = .ok (.getfield 45, 3) := by decide +kernel
theorem dX5_oddsOf_13 : decode cX5_oddsOf 13 = .ok (.iconst 0, 1) := by decide +kernel
theorem dX5_oddsOf_14 : decode cX5_oddsOf 14 = .ok (.invokevirtual 84, 3) := by decide +kernel
theorem dX5_oddsOf_17 : decode cX5_oddsOf 17 = .ok (.iload 4, 2) := by decide +kernel
theorem dX5_oddsOf_19 : decode cX5_oddsOf 19 = .ok (.isub, 1) := by decide +kernel
theorem dX5_oddsOf_20 : decode cX5_oddsOf 20 = .ok (.istore 5, 2) := by decide +kernel
theorem dX5_oddsOf_22 : decode cX5_oddsOf 22 = .ok (.aload_n 1, 1) := by decide +kernel
theorem dX5_oddsOf_23 : decode cX5_oddsOf 23 = .ok (.aload_n 0, 1) := by decide +kernel
theorem dX5_oddsOf_24 : decode cX5_oddsOf 24 = .ok (.getfield 45, 3) := by decide +kernel
theorem dX5_oddsOf_27 : decode cX5_oddsOf 27 = .ok (.invokevirtual 103, 3) := by decide +kernel
theorem dX5_oddsOf_30 : decode cX5_oddsOf 30 = .ok (.invokevirtual 112, 3) := by decide +kernel
theorem dX5_oddsOf_33 : decode cX5_oddsOf 33 = .ok (.istore 6, 2) := by decide +kernel
theorem dX5_oddsOf_35 : decode cX5_oddsOf 35 = .ok (.iconst 0, 1) := by decide +kernel
theorem dX5_oddsOf_36 : decode cX5_oddsOf 36 = .ok (.istore 7, 2) := by decide +kernel
theorem dX5_oddsOf_38 : decode cX5_oddsOf 38 = .ok (.iload 7, 2) := by decide +kernel
theorem dX5_oddsOf_40 : decode cX5_oddsOf 40 = .ok (.iload 5, 2) := by decide +kernel
theorem dX5_oddsOf_42 : decode cX5_oddsOf 42 = .ok (.if_icmp .ge 67, 3) := by decide +kernel
theorem dX5_oddsOf_45 : decode cX5_oddsOf 45 = .ok (.iload 7, 2) := by decide +kernel
theorem dX5_oddsOf_47 : decode cX5_oddsOf 47 = .ok (.bipush 8, 2) := by decide +kernel
theorem dX5_oddsOf_49 : decode cX5_oddsOf 49 = .ok (.if_icmp .ge 60, 3) := by decide +kernel
theorem dX5_oddsOf_52 : decode cX5_oddsOf 52 = .ok (.aload_n 0, 1) := by decide +kernel
theorem dX5_oddsOf_53 : decode cX5_oddsOf 53 = .ok (.getfield 23, 3) := by decide +kernel
theorem dX5_oddsOf_56 : decode cX5_oddsOf 56 = .ok (.iload 7, 2) := by decide +kernel
theorem dX5_oddsOf_58 : decode cX5_oddsOf 58 = .ok (.aload_n 0, 1) := by decide +kernel
theorem dX5_oddsOf_59 : decode cX5_oddsOf 59 = .ok (.getfield 49, 3) := by decide +kernel
theorem dX5_oddsOf_62 : decode cX5_oddsOf 62 = .ok (.aload_n 1, 1) := by decide +kernel
theorem dX5_oddsOf_63 : decode cX5_oddsOf 63 = .ok (.iload 4, 2) := by decide +kernel
theorem dX5_oddsOf_65 : decode cX5_oddsOf 65 = .ok (.iload 7, 2) := by decide +kernel
theorem dX5_oddsOf_67 : decode cX5_oddsOf 67 = .ok (.iadd, 1) := by decide +kernel
theorem dX5_oddsOf_68 : decode cX5_oddsOf 68 = .ok (.iconst 0, 1) := by decide +kernel
theorem dX5_oddsOf_69 : decode cX5_oddsOf 69 = .ok (.iload 6, 2) := by decide +kernel
theorem dX5_oddsOf_71 : decode cX5_oddsOf 71 = .ok (.invokevirtual 155, 3) := by decide +kernel
theorem dX5_oddsOf_74 : decode cX5_oddsOf 74 = .ok (.invokevirtual 89, 3) := by decide +kernel
theorem dX5_oddsOf_77 : decode cX5_oddsOf 77 = .ok (.aload_n 0, 1) := by decide +kernel
theorem dX5_oddsOf_78 : decode cX5_oddsOf 78 = .ok (.getfield 27, 3) := by decide +kernel
theorem dX5_oddsOf_81 : decode cX5_oddsOf 81 = .ok (.iload 7, 2) := by decide +kernel
theorem dX5_oddsOf_83 : decode cX5_oddsOf 83 = .ok (.aload_n 0, 1) := by decide +kernel
theorem dX5_oddsOf_84 : decode cX5_oddsOf 84 = .ok (.getfield 49, 3) := by decide +kernel
theorem dX5_oddsOf_87 : decode cX5_oddsOf 87 = .ok (.aload_n 1, 1) := by decide +kernel
theorem dX5_oddsOf_88 : decode cX5_oddsOf 88 = .ok (.iload 4, 2) := by decide +kernel
theorem dX5_oddsOf_90 : decode cX5_oddsOf 90 = .ok (.iload 7, 2) := by decide +kernel
theorem dX5_oddsOf_92 : decode cX5_oddsOf 92 = .ok (.iadd, 1) := by decide +kernel
theorem dX5_oddsOf_93 : decode cX5_oddsOf 93 = .ok (.bipush 9, 2) := by decide +kernel
theorem dX5_oddsOf_95 : decode cX5_oddsOf 95 = .ok (.iload 6, 2) := by decide +kernel
theorem dX5_oddsOf_97 : decode cX5_oddsOf 97 = .ok (.invokevirtual 155, 3) := by decide +kernel
theorem dX5_oddsOf_100 : decode cX5_oddsOf 100 = .ok (.invokevirtual 89, 3) := by decide +kernel
theorem dX5_oddsOf_103 : decode cX5_oddsOf 103 = .ok (.iinc 7 1, 3) := by decide +kernel
theorem dX5_oddsOf_106 : decode cX5_oddsOf 106 = .ok (.goto (-68), 3) := by decide +kernel
theorem dX5_oddsOf_109 : decode cX5_oddsOf 109 = .ok (.iconst 0, 1) := by decide +kernel
theorem dX5_oddsOf_110 : decode cX5_oddsOf 110 = .ok (.istore 7, 2) := by decide +kernel
theorem dX5_oddsOf_112 : decode cX5_oddsOf 112 = .ok (.iconst 0, 1) := by decide +kernel
theorem dX5_oddsOf_113 : decode cX5_oddsOf 113 = .ok (.istore 8, 2) := by decide +kernel
theorem dX5_oddsOf_115 : decode cX5_oddsOf 115 = .ok (.iload 5, 2) := by decide +kernel
theorem dX5_oddsOf_117 : decode cX5_oddsOf 117 = .ok (.bipush 8, 2) := by decide +kernel
theorem dX5_oddsOf_119 : decode cX5_oddsOf 119 = .ok (.if_icmp .gt 48, 3) := by decide +kernel
theorem dX5_oddsOf_122 : decode cX5_oddsOf 122 = .ok (.iload 8, 2) := by decide +kernel
theorem dX5_oddsOf_124 : decode cX5_oddsOf 124 = .ok (.iconst 1, 1) := by decide +kernel
theorem dX5_oddsOf_125 : decode cX5_oddsOf 125 = .ok (.iload 5, 2) := by decide +kernel
theorem dX5_oddsOf_127 : decode cX5_oddsOf 127 = .ok (.ishl, 1) := by decide +kernel
theorem dX5_oddsOf_128 : decode cX5_oddsOf 128 = .ok (.if_icmp .ge 39, 3) := by decide +kernel
theorem dX5_oddsOf_131 : decode cX5_oddsOf 131 = .ok (.iload 7, 2) := by decide +kernel
theorem dX5_oddsOf_133 : decode cX5_oddsOf 133 = .ok (.aload_n 0, 1) := by decide +kernel
theorem dX5_oddsOf_134 : decode cX5_oddsOf 134 = .ok (.aload_n 1, 1) := by decide +kernel
theorem dX5_oddsOf_135 : decode cX5_oddsOf 135 = .ok (.iload 8, 2) := by decide +kernel
theorem dX5_oddsOf_137 : decode cX5_oddsOf 137 = .ok (.iload 5, 2) := by decide +kernel
theorem dX5_oddsOf_139 : decode cX5_oddsOf 139 = .ok (.invokevirtual 159, 3) := by decide +kernel
theorem dX5_oddsOf_142 : decode cX5_oddsOf 142 = .ok (.iload_n 2, 1) := by decide +kernel
theorem dX5_oddsOf_143 : decode cX5_oddsOf 143 = .ok (.if_icmp .ne 14, 3) := by decide +kernel
theorem dX5_oddsOf_146 : decode cX5_oddsOf 146 = .ok (.iload 8, 2) := by decide +kernel
theorem dX5_oddsOf_148 : decode cX5_oddsOf 148 = .ok (.iload 5, 2) := by decide +kernel
theorem dX5_oddsOf_150 : decode cX5_oddsOf 150 = .ok (.iload_n 3, 1) := by decide +kernel
theorem dX5_oddsOf_151 : decode cX5_oddsOf 151 = .ok (.invokestatic 162, 3) := by decide +kernel
theorem dX5_oddsOf_154 : decode cX5_oddsOf 154 = .ok (.goto 4, 3) := by decide +kernel
theorem dX5_oddsOf_157 : decode cX5_oddsOf 157 = .ok (.iconst 0, 1) := by decide +kernel
theorem dX5_oddsOf_158 : decode cX5_oddsOf 158 = .ok (.iadd, 1) := by decide +kernel
theorem dX5_oddsOf_159 : decode cX5_oddsOf 159 = .ok (.istore 7, 2) := by decide +kernel
theorem dX5_oddsOf_161 : decode cX5_oddsOf 161 = .ok (.iinc 8 1, 3) := by decide +kernel
theorem dX5_oddsOf_164 : decode cX5_oddsOf 164 = .ok (.goto (-49), 3) := by decide +kernel
theorem dX5_oddsOf_167 : decode cX5_oddsOf 167 = .ok (.iload 7, 2) := by decide +kernel
theorem dX5_oddsOf_169 : decode cX5_oddsOf 169 = .ok (.ireturn, 1) := by decide +kernel
theorem dX5_rulerBy_0 : decode cX5_rulerBy 0 = .ok (.aload_n 1, 1) := by decide +kernel
theorem dX5_rulerBy_1 : decode cX5_rulerBy 1 = .ok (.invokevirtual 165, 3) := by decide +kernel
theorem dX5_rulerBy_4 : decode cX5_rulerBy 4 = .ok (.istore 4, 2) := by decide +kernel
theorem dX5_rulerBy_6 : decode cX5_rulerBy 6 = .ok (.iload 4, 2) := by decide +kernel
theorem dX5_rulerBy_8 : decode cX5_rulerBy 8 = .ok (.iconst (-1), 1) := by decide +kernel
theorem dX5_rulerBy_9 : decode cX5_rulerBy 9 = .ok (.if_icmp .ne 8, 3) := by decide +kernel
theorem dX5_rulerBy_12 : decode cX5_rulerBy 12 = .ok (.bipush 100, 2) := by decide +kernel
theorem dX5_rulerBy_14 : decode cX5_rulerBy 14 = .ok (.goto 12, 3) := by decide +kernel
theorem dX5_rulerBy_17 : decode cX5_rulerBy 17 = .ok (.aload_n 1, 1) := by decide +kernel
theorem dX5_rulerBy_18 : decode cX5_rulerBy 18 = .ok (.bipush 18, 2) := by decide +kernel
theorem dX5_rulerBy_20 : decode cX5_rulerBy 20 = .ok (.iload 4, 2) := by decide +kernel
theorem dX5_rulerBy_22 : decode cX5_rulerBy 22 = .ok (.iadd, 1) := by decide +kernel
theorem dX5_rulerBy_23 : decode cX5_rulerBy 23 = .ok (.invokevirtual 78, 3) := by decide +kernel
theorem dX5_rulerBy_26 : decode cX5_rulerBy 26 = .ok (.istore 5, 2) := by decide +kernel
theorem dX5_rulerBy_28 : decode cX5_rulerBy 28 = .ok (.iconst 0, 1) := by decide +kernel
theorem dX5_rulerBy_29 : decode cX5_rulerBy 29 = .ok (.istore 6, 2) := by decide +kernel
theorem dX5_rulerBy_31 : decode cX5_rulerBy 31 = .ok (.iload 6, 2) := by decide +kernel
theorem dX5_rulerBy_33 : decode cX5_rulerBy 33 = .ok (.iload_n 3, 1) := by decide +kernel
theorem dX5_rulerBy_34 : decode cX5_rulerBy 34 = .ok (.if_icmp .ge 64, 3) := by decide +kernel
theorem dX5_rulerBy_37 : decode cX5_rulerBy 37 = .ok (.iload_n 2, 1) := by decide +kernel
theorem dX5_rulerBy_38 : decode cX5_rulerBy 38 = .ok (.iload 6, 2) := by decide +kernel
theorem dX5_rulerBy_40 : decode cX5_rulerBy 40 = .ok (.invokestatic 123, 3) := by decide +kernel
theorem dX5_rulerBy_43 : decode cX5_rulerBy 43 = .ok (.ifCond .eq 15, 3) := by decide +kernel
theorem dX5_rulerBy_46 : decode cX5_rulerBy 46 = .ok (.aload_n 0, 1) := by decide +kernel
theorem dX5_rulerBy_47 : decode cX5_rulerBy 47 = .ok (.getfield 27, 3) := by decide +kernel
theorem dX5_rulerBy_50 : decode cX5_rulerBy 50 = .ok (.iload 6, 2) := by decide +kernel
theorem dX5_rulerBy_52 : decode cX5_rulerBy 52 = .ok (.invokevirtual 93, 3) := by decide +kernel
theorem dX5_rulerBy_55 : decode cX5_rulerBy 55 = .ok (.goto 12, 3) := by decide +kernel
theorem dX5_rulerBy_58 : decode cX5_rulerBy 58 = .ok (.aload_n 0, 1) := by decide +kernel
theorem dX5_rulerBy_59 : decode cX5_rulerBy 59 = .ok (.getfield 23, 3) := by decide +kernel
theorem dX5_rulerBy_62 : decode cX5_rulerBy 62 = .ok (.iload 6, 2) := by decide +kernel
theorem dX5_rulerBy_64 : decode cX5_rulerBy 64 = .ok (.invokevirtual 93, 3) := by decide +kernel
theorem dX5_rulerBy_67 : decode cX5_rulerBy 67 = .ok (.istore 7, 2) := by decide +kernel
theorem dX5_rulerBy_69 : decode cX5_rulerBy 69 = .ok (.iload 7, 2) := by decide +kernel
theorem dX5_rulerBy_71 : decode cX5_rulerBy 71 = .ok (.iload 5, 2) := by decide +kernel
theorem dX5_rulerBy_73 : decode cX5_rulerBy 73 = .ok (.if_icmp .ge 19, 3) := by decide +kernel
theorem dX5_rulerBy_76 : decode cX5_rulerBy 76 = .ok (.iload 7, 2) := by decide +kernel
theorem dX5_rulerBy_78 : decode cX5_rulerBy 78 = .ok (.istore 5, 2) := by decide +kernel
theorem dX5_rulerBy_80 : decode cX5_rulerBy 80 = .ok (.aload_n 1, 1) := by decide +kernel
theorem dX5_rulerBy_81 : decode cX5_rulerBy 81 = .ok (.sipush 145, 3) := by decide +kernel
theorem dX5_rulerBy_84 : decode cX5_rulerBy 84 = .ok (.invokevirtual 78, 3) := by decide +kernel
theorem dX5_rulerBy_87 : decode cX5_rulerBy 87 = .ok (.iload 6, 2) := by decide +kernel
theorem dX5_rulerBy_89 : decode cX5_rulerBy 89 = .ok (.iadd, 1) := by decide +kernel
theorem dX5_rulerBy_90 : decode cX5_rulerBy 90 = .ok (.istore 4, 2) := by decide +kernel
theorem dX5_rulerBy_92 : decode cX5_rulerBy 92 = .ok (.iinc 6 1, 3) := by decide +kernel
theorem dX5_rulerBy_95 : decode cX5_rulerBy 95 = .ok (.goto (-64), 3) := by decide +kernel
theorem dX5_rulerBy_98 : decode cX5_rulerBy 98 = .ok (.iload 4, 2) := by decide +kernel
theorem dX5_rulerBy_100 : decode cX5_rulerBy 100 = .ok (.ireturn, 1) := by decide +kernel
theorem dX5_partOf_0 : decode cX5_partOf 0 = .ok (.ldc2_w 168, 3) := by decide +kernel
theorem dX5_partOf_3 : decode cX5_partOf 3 = .ok (.lstore_n 3, 1) := by decide +kernel
theorem dX5_partOf_4 : decode cX5_partOf 4 = .ok (.iconst 0, 1) := by decide +kernel
theorem dX5_partOf_5 : decode cX5_partOf 5 = .ok (.istore 5, 2) := by decide +kernel
theorem dX5_partOf_7 : decode cX5_partOf 7 = .ok (.iload 5, 2) := by decide +kernel
theorem dX5_partOf_9 : decode cX5_partOf 9 = .ok (.iload_n 1, 1) := by decide +kernel
theorem dX5_partOf_10 : decode cX5_partOf 10 = .ok (.if_icmp .ge 38, 3) := by decide +kernel
theorem dX5_partOf_13 : decode cX5_partOf 13 = .ok (.lload_n 3, 1) := by decide +kernel
theorem dX5_partOf_14 : decode cX5_partOf 14 = .ok (.iload_n 2, 1) := by decide +kernel
theorem dX5_partOf_15 : decode cX5_partOf 15 = .ok (.i2l, 1) := by decide +kernel
theorem dX5_partOf_16 : decode cX5_partOf 16 = .ok (.lmul, 1) := by decide +kernel
theorem dX5_partOf_17 : decode cX5_partOf 17 = .ok (.ldc2_w 170, 3) := by decide +kernel
theorem dX5_partOf_20 : decode cX5_partOf 20 = .ok (.ldiv, 1) := by decide +kernel
theorem dX5_partOf_21 : decode cX5_partOf 21 = .ok (.lstore 6, 2) := by decide +kernel
theorem dX5_partOf_23 : decode cX5_partOf 23 = .ok (.iload_n 0, 1) := by decide +kernel
theorem dX5_partOf_24 : decode cX5_partOf 24 = .ok (.iload 5, 2) := by decide +kernel
theorem dX5_partOf_26 : decode cX5_partOf 26 = .ok (.invokestatic 123, 3) := by decide +kernel
theorem dX5_partOf_29 : decode cX5_partOf 29 = .ok (.ifCond .eq 8, 3) := by decide +kernel
theorem dX5_partOf_32 : decode cX5_partOf 32 = .ok (.lload 6, 2) := by decide +kernel
theorem dX5_partOf_34 : decode cX5_partOf 34 = .ok (.goto 7, 3) := by decide +kernel
theorem dX5_partOf_37 : decode cX5_partOf 37 = .ok (.lload_n 3, 1) := by decide +kernel
theorem dX5_partOf_38 : decode cX5_partOf 38 = .ok (.lload 6, 2) := by decide +kernel
theorem dX5_partOf_40 : decode cX5_partOf 40 = .ok (.lsub, 1) := by decide +kernel
theorem dX5_partOf_41 : decode cX5_partOf 41 = .ok (.lstore_n 3, 1) := by decide +kernel
theorem dX5_partOf_42 : decode cX5_partOf 42 = .ok (.iinc 5 1, 3) := by decide +kernel
theorem dX5_partOf_45 : decode cX5_partOf 45 = .ok (.goto (-38), 3) := by decide +kernel
theorem dX5_partOf_48 : decode cX5_partOf 48 = .ok (.lload_n 3, 1) := by decide +kernel
theorem dX5_partOf_49 : decode cX5_partOf 49 = .ok (.l2i, 1) := by decide +kernel
theorem dX5_partOf_50 : decode cX5_partOf 50 = .ok (.ireturn, 1) := by decide +kernel
theorem dX6_init_0 : decode cX6_init 0 = .ok (.aload_n 0, 1) := by decide +kernel
theorem dX6_init_1 : decode cX6_init 1 = .ok (.bipush 36, 2) := by decide +kernel
theorem dX6_init_3 : decode cX6_init 3 = .ok (.invokespecial 5, 3) := by decide +kernel
theorem dX6_init_6 : decode cX6_init 6 = .ok (.return_, 1) := by decide +kernel
theorem dX6_persons_0 : decode cX6_persons 0 = .ok (.aload_n 0, 1) := by decide +kernel
theorem dX6_persons_1 : decode cX6_persons 1 = .ok (.bipush 35, 2) := by decide +kernel
theorem dX6_persons_3 : decode cX6_persons 3 = .ok (.invokevirtual 11, 3) := by decide +kernel
theorem dX6_persons_6 : decode cX6_persons 6 = .ok (.ireturn, 1) := by decide +kernel
theorem dX6_kinds_0 : decode cX6_kinds 0 = .ok (.aload_n 0, 1) := by decide +kernel
theorem dX6_kinds_1 : decode cX6_kinds 1 = .ok (.bipush 34, 2) := by decide +kernel
theorem dX6_kinds_3 : decode cX6_kinds 3 = .ok (.invokevirtual 11, 3) := by decide +kernel
theorem dX6_kinds_6 : decode cX6_kinds 6 = .ok (.ireturn, 1) := by decide +kernel
theorem dX6_isPerson_0 : decode cX6_isPerson 0 = .ok (.iload_n 1, 1) := by decide +kernel
theorem dX6_isPerson_1 : decode cX6_isPerson 1 = .ok (.ifCond .lt 17, 3) := by decide +kernel
theorem dX6_isPerson_4 : decode cX6_isPerson 4 = .ok (.iload_n 1, 1) := by decide +kernel
theorem dX6_isPerson_5 : decode cX6_isPerson 5 = .ok (.aload_n 0, 1) := by decide +kernel
theorem dX6_isPerson_6 : decode cX6_isPerson 6 = .ok (.bipush 35, 2) := by decide +kernel
theorem dX6_isPerson_8 : decode cX6_isPerson 8 = .ok (.invokevirtual 11, 3) := by decide +kernel
theorem dX6_isPerson_11 : decode cX6_isPerson 11 = .ok (.if_icmp .ge 7, 3) := by decide +kernel
theorem dX6_isPerson_14 : decode cX6_isPerson 14 = .ok (.iconst 1, 1) := by decide +kernel
theorem dX6_isPerson_15 : decode cX6_isPerson 15 = .ok (.goto 4, 3) := by decide +kernel
theorem dX6_isPerson_18 : decode cX6_isPerson 18 = .ok (.iconst 0, 1) := by decide +kernel
theorem dX6_isPerson_19 : decode cX6_isPerson 19 = .ok (.ireturn, 1) := by decide +kernel
theorem dX6_isKind_0 : decode cX6_isKind 0 = .ok (.iload_n 1, 1) := by decide +kernel
theorem dX6_isKind_1 : decode cX6_isKind 1 = .ok (.ifCond .lt 17, 3) := by decide +kernel
theorem dX6_isKind_4 : decode cX6_isKind 4 = .ok (.iload_n 1, 1) := by decide +kernel
theorem dX6_isKind_5 : decode cX6_isKind 5 = .ok (.aload_n 0, 1) := by decide +kernel
theorem dX6_isKind_6 : decode cX6_isKind 6 = .ok (.bipush 34, 2) := by decide +kernel
theorem dX6_isKind_8 : decode cX6_isKind 8 = .ok (.invokevirtual 11, 3) := by decide +kernel
theorem dX6_isKind_11 : decode cX6_isKind 11 = .ok (.if_icmp .ge 7, 3) := by decide +kernel
theorem dX6_isKind_14 : decode cX6_isKind 14 = .ok (.iconst 1, 1) := by decide +kernel
theorem dX6_isKind_15 : decode cX6_isKind 15 = .ok (.goto 4, 3) := by decide +kernel
theorem dX6_isKind_18 : decode cX6_isKind 18 = .ok (.iconst 0, 1) := by decide +kernel
theorem dX6_isKind_19 : decode cX6_isKind 19 = .ok (.ireturn, 1) := by decide +kernel
theorem dX6_isDay_0 : decode cX6_isDay 0 = .ok (.iload_n 1, 1) := by decide +kernel
theorem dX6_isDay_1 : decode cX6_isDay 1 = .ok (.ifCond .lt 16, 3) := by decide +kernel
theorem dX6_isDay_4 : decode cX6_isDay 4 = .ok (.iload_n 1, 1) := by decide +kernel
theorem dX6_isDay_5 : decode cX6_isDay 5 = .ok (.aload_n 0, 1) := by decide +kernel
theorem dX6_isDay_6 : decode cX6_isDay 6 = .ok (.iconst 0, 1) := by decide +kernel
theorem dX6_isDay_7 : decode cX6_isDay 7 = .ok (.invokevirtual 11, 3) := by decide +kernel
theorem dX6_isDay_10 : decode cX6_isDay 10 = .ok (.if_icmp .ge 7, 3) := by decide +kernel
theorem dX6_isDay_13 : decode cX6_isDay 13 = .ok (.iconst 1, 1) := by decide +kernel
theorem dX6_isDay_14 : decode cX6_isDay 14 = .ok (.goto 4, 3) := by decide +kernel
theorem dX6_isDay_17 : decode cX6_isDay 17 = .ok (.iconst 0, 1) := by decide +kernel
theorem dX6_isDay_18 : decode cX6_isDay 18 = .ok (.ireturn, 1) := by decide +kernel
theorem dX6_reads_0 : decode cX6_reads 0 = .ok (.aload_n 1, 1) := by decide +kernel
theorem dX6_reads_1 : decode cX6_reads 1 = .ok (.ifnonnull 5, 3) := by decide +kernel
theorem dX6_reads_4 : decode cX6_reads 4 = .ok (.iconst 0, 1) := by decide +kernel
theorem dX6_reads_5 : decode cX6_reads 5 = .ok (.ireturn, 1) := by decide +kernel
theorem dX6_reads_6 : decode cX6_reads 6 = .ok (.aload_n 0, 1) := by decide +kernel
theorem dX6_reads_7 : decode cX6_reads 7 = .ok (.invokevirtual 15, 3) := by decide +kernel
theorem dX6_reads_10 : decode cX6_reads 10 = .ok (.iconst 0, 1) := by decide +kernel
theorem dX6_reads_11 : decode cX6_reads 11 = .ok (.istore_n 2, 1) := by decide +kernel
theorem dX6_reads_12 : decode cX6_reads 12 = .ok (.iload_n 2, 1) := by decide +kernel
theorem dX6_reads_13 : decode cX6_reads 13 = .ok (.bipush 13, 2) := by decide +kernel
theorem dX6_reads_15 : decode cX6_reads 15 = .ok (.if_icmp .gt 45, 3) := by decide +kernel
theorem dX6_reads_18 : decode cX6_reads 18 = .ok (.aload_n 0, 1) := by decide +kernel
theorem dX6_reads_19 : decode cX6_reads 19 = .ok (.aload_n 1, 1) := by decide +kernel
theorem dX6_reads_20 : decode cX6_reads 20 = .ok (.invokevirtual 19, 3) := by decide +kernel
theorem dX6_reads_23 : decode cX6_reads 23 = .ok (.ifCond .ne 5, 3) := by decide +kernel
theorem dX6_reads_26 : decode cX6_reads 26 = .ok (.iconst 0, 1) := by decide +kernel
theorem dX6_reads_27 : decode cX6_reads 27 = .ok (.ireturn, 1) := by decide +kernel
theorem dX6_reads_28 : decode cX6_reads 28 = .ok (.aload_n 1, 1) := by decide +kernel
theorem dX6_reads_29 : decode cX6_reads 29 = .ok (.invokevirtual 23, 3) := by decide +kernel
theorem dX6_reads_32 : decode cX6_reads 32 = .ok (.istore_n 3, 1) := by decide +kernel
theorem dX6_reads_33 : decode cX6_reads 33 = .ok (.iload_n 3, 1) := by decide +kernel
theorem dX6_reads_34 : decode cX6_reads 34 = .ok (.ifCond .ne 8, 3) := by decide +kernel
theorem dX6_reads_37 : decode cX6_reads 37 = .ok (.aload_n 0, 1) := by decide +kernel
theorem dX6_reads_38 : decode cX6_reads 38 = .ok (.invokevirtual 29, 3) := by decide +kernel
theorem dX6_reads_41 : decode cX6_reads 41 = .ok (.ireturn, 1) := by decide +kernel
theorem dX6_reads_42 : decode cX6_reads 42 = .ok (.iload_n 3, 1) := by decide +kernel
theorem dX6_reads_43 : decode cX6_reads 43 = .ok (.bipush 59, 2) := by decide +kernel
theorem dX6_reads_45 : decode cX6_reads 45 = .ok (.if_icmp .eq 5, 3) := by decide +kernel
theorem dX6_reads_48 : decode cX6_reads 48 = .ok (.iconst 0, 1) := by decide +kernel
theorem dX6_reads_49 : decode cX6_reads 49 = .ok (.ireturn, 1) := by decide +kernel
theorem dX6_reads_50 : decode cX6_reads 50 = .ok (.aload_n 1, 1) := by decide +kernel
theorem dX6_reads_51 : decode cX6_reads 51 = .ok (.invokevirtual 33, 3) := by decide +kernel
theorem dX6_reads_54 : decode cX6_reads 54 = .ok (.iinc 2 1, 3) := by decide +kernel
theorem dX6_reads_57 : decode cX6_reads 57 = .ok (.goto (-45), 3) := by decide +kernel
theorem dX6_reads_60 : decode cX6_reads 60 = .ok (.iconst 0, 1) := by decide +kernel
theorem dX6_reads_61 : decode cX6_reads 61 = .ok (.ireturn, 1) := by decide +kernel
theorem dX6_fillUsual_0 : decode cX6_fillUsual 0 = .ok (.aload_n 0, 1) := by decide +kernel
theorem dX6_fillUsual_1 : decode cX6_fillUsual 1 = .ok (.iconst 0, 1) := by decide +kernel
theorem dX6_fillUsual_2 : decode cX6_fillUsual 2 = .ok (.invokevirtual 36, 3) := by decide +kernel
theorem dX6_fillUsual_5 : decode cX6_fillUsual 5 = .ok (.iconst 0, 1) := by decide +kernel
theorem dX6_fillUsual_6 : decode cX6_fillUsual 6 = .ok (.istore_n 1, 1) := by decide +kernel
theorem dX6_fillUsual_7 : decode cX6_fillUsual 7 = .ok (.iload_n 1, 1) := by decide +kernel
theorem dX6_fillUsual_8 : decode cX6_fillUsual 8 = .ok (.getstatic 39, 3) := by decide +kernel
theorem dX6_fillUsual_11 : decode cX6_fillUsual 11 = .ok (.arraylength, 1) := by decide +kernel
theorem dX6_fillUsual_12 : decode cX6_fillUsual 12 = .ok (.if_icmp .ge 60, 3) := by decide +kernel
theorem dX6_fillUsual_15 : decode cX6_fillUsual 15 = .ok (.getstatic 39, 3) := by decide +kernel
theorem dX6_fillUsual_18 : decode cX6_fillUsual 18 = .ok (.iload_n 1, 1) := by decide +kernel
theorem dX6_fillUsual_19 : decode cX6_fillUsual 19 = .ok (.invokestatic 43, 3) := by decide +kernel
theorem dX6_fillUsual_22 : decode cX6_fillUsual 22 = .ok (.iconst 3, 1) := by decide +kernel
theorem dX6_fillUsual_23 : decode cX6_fillUsual 23 = .ok (.if_icmp .ge 7, 3) := by decide +kernel
theorem dX6_fillUsual_26 : decode cX6_fillUsual 26 = .ok (.iconst 1, 1) := by decide +kernel
theorem dX6_fillUsual_27 : decode cX6_fillUsual 27 = .ok (.goto 5, 3) := by decide +kernel
theorem dX6_fillUsual_30 : decode cX6_fillUsual 30 = .ok (.bipush 6, 2) := by decide +kernel
theorem dX6_fillUsual_32 : decode cX6_fillUsual 32 = .ok (.istore_n 2, 1) := by decide +kernel
theorem dX6_fillUsual_33 : decode cX6_fillUsual 33 = .ok (.iconst 0, 1) := by decide +kernel
theorem dX6_fillUsual_34 : decode cX6_fillUsual 34 = .ok (.istore_n 3, 1) := by decide +kernel
theorem dX6_fillUsual_35 : decode cX6_fillUsual 35 = .ok (.iload_n 3, 1) := by decide +kernel
theorem dX6_fillUsual_36 : decode cX6_fillUsual 36 = .ok (.iload_n 2, 1) := by decide +kernel
theorem dX6_fillUsual_37 : decode cX6_fillUsual 37 = .ok (.if_icmp .ge 29, 3) := by decide +kernel
theorem dX6_fillUsual_40 : decode cX6_fillUsual 40 = .ok (.aload_n 0, 1) := by decide +kernel
theorem dX6_fillUsual_41 : decode cX6_fillUsual 41 = .ok (.getstatic 39, 3) := by decide +kernel
theorem dX6_fillUsual_44 : decode cX6_fillUsual 44 = .ok (.iload_n 1, 1) := by decide +kernel
theorem dX6_fillUsual_45 : decode cX6_fillUsual 45 = .ok (.invokestatic 43, 3) := by decide +kernel
theorem dX6_fillUsual_48 : decode cX6_fillUsual 48 = .ok (.iload_n 3, 1) := by decide +kernel
theorem dX6_fillUsual_49 : decode cX6_fillUsual 49 = .ok (.iadd, 1) := by decide +kernel
theorem dX6_fillUsual_50 : decode cX6_fillUsual 50 = .ok (.getstatic 47, 3) := by decide +kernel
theorem dX6_fillUsual_53 : decode cX6_fillUsual 53 = .ok (.iload_n 1, 1) := by decide +kernel
theorem dX6_fillUsual_54 : decode cX6_fillUsual 54 = .ok (.invokestatic 43, 3) := by decide +kernel
theorem dX6_fillUsual_57 : decode cX6_fillUsual 57 = .ok (.invokevirtual 50, 3) := by decide +kernel
theorem dX6_fillUsual_60 : decode cX6_fillUsual 60 = .ok (.iinc 3 1, 3) := by decide +kernel
theorem dX6_fillUsual_63 : decode cX6_fillUsual 63 = .ok (.goto (-28), 3) := by decide +kernel
theorem dX6_fillUsual_66 : decode cX6_fillUsual 66 = .ok (.iinc 1 1, 3) := by decide +kernel
theorem dX6_fillUsual_69 : decode cX6_fillUsual 69 = .ok (.goto (-62), 3) := by decide +kernel
theorem dX6_fillUsual_72 : decode cX6_fillUsual 72 = .ok (.return_, 1) := by decide +kernel
theorem dX6_isWhole_0 : decode cX6_isWhole 0 = .ok (.aload_n 0, 1) := by decide +kernel
theorem dX6_isWhole_1 : decode cX6_isWhole 1 = .ok (.invokevirtual 54, 3) := by decide +kernel
theorem dX6_isWhole_4 : decode cX6_isWhole 4 = .ok (.iconst 1, 1) := by decide +kernel
theorem dX6_isWhole_5 : decode cX6_isWhole 5 = .ok (.if_icmp .lt 11, 3) := by decide +kernel
theorem dX6_isWhole_8 : decode cX6_isWhole 8 = .ok (.aload_n 0, 1) := by decide +kernel
theorem dX6_isWhole_9 : decode cX6_isWhole 9 = .ok (.invokevirtual 57, 3) := by decide +kernel
theorem dX6_isWhole_12 : decode cX6_isWhole 12 = .ok (.iconst 2, 1) := by decide +kernel
theorem dX6_isWhole_13 : decode cX6_isWhole 13 = .ok (.if_icmp .ge 5, 3) := by decide +kernel
theorem dX6_isWhole_16 : decode cX6_isWhole 16 = .ok (.iconst 0, 1) := by decide +kernel
theorem dX6_isWhole_17 : decode cX6_isWhole 17 = .ok (.ireturn, 1) := by decide +kernel
theorem dX6_isWhole_18 : decode cX6_isWhole 18 = .ok (.iconst 0, 1) := by decide +kernel
theorem dX6_isWhole_19 : decode cX6_isWhole 19 = .ok (.istore_n 1, 1) := by decide +kernel
theorem dX6_isWhole_20 : decode cX6_isWhole 20 = .ok (.iload_n 1, 1) := by decide +kernel
theorem dX6_isWhole_21 : decode cX6_isWhole 21 = .ok (.aload_n 0, 1) := by decide +kernel
theorem dX6_isWhole_22 : decode cX6_isWhole 22 = .ok (.invokevirtual 57, 3) := by decide +kernel
theorem dX6_isWhole_25 : decode cX6_isWhole 25 = .ok (.if_icmp .ge 32, 3) := by decide +kernel
theorem dX6_isWhole_28 : decode cX6_isWhole 28 = .ok (.iload_n 1, 1) := by decide +kernel
theorem dX6_isWhole_29 : decode cX6_isWhole 29 = .ok (.bipush 6, 2) := by decide +kernel
theorem dX6_isWhole_31 : decode cX6_isWhole 31 = .ok (.if_icmp .ge 26, 3) := by decide +kernel
theorem dX6_isWhole_34 : decode cX6_isWhole 34 = .ok (.aload_n 0, 1) := by decide +kernel
theorem dX6_isWhole_35 : decode cX6_isWhole 35 = .ok (.aload_n 0, 1) := by decide +kernel
theorem dX6_isWhole_36 : decode cX6_isWhole 36 = .ok (.bipush 15, 2) := by decide +kernel
theorem dX6_isWhole_38 : decode cX6_isWhole 38 = .ok (.iload_n 1, 1) := by decide +kernel
theorem dX6_isWhole_39 : decode cX6_isWhole 39 = .ok (.iadd, 1) := by decide +kernel
theorem dX6_isWhole_40 : decode cX6_isWhole 40 = .ok (.invokevirtual 11, 3) := by decide +kernel
theorem dX6_isWhole_43 : decode cX6_isWhole 43 = .ok (.invokevirtual 60, 3) := by decide +kernel
theorem dX6_isWhole_46 : decode cX6_isWhole 46 = .ok (.ifCond .ne 5, 3) := by decide +kernel
theorem dX6_isWhole_49 : decode cX6_isWhole 49 = .ok (.iconst 0, 1) := by decide +kernel
theorem dX6_isWhole_50 : decode cX6_isWhole 50 = .ok (.ireturn, 1) := by decide +kernel
theorem dX6_isWhole_51 : decode cX6_isWhole 51 = .ok (.iinc 1 1, 3) := by decide +kernel
theorem dX6_isWhole_54 : decode cX6_isWhole 54 = .ok (.goto (-34), 3) := by decide +kernel
theorem dX6_isWhole_57 : decode cX6_isWhole 57 = .ok (.iconst 1, 1) := by decide +kernel
theorem dX6_isWhole_58 : decode cX6_isWhole 58 = .ok (.ireturn, 1) := by decide +kernel
theorem dX6_readsClause_0 : decode cX6_readsClause 0 = .ok (.aload_n 1, 1) := by decide +kernel
theorem dX6_readsClause_1 : decode cX6_readsClause 1 = .ok (.invokevirtual 23, 3) := by decide +kernel
theorem dX6_readsClause_4 : decode cX6_readsClause 4 = .ok (.istore_n 2, 1) := by decide +kernel
theorem dX6_readsClause_5 : decode cX6_readsClause 5 = .ok (.iload_n 2, 1) := by decide +kernel
theorem dX6_readsClause_6 : decode cX6_readsClause 6 = .ok (.bipush 115, 2) := by decide +kernel
theorem dX6_readsClause_8 : decode cX6_readsClause 8 = .ok (.if_icmp .ne 8, 3) := by decide +kernel
theorem dX6_readsClause_11 : decode cX6_readsClause 11 = .ok (.bipush 33, 2) := by decide +kernel
theorem dX6_readsClause_13 : decode cX6_readsClause 13 = .ok (.goto 26, 3) := by decide +kernel
theorem dX6_readsClause_16 : decode cX6_readsClause 16 = .ok (.iload_n 2, 1) := by decide +kernel
theorem dX6_readsClause_17 : decode cX6_readsClause 17 = .ok (.bipush 107, 2) := by decide +kernel
theorem dX6_readsClause_19 : decode cX6_readsClause 19 = .ok (.if_icmp .ne 8, 3) := by decide +kernel
theorem dX6_readsClause_22 : decode cX6_readsClause 22 = .ok (.bipush 34, 2) := by decide +kernel
theorem dX6_readsClause_24 : decode cX6_readsClause 24 = .ok (.goto 15, 3) := by decide +kernel
theorem dX6_readsClause_27 : decode cX6_readsClause 27 = .ok (.iload_n 2, 1) := by decide +kernel
theorem dX6_readsClause_28 : decode cX6_readsClause 28 = .ok (.bipush 112, 2) := by decide +kernel
theorem dX6_readsClause_30 : decode cX6_readsClause 30 = .ok (.if_icmp .ne 8, 3) := by decide +kernel
theorem dX6_readsClause_33 : decode cX6_readsClause 33 = .ok (.bipush 35, 2) := by decide +kernel
theorem dX6_readsClause_35 : decode cX6_readsClause 35 = .ok (.goto 4, 3) := by decide +kernel
theorem dX6_readsClause_38 : decode cX6_readsClause 38 = .ok (.iconst (-1), 1) := by decide +kernel
theorem dX6_readsClause_39 : decode cX6_readsClause 39 = .ok (.istore_n 3, 1) := by decide +kernel
theorem dX6_readsClause_40 : decode cX6_readsClause 40 = .ok (.iload_n 2, 1) := by decide +kernel
theorem dX6_readsClause_41 : decode cX6_readsClause 41 = .ok (.bipush 115, 2) := by decide +kernel
theorem dX6_readsClause_43 : decode cX6_readsClause 43 = .ok (.if_icmp .ne 7, 3) := by decide +kernel
theorem dX6_readsClause_46 : decode cX6_readsClause 46 = .ok (.iconst 1, 1) := by decide +kernel
theorem dX6_readsClause_47 : decode cX6_readsClause 47 = .ok (.goto 16, 3) := by decide +kernel
theorem dX6_readsClause_50 : decode cX6_readsClause 50 = .ok (.iload_n 2, 1) := by decide +kernel
theorem dX6_readsClause_51 : decode cX6_readsClause 51 = .ok (.bipush 107, 2) := by decide +kernel
theorem dX6_readsClause_53 : decode cX6_readsClause 53 = .ok (.if_icmp .ne 8, 3) := by decide +kernel
theorem dX6_readsClause_56 : decode cX6_readsClause 56 = .ok (.bipush 6, 2) := by decide +kernel
theorem dX6_readsClause_58 : decode cX6_readsClause 58 = .ok (.goto 5, 3) := by decide +kernel
theorem dX6_readsClause_61 : decode cX6_readsClause 61 = .ok (.bipush 6, 2) := by decide +kernel
theorem dX6_readsClause_63 : decode cX6_readsClause 63 = .ok (.istore 4, 2) := by decide +kernel
theorem dX6_readsClause_65 : decode cX6_readsClause 65 = .ok (.aload_n 0, 1) := by decide +kernel
theorem dX6_readsClause_66 : decode cX6_readsClause 66 = .ok (.iload_n 3, 1) := by decide +kernel
theorem dX6_readsClause_67 : decode cX6_readsClause 67 = .ok (.invokevirtual 11, 3) := by decide +kernel
theorem dX6_readsClause_70 : decode cX6_readsClause 70 = .ok (.istore 5, 2) := by decide +kernel
theorem dX6_readsClause_72 : decode cX6_readsClause 72 = .ok (.iload_n 3, 1) := by decide +kernel
theorem dX6_readsClause_73 : decode cX6_readsClause 73 = .ok (.iconst (-1), 1) := by decide +kernel
theorem dX6_readsClause_74 : decode cX6_readsClause 74 = .ok (.if_icmp .eq 10, 3) := by decide +kernel
theorem dX6_readsClause_77 : decode cX6_readsClause 77 = .ok (.iload 5, 2) := by decide +kernel
theorem dX6_readsClause_79 : decode cX6_readsClause 79 = .ok (.iload 4, 2) := by decide +kernel
theorem dX6_readsClause_81 : decode cX6_readsClause 81 = .ok (.if_icmp .lt 5, 3) := by decide +kernel
theorem dX6_readsClause_84 : decode cX6_readsClause 84 = .ok (.iconst 0, 1) := by decide +kernel
theorem dX6_readsClause_85 : decode cX6_readsClause 85 = .ok (.ireturn, 1) := by decide +kernel
theorem dX6_readsClause_86 : decode cX6_readsClause 86 = .ok (.aload_n 1, 1) := by decide +kernel
theorem dX6_readsClause_87 : decode cX6_readsClause 87 = .ok (.invokevirtual 33, 3) := by decide +kernel
theorem dX6_readsClause_90 : decode cX6_readsClause 90 = .ok (.aload_n 0, 1) := by decide +kernel
theorem dX6_readsClause_91 : decode cX6_readsClause 91 = .ok (.iload_n 3, 1) := by decide +kernel
theorem dX6_readsClause_92 : decode cX6_readsClause 92 = .ok (.iload 5, 2) := by decide +kernel
theorem dX6_readsClause_94 : decode cX6_readsClause 94 = .ok (.iconst 1, 1) := by decide +kernel
theorem dX6_readsClause_95 : decode cX6_readsClause 95 = .ok (.iadd, 1) := by decide +kernel
theorem dX6_readsClause_96 : decode cX6_readsClause 96 = .ok (.invokevirtual 50, 3) := by decide +kernel
theorem dX6_readsClause_99 : decode cX6_readsClause 99 = .ok (.aload_n 0, 1) := by decide +kernel
theorem dX6_readsClause_100 : decode cX6_readsClause 100 = .ok (.aload_n 1, 1) := by decide +kernel
theorem dX6_readsClause_101 : decode cX6_readsClause 101 = .ok (.iload_n 2, 1) := by decide +kernel
theorem dX6_readsClause_102 : decode cX6_readsClause 102 = .ok (.iload 5, 2) := by decide +kernel
theorem dX6_readsClause_104 : decode cX6_readsClause 104 = .ok (.invokevirtual 64, 3) := by decide +kernel
theorem dX6_readsClause_107 : decode cX6_readsClause 107 = .ok (.ireturn, 1) := by decide +kernel
theorem dX6_readsItems_0 : decode cX6_readsItems 0 = .ok (.iconst 0, 1) := by decide +kernel
theorem dX6_readsItems_1 : decode cX6_readsItems 1 = .ok (.istore 4, 2) := by decide +kernel
theorem dX6_readsItems_3 : decode cX6_readsItems 3 = .ok (.iconst 0, 1) := by decide +kernel
theorem dX6_readsItems_4 : decode cX6_readsItems 4 = .ok (.istore 5, 2) := by decide +kernel
theorem dX6_readsItems_6 : decode cX6_readsItems 6 = .ok (.iload 5, 2) := by decide +kernel
theorem dX6_readsItems_8 : decode cX6_readsItems 8 = .ok (.getstatic 68, 3) := by decide +kernel
theorem dX6_readsItems_11 : decode cX6_readsItems 11 = .ok (.arraylength, 1) := by decide +kernel
theorem dX6_readsItems_12 : decode cX6_readsItems 12 = .ok (.if_icmp .gt 117, 3) := by decide +kernel
theorem dX6_readsItems_15 : decode cX6_readsItems 15 = .ok (.getstatic 68, 3) := by decide +kernel
theorem dX6_readsItems_18 : decode cX6_readsItems 18 = .ok (.aload_n 1, 1) := by decide +kernel
theorem dX6_readsItems_19 : decode cX6_readsItems 19 = .ok (.invokevirtual 23, 3) := by decide +kernel
theorem dX6_readsItems_22 : decode cX6_readsItems 22 = .ok (.invokestatic 72, 3) := by decide +kernel
theorem dX6_readsItems_25 : decode cX6_readsItems 25 = .ok (.istore 6, 2) := by decide +kernel
theorem dX6_readsItems_27 : decode cX6_readsItems 27 = .ok (.iload 6, 2) := by decide +kernel
theorem dX6_readsItems_29 : decode cX6_readsItems 29 = .ok (.iconst (-1), 1) := by decide +kernel
theorem dX6_readsItems_30 : decode cX6_readsItems 30 = .ok (.if_icmp .eq 22, 3) := by decide +kernel
theorem dX6_readsItems_33 : decode cX6_readsItems 33 = .ok (.iload 6, 2) := by decide +kernel
theorem dX6_readsItems_35 : decode cX6_readsItems 35 = .ok (.getstatic 76, 3) := by decide +kernel
theorem dX6_readsItems_38 : decode cX6_readsItems 38 = .ok (.arraylength, 1) := by decide +kernel
theorem dX6_readsItems_39 : decode cX6_readsItems 39 = .ok (.if_icmp .ge 13, 3) := by decide +kernel
theorem dX6_readsItems_42 : decode cX6_readsItems 42 = .ok (.getstatic 76, 3) := by decide +kernel
theorem dX6_readsItems_45 : decode cX6_readsItems 45 = .ok (.iload 6, 2) := by decide +kernel
theorem dX6_readsItems_47 : decode cX6_readsItems 47 = .ok (.caload, 1) := by decide +kernel
theorem dX6_readsItems_48 : decode cX6_readsItems 48 = .ok (.iload_n 2, 1) := by decide +kernel
theorem dX6_readsItems_49 : decode cX6_readsItems 49 = .ok (.if_icmp .eq 5, 3) := by decide +kernel
theorem dX6_readsItems_52 : decode cX6_readsItems 52 = .ok (.iconst 1, 1) := by decide +kernel
theorem dX6_readsItems_53 : decode cX6_readsItems 53 = .ok (.ireturn, 1) := by decide +kernel
theorem dX6_readsItems_54 : decode cX6_readsItems 54 = .ok (.iload 4, 2) := by decide +kernel
theorem dX6_readsItems_56 : decode cX6_readsItems 56 = .ok (.iload 6, 2) := by decide +kernel
theorem dX6_readsItems_58 : decode cX6_readsItems 58 = .ok (.invokestatic 79, 3) := by decide +kernel
theorem dX6_readsItems_61 : decode cX6_readsItems 61 = .ok (.ifCond .eq 5, 3) := by decide +kernel
theorem dX6_readsItems_64 : decode cX6_readsItems 64 = .ok (.iconst 0, 1) := by decide +kernel
theorem dX6_readsItems_65 : decode cX6_readsItems 65 = .ok (.ireturn, 1) := by decide +kernel
theorem dX6_readsItems_66 : decode cX6_readsItems 66 = .ok (.iload 4, 2) := by decide +kernel
theorem dX6_readsItems_68 : decode cX6_readsItems 68 = .ok (.iconst 1, 1) := by decide +kernel
theorem dX6_readsItems_69 : decode cX6_readsItems 69 = .ok (.iload 6, 2) := by decide +kernel
theorem dX6_readsItems_71 : decode cX6_readsItems 71 = .ok (.ishl, 1) := by decide +kernel
theorem dX6_readsItems_72 : decode cX6_readsItems 72 = .ok (.ior, 1) := by decide +kernel
theorem dX6_readsItems_73 : decode cX6_readsItems 73 = .ok (.istore 4, 2) := by decide +kernel
theorem dX6_readsItems_75 : decode cX6_readsItems 75 = .ok (.aload_n 1, 1) := by decide +kernel
theorem dX6_readsItems_76 : decode cX6_readsItems 76 = .ok (.invokevirtual 33, 3) := by decide +kernel
theorem dX6_readsItems_79 : decode cX6_readsItems 79 = .ok (.aload_n 1, 1) := by decide +kernel
theorem dX6_readsItems_80 : decode cX6_readsItems 80 = .ok (.iconst 2, 1) := by decide +kernel
theorem dX6_readsItems_81 : decode cX6_readsItems 81 = .ok (.getstatic 83, 3) := by decide +kernel
theorem dX6_readsItems_84 : decode cX6_readsItems 84 = .ok (.iload 6, 2) := by decide +kernel
theorem dX6_readsItems_86 : decode cX6_readsItems 86 = .ok (.invokestatic 43, 3) := by decide +kernel
theorem dX6_readsItems_89 : decode cX6_readsItems 89 = .ok (.getstatic 86, 3) := by decide +kernel
theorem dX6_readsItems_92 : decode cX6_readsItems 92 = .ok (.iload 6, 2) := by decide +kernel
theorem dX6_readsItems_94 : decode cX6_readsItems 94 = .ok (.invokestatic 43, 3) := by decide +kernel
theorem dX6_readsItems_97 : decode cX6_readsItems 97 = .ok (.invokevirtual 89, 3) := by decide +kernel
theorem dX6_readsItems_100 : decode cX6_readsItems 100 = .ok (.ifCond .ne 5, 3) := by decide +kernel
theorem dX6_readsItems_103 : decode cX6_readsItems 103 = .ok (.iconst 0, 1) := by decide +kernel
theorem dX6_readsItems_104 : decode cX6_readsItems 104 = .ok (.ireturn, 1) := by decide +kernel
theorem dX6_readsItems_105 : decode cX6_readsItems 105 = .ok (.aload_n 0, 1) := by decide +kernel
theorem dX6_readsItems_106 : decode cX6_readsItems 106 = .ok (.getstatic 39, 3) := by decide +kernel
theorem dX6_readsItems_109 : decode cX6_readsItems 109 = .ok (.iload 6, 2) := by decide +kernel
theorem dX6_readsItems_111 : decode cX6_readsItems 111 = .ok (.invokestatic 43, 3) := by decide +kernel
theorem dX6_readsItems_114 : decode cX6_readsItems 114 = .ok (.iload_n 3, 1) := by decide +kernel
theorem dX6_readsItems_115 : decode cX6_readsItems 115 = .ok (.iadd, 1) := by decide +kernel
theorem dX6_readsItems_116 : decode cX6_readsItems 116 = .ok (.aload_n 1, 1) := by decide +kernel
theorem dX6_readsItems_117 : decode cX6_readsItems 117 = .ok (.invokevirtual 93, 3) := by decide +kernel
theorem dX6_readsItems_120 : decode cX6_readsItems 120 = .ok (.invokevirtual 50, 3) := by decide +kernel
theorem dX6_readsItems_123 : decode cX6_readsItems 123 = .ok (.iinc 5 1, 3) := by decide +kernel
theorem dX6_readsItems_126 : decode cX6_readsItems 126 = .ok (.goto (-120), 3) := by decide +kernel
theorem dX6_readsItems_129 : decode cX6_readsItems 129 = .ok (.iconst 1, 1) := by decide +kernel
theorem dX6_readsItems_130 : decode cX6_readsItems 130 = .ok (.ireturn, 1) := by decide +kernel
theorem dX7_init_0 : decode cX7_init 0 = .ok (.aload_n 0, 1) := by decide +kernel
theorem dX7_init_1 : decode cX7_init 1 = .ok (.invokespecial 1, 3) := by decide +kernel
theorem dX7_init_4 : decode cX7_init 4 = .ok (.aload_n 0, 1) := by decide +kernel
theorem dX7_init_5 : decode cX7_init 5 = .ok (.iload_n 1, 1) := by decide +kernel
theorem dX7_init_6 : decode cX7_init 6 = .ok (.ifCond .ge 7, 3) := by decide +kernel
theorem dX7_init_9 : decode cX7_init 9 = .ok (.iconst 0, 1) := by decide +kernel
theorem dX7_init_10 : decode cX7_init 10 = .ok (.goto 4, 3) := by decide +kernel
theorem dX7_init_13 : decode cX7_init 13 = .ok (.iload_n 1, 1) := by decide +kernel
theorem dX7_init_14 : decode cX7_init 14 = .ok (.newarray .int, 2) := by decide +kernel
theorem dX7_init_16 : decode cX7_init 16 = .ok (.putfield 7, 3) := by decide +kernel
theorem dX7_init_19 : decode cX7_init 19 = .ok (.return_, 1) := by decide +kernel
theorem dX7_get_0 : decode cX7_get 0 = .ok (.iload_n 1, 1) := by decide +kernel
theorem dX7_get_1 : decode cX7_get 1 = .ok (.ifCond .lt 21, 3) := by decide +kernel
theorem dX7_get_4 : decode cX7_get 4 = .ok (.iload_n 1, 1) := by decide +kernel
theorem dX7_get_5 : decode cX7_get 5 = .ok (.aload_n 0, 1) := by decide +kernel
theorem dX7_get_6 : decode cX7_get 6 = .ok (.getfield 7, 3) := by decide +kernel
theorem dX7_get_9 : decode cX7_get 9 = .ok (.arraylength, 1) := by decide +kernel
theorem dX7_get_10 : decode cX7_get 10 = .ok (.if_icmp .ge 12, 3) := by decide +kernel
theorem dX7_get_13 : decode cX7_get 13 = .ok (.aload_n 0, 1) := by decide +kernel
theorem dX7_get_14 : decode cX7_get 14 = .ok (.getfield 7, 3) := by decide +kernel
theorem dX7_get_17 : decode cX7_get 17 = .ok (.iload_n 1, 1) := by decide +kernel
theorem dX7_get_18 : decode cX7_get 18 = .ok (.iaload, 1) := by decide +kernel
theorem dX7_get_19 : decode cX7_get 19 = .ok (.goto 4, 3) := by decide +kernel
theorem dX7_get_22 : decode cX7_get 22 = .ok (.iconst 0, 1) := by decide +kernel
theorem dX7_get_23 : decode cX7_get 23 = .ok (.ireturn, 1) := by decide +kernel
theorem dX7_set_0 : decode cX7_set 0 = .ok (.iload_n 1, 1) := by decide +kernel
theorem dX7_set_1 : decode cX7_set 1 = .ok (.ifCond .lt 19, 3) := by decide +kernel
theorem dX7_set_4 : decode cX7_set 4 = .ok (.iload_n 1, 1) := by decide +kernel
theorem dX7_set_5 : decode cX7_set 5 = .ok (.aload_n 0, 1) := by decide +kernel
theorem dX7_set_6 : decode cX7_set 6 = .ok (.getfield 7, 3) := by decide +kernel
theorem dX7_set_9 : decode cX7_set 9 = .ok (.arraylength, 1) := by decide +kernel
theorem dX7_set_10 : decode cX7_set 10 = .ok (.if_icmp .ge 10, 3) := by decide +kernel
theorem dX7_set_13 : decode cX7_set 13 = .ok (.aload_n 0, 1) := by decide +kernel
theorem dX7_set_14 : decode cX7_set 14 = .ok (.getfield 7, 3) := by decide +kernel
theorem dX7_set_17 : decode cX7_set 17 = .ok (.iload_n 1, 1) := by decide +kernel
theorem dX7_set_18 : decode cX7_set 18 = .ok (.iload_n 2, 1) := by decide +kernel
theorem dX7_set_19 : decode cX7_set 19 = .ok (.iastore, 1) := by decide +kernel
theorem dX7_set_20 : decode cX7_set 20 = .ok (.return_, 1) := by decide +kernel
theorem dX7_fill_0 : decode cX7_fill 0 = .ok (.iconst 0, 1) := by decide +kernel
theorem dX7_fill_1 : decode cX7_fill 1 = .ok (.istore_n 2, 1) := by decide +kernel
theorem dX7_fill_2 : decode cX7_fill 2 = .ok (.iload_n 2, 1) := by decide +kernel
theorem dX7_fill_3 : decode cX7_fill 3 = .ok (.aload_n 0, 1) := by decide +kernel
theorem dX7_fill_4 : decode cX7_fill 4 = .ok (.getfield 7, 3) := by decide +kernel
theorem dX7_fill_7 : decode cX7_fill 7 = .ok (.arraylength, 1) := by decide +kernel
theorem dX7_fill_8 : decode cX7_fill 8 = .ok (.if_icmp .ge 16, 3) := by decide +kernel
theorem dX7_fill_11 : decode cX7_fill 11 = .ok (.aload_n 0, 1) := by decide +kernel
theorem dX7_fill_12 : decode cX7_fill 12 = .ok (.getfield 7, 3) := by decide +kernel
theorem dX7_fill_15 : decode cX7_fill 15 = .ok (.iload_n 2, 1) := by decide +kernel
theorem dX7_fill_16 : decode cX7_fill 16 = .ok (.iload_n 1, 1) := by decide +kernel
theorem dX7_fill_17 : decode cX7_fill 17 = .ok (.iastore, 1) := by decide +kernel
theorem dX7_fill_18 : decode cX7_fill 18 = .ok (.iinc 2 1, 3) := by decide +kernel
theorem dX7_fill_21 : decode cX7_fill 21 = .ok (.goto (-19), 3) := by decide +kernel
theorem dX7_fill_24 : decode cX7_fill 24 = .ok (.return_, 1) := by decide +kernel
theorem dX7_copy_0 : decode cX7_copy 0 = .ok (.aload_n 1, 1) := by decide +kernel
theorem dX7_copy_1 : decode cX7_copy 1 = .ok (.ifnull 29, 3) := by decide +kernel
theorem dX7_copy_4 : decode cX7_copy 4 = .ok (.aload_n 1, 1) := by decide +kernel
theorem dX7_copy_5 : decode cX7_copy 5 = .ok (.getfield 7, 3) := by decide +kernel
theorem dX7_copy_8 : decode cX7_copy 8 = .ok (.iconst 0, 1) := by decide +kernel
theorem dX7_copy_9 : decode cX7_copy 9 = .ok (.aload_n 0, 1) := by decide +kernel
theorem dX7_copy_10 : decode cX7_copy 10 = .ok (.getfield 7, 3) := by decide +kernel
theorem dX7_copy_13 : decode cX7_copy 13 = .ok (.iconst 0, 1) := by decide +kernel
theorem dX7_copy_14 : decode cX7_copy 14 = .ok (.aload_n 0, 1) := by decide +kernel
theorem dX7_copy_15 : decode cX7_copy 15 = .ok (.getfield 7, 3) := by decide +kernel
theorem dX7_copy_18 : decode cX7_copy 18 = .ok (.arraylength, 1) := by decide +kernel
theorem dX7_copy_19 : decode cX7_copy 19 = .ok (.aload_n 1, 1) := by decide +kernel
theorem dX7_copy_20 : decode cX7_copy 20 = .ok (.getfield 7, 3) := by decide +kernel
theorem dX7_copy_23 : decode cX7_copy 23 = .ok (.arraylength, 1) := by decide +kernel
theorem dX7_copy_24 : decode cX7_copy 24 = .ok (.invokestatic 13, 3) := by decide +kernel
theorem dX7_copy_27 : decode cX7_copy 27 = .ok (.invokestatic 19, 3) := by decide +kernel
theorem dX7_copy_30 : decode cX7_copy 30 = .ok (.return_, 1) := by decide +kernel
theorem dX7_placeOfMost_0 : decode cX7_placeOfMost 0 = .ok (.iload_n 1, 1) := by decide +kernel
theorem dX7_placeOfMost_1 : decode cX7_placeOfMost 1 = .ok (.istore_n 3, 1) := by decide +kernel
theorem dX7_placeOfMost_2 : decode cX7_placeOfMost 2 = .ok (.iload_n 1, 1) := by decide +kernel
theorem dX7_placeOfMost_3 : decode cX7_placeOfMost 3 = .ok (.iconst 1, 1) := by decide +kernel
theorem dX7_placeOfMost_4 : decode cX7_placeOfMost 4 = .ok (.iadd, 1) := by decide +kernel
theorem dX7_placeOfMost_5 : decode cX7_placeOfMost 5 = .ok (.istore 4, 2) := by decide +kernel
theorem dX7_placeOfMost_7 : decode cX7_placeOfMost 7 = .ok (.iload 4, 2) := by decide +kernel
theorem dX7_placeOfMost_9 : decode cX7_placeOfMost 9 = .ok (.iload_n 1, 1) := by decide +kernel
theorem dX7_placeOfMost_10 : decode cX7_placeOfMost 10 = .ok (.iload_n 2, 1) := by decide +kernel
theorem dX7_placeOfMost_11 : decode cX7_placeOfMost 11 = .ok (.iadd, 1) := by decide +kernel
theorem dX7_placeOfMost_12 : decode cX7_placeOfMost 12 = .ok (.if_icmp .ge 56, 3) := by decide +kernel
theorem dX7_placeOfMost_15 : decode cX7_placeOfMost 15 = .ok (.iload 4, 2) := by decide +kernel
theorem dX7_placeOfMost_17 : decode cX7_placeOfMost 17 = .ok (.aload_n 0, 1) := by decide +kernel
theorem dX7_placeOfMost_18 : decode cX7_placeOfMost 18 = .ok (.getfield 7, 3) := by decide +kernel
theorem dX7_placeOfMost_21 : decode cX7_placeOfMost 21 = .ok (.arraylength, 1) := by decide +kernel
theorem dX7_placeOfMost_22 : decode cX7_placeOfMost 22 = .ok (.if_icmp .ge 46, 3) := by decide +kernel
theorem dX7_placeOfMost_25 : decode cX7_placeOfMost 25 = .ok (.iload_n 3, 1) := by decide +kernel
theorem dX7_placeOfMost_26 : decode cX7_placeOfMost 26 = .ok (.ifCond .lt 36, 3) := by decide +kernel
theorem dX7_placeOfMost_29 : decode cX7_placeOfMost 29 = .ok (.iload 4, 2) := by decide +kernel
theorem dX7_placeOfMost_31 : decode cX7_placeOfMost 31 = .ok (.ifCond .lt 31, 3) := by decide +kernel
theorem dX7_placeOfMost_34 : decode cX7_placeOfMost 34 = .ok (.iload_n 3, 1) := by decide +kernel
theorem dX7_placeOfMost_35 : decode cX7_placeOfMost 35 = .ok (.aload_n 0, 1) := by decide +kernel
theorem dX7_placeOfMost_36 : decode cX7_placeOfMost 36 = .ok (.getfield 7, 3) := by decide +kernel
theorem dX7_placeOfMost_39 : decode cX7_placeOfMost 39 = .ok (.arraylength, 1) := by decide +kernel
theorem dX7_placeOfMost_40 : decode cX7_placeOfMost 40 = .ok (.if_icmp .ge 22, 3) := by decide +kernel
theorem dX7_placeOfMost_43 : decode cX7_placeOfMost 43 = .ok (.aload_n 0, 1) := by decide +kernel
theorem dX7_placeOfMost_44 : decode cX7_placeOfMost 44 = .ok (.getfield 7, 3) := by decide +kernel
theorem dX7_placeOfMost_47 : decode cX7_placeOfMost 47 = .ok (.iload 4, 2) := by decide +kernel
theorem dX7_placeOfMost_49 : decode cX7_placeOfMost 49 = .ok (.iaload, 1) := by decide +kernel
theorem dX7_placeOfMost_50 : decode cX7_placeOfMost 50 = .ok (.aload_n 0, 1) := by decide +kernel
theorem dX7_placeOfMost_51 : decode cX7_placeOfMost 51 = .ok (.getfield 7, 3) := by decide +kernel
theorem dX7_placeOfMost_54 : decode cX7_placeOfMost 54 = .ok (.iload_n 3, 1) := by decide +kernel
theorem dX7_placeOfMost_55 : decode cX7_placeOfMost 55 = .ok (.iaload, 1) := by decide +kernel
theorem dX7_placeOfMost_56 : decode cX7_placeOfMost 56 = .ok (.if_icmp .le 6, 3) := by decide +kernel
theorem dX7_placeOfMost_59 : decode cX7_placeOfMost 59 = .ok (.iload 4, 2) := by decide +kernel
theorem dX7_placeOfMost_61 : decode cX7_placeOfMost 61 = .ok (.istore_n 3, 1) := by decide +kernel
theorem dX7_placeOfMost_62 : decode cX7_placeOfMost 62 = .ok (.iinc 4 1, 3) := by decide +kernel
theorem dX7_placeOfMost_65 : decode cX7_placeOfMost 65 = .ok (.goto (-58), 3) := by decide +kernel
theorem dX7_placeOfMost_68 : decode cX7_placeOfMost 68 = .ok (.iload_n 3, 1) := by decide +kernel
theorem dX7_placeOfMost_69 : decode cX7_placeOfMost 69 = .ok (.iload_n 1, 1) := by decide +kernel
theorem dX7_placeOfMost_70 : decode cX7_placeOfMost 70 = .ok (.isub, 1) := by decide +kernel
theorem dX7_placeOfMost_71 : decode cX7_placeOfMost 71 = .ok (.ireturn, 1) := by decide +kernel
theorem dX8_init_0 : decode cX8_init 0 = .ok (.aload_n 0, 1) := by decide +kernel
theorem dX8_init_1 : decode cX8_init 1 = .ok (.sipush 146, 3) := by decide +kernel
theorem dX8_init_4 : decode cX8_init 4 = .ok (.invokespecial 5, 3) := by decide +kernel
theorem dX8_init_7 : decode cX8_init 7 = .ok (.return_, 1) := by decide +kernel
theorem dX8_begin_0 : decode cX8_begin 0 = .ok (.aload_n 0, 1) := by decide +kernel
theorem dX8_begin_1 : decode cX8_begin 1 = .ok (.iconst 0, 1) := by decide +kernel
theorem dX8_begin_2 : decode cX8_begin 2 = .ok (.invokevirtual 11, 3) := by decide +kernel
theorem dX8_begin_5 : decode cX8_begin 5 = .ok (.iconst 0, 1) := by decide +kernel
theorem dX8_begin_6 : decode cX8_begin 6 = .ok (.istore_n 2, 1) := by decide +kernel
theorem dX8_begin_7 : decode cX8_begin 7 = .ok (.iconst 0, 1) := by decide +kernel
theorem dX8_begin_8 : decode cX8_begin 8 = .ok (.istore_n 3, 1) := by decide +kernel
theorem dX8_begin_9 : decode cX8_begin 9 = .ok (.iload_n 3, 1) := by decide +kernel
theorem dX8_begin_10 : decode cX8_begin 10 = .ok (.bipush 6, 2) := by decide +kernel
theorem dX8_begin_12 : decode cX8_begin 12 = .ok (.if_icmp .ge 37, 3) := by decide +kernel
theorem dX8_begin_15 : decode cX8_begin 15 = .ok (.aload_n 0, 1) := by decide +kernel
theorem dX8_begin_16 : decode cX8_begin 16 = .ok (.iconst 0, 1) := by decide +kernel
theorem dX8_begin_17 : decode cX8_begin 17 = .ok (.iload_n 3, 1) := by decide +kernel
theorem dX8_begin_18 : decode cX8_begin 18 = .ok (.iadd, 1) := by decide +kernel
theorem dX8_begin_19 : decode cX8_begin 19 = .ok (.aload_n 1, 1) := by decide +kernel
theorem dX8_begin_20 : decode cX8_begin 20 = .ok (.bipush 15, 2) := by decide +kernel
theorem dX8_begin_22 : decode cX8_begin 22 = .ok (.iload_n 3, 1) := by decide +kernel
theorem dX8_begin_23 : decode cX8_begin 23 = .ok (.iadd, 1) := by decide +kernel
theorem dX8_begin_24 : decode cX8_begin 24 = .ok (.invokevirtual 16, 3) := by decide +kernel
theorem dX8_begin_27 : decode cX8_begin 27 = .ok (.invokevirtual 20, 3) := by decide +kernel
theorem dX8_begin_30 : decode cX8_begin 30 = .ok (.iload_n 2, 1) := by decide +kernel
theorem dX8_begin_31 : decode cX8_begin 31 = .ok (.aload_n 1, 1) := by decide +kernel
theorem dX8_begin_32 : decode cX8_begin 32 = .ok (.bipush 27, 2) := by decide +kernel
theorem dX8_begin_34 : decode cX8_begin 34 = .ok (.iload_n 3, 1) := by decide +kernel
theorem dX8_begin_35 : decode cX8_begin 35 = .ok (.iadd, 1) := by decide +kernel
theorem dX8_begin_36 : decode cX8_begin 36 = .ok (.invokevirtual 16, 3) := by decide +kernel
theorem dX8_begin_39 : decode cX8_begin 39 = .ok (.iload_n 3, 1) := by decide +kernel
theorem dX8_begin_40 : decode cX8_begin 40 = .ok (.ishl, 1) := by decide +kernel
theorem dX8_begin_41 : decode cX8_begin 41 = .ok (.ior, 1) := by decide +kernel
theorem dX8_begin_42 : decode cX8_begin 42 = .ok (.istore_n 2, 1) := by decide +kernel
theorem dX8_begin_43 : decode cX8_begin 43 = .ok (.iinc 3 1, 3) := by decide +kernel
theorem dX8_begin_46 : decode cX8_begin 46 = .ok (.goto (-37), 3) := by decide +kernel
theorem dX8_begin_49 : decode cX8_begin 49 = .ok (.aload_n 0, 1) := by decide +kernel
theorem dX8_begin_50 : decode cX8_begin 50 = .ok (.sipush 138, 3) := by decide +kernel
theorem dX8_begin_53 : decode cX8_begin 53 = .ok (.iload_n 2, 1) := by decide +kernel
theorem dX8_begin_54 : decode cX8_begin 54 = .ok (.invokevirtual 20, 3) := by decide +kernel
theorem dX8_begin_57 : decode cX8_begin 57 = .ok (.aload_n 0, 1) := by decide +kernel
theorem dX8_begin_58 : decode cX8_begin 58 = .ok (.sipush 139, 3) := by decide +kernel
theorem dX8_begin_61 : decode cX8_begin 61 = .ok (.aload_n 1, 1) := by decide +kernel
theorem dX8_begin_62 : decode cX8_begin 62 = .ok (.iconst 2, 1) := by decide +kernel
theorem dX8_begin_63 : decode cX8_begin 63 = .ok (.invokevirtual 16, 3) := by decide +kernel
theorem dX8_begin_66 : decode cX8_begin 66 = .ok (.invokevirtual 20, 3) := by decide +kernel
theorem dX8_begin_69 : decode cX8_begin 69 = .ok (.aload_n 0, 1) := by decide +kernel
theorem dX8_begin_70 : decode cX8_begin 70 = .ok (.sipush 142, 3) := by decide +kernel
theorem dX8_begin_73 : decode cX8_begin 73 = .ok (.aload_n 1, 1) := by decide +kernel
theorem dX8_begin_74 : decode cX8_begin 74 = .ok (.iconst 1, 1) := by decide +kernel
theorem dX8_begin_75 : decode cX8_begin 75 = .ok (.invokevirtual 16, 3) := by decide +kernel
theorem dX8_begin_78 : decode cX8_begin 78 = .ok (.invokevirtual 20, 3) := by decide +kernel
theorem dX8_begin_81 : decode cX8_begin 81 = .ok (.aload_n 0, 1) := by decide +kernel
theorem dX8_begin_82 : decode cX8_begin 82 = .ok (.sipush 143, 3) := by decide +kernel
theorem dX8_begin_85 : decode cX8_begin 85 = .ok (.iconst (-1), 1) := by decide +kernel
theorem dX8_begin_86 : decode cX8_begin 86 = .ok (.invokevirtual 20, 3) := by decide +kernel
theorem dX8_begin_89 : decode cX8_begin 89 = .ok (.return_, 1) := by decide +kernel
theorem dX8_isInBed_0 : decode cX8_isInBed 0 = .ok (.aload_n 0, 1) := by decide +kernel
theorem dX8_isInBed_1 : decode cX8_isInBed 1 = .ok (.sipush 138, 3) := by decide +kernel
theorem dX8_isInBed_4 : decode cX8_isInBed 4 = .ok (.invokevirtual 24, 3) := by decide +kernel
theorem dX8_isInBed_7 : decode cX8_isInBed 7 = .ok (.iload_n 1, 1) := by decide +kernel
theorem dX8_isInBed_8 : decode cX8_isInBed 8 = .ok (.invokestatic 25, 3) := by decide +kernel
theorem dX8_isInBed_11 : decode cX8_isInBed 11 = .ok (.ireturn, 1) := by decide +kernel
theorem dX8_upBits_0 : decode cX8_upBits 0 = .ok (.iconst 1, 1) := by decide +kernel
theorem dX8_upBits_1 : decode cX8_upBits 1 = .ok (.iload_n 1, 1) := by decide +kernel
theorem dX8_upBits_2 : decode cX8_upBits 2 = .ok (.ishl, 1) := by decide +kernel
theorem dX8_upBits_3 : decode cX8_upBits 3 = .ok (.iconst 1, 1) := by decide +kernel
theorem dX8_upBits_4 : decode cX8_upBits 4 = .ok (.isub, 1) := by decide +kernel
theorem dX8_upBits_5 : decode cX8_upBits 5 = .ok (.aload_n 0, 1) := by decide +kernel
theorem dX8_upBits_6 : decode cX8_upBits 6 = .ok (.sipush 138, 3) := by decide +kernel
theorem dX8_upBits_9 : decode cX8_upBits 9 = .ok (.invokevirtual 24, 3) := by decide +kernel
theorem dX8_upBits_12 : decode cX8_upBits 12 = .ok (.iconst (-1), 1) := by decide +kernel
theorem dX8_upBits_13 : decode cX8_upBits 13 = .ok (.ixor, 1) := by decide +kernel
theorem dX8_upBits_14 : decode cX8_upBits 14 = .ok (.iand, 1) := by decide +kernel
theorem dX8_upBits_15 : decode cX8_upBits 15 = .ok (.ireturn, 1) := by decide +kernel
theorem dX8_upCount_0 : decode cX8_upCount 0 = .ok (.aload_n 0, 1) := by decide +kernel
theorem dX8_upCount_1 : decode cX8_upCount 1 = .ok (.iload_n 1, 1) := by decide +kernel
theorem dX8_upCount_2 : decode cX8_upCount 2 = .ok (.invokevirtual 29, 3) := by decide +kernel
theorem dX8_upCount_5 : decode cX8_upCount 5 = .ok (.invokestatic 32, 3) := by decide +kernel
theorem dX8_upCount_8 : decode cX8_upCount 8 = .ok (.ireturn, 1) := by decide +kernel
theorem dX8_party_0 : decode cX8_party 0 = .ok (.iconst 0, 1) := by decide +kernel
theorem dX8_party_1 : decode cX8_party 1 = .ok (.istore_n 3, 1) := by decide +kernel
theorem dX8_party_2 : decode cX8_party 2 = .ok (.iconst 0, 1) := by decide +kernel
theorem dX8_party_3 : decode cX8_party 3 = .ok (.istore 4, 2) := by decide +kernel
theorem dX8_party_5 : decode cX8_party 5 = .ok (.iload 4, 2) := by decide +kernel
theorem dX8_party_7 : decode cX8_party 7 = .ok (.iload_n 2, 1) := by decide +kernel
theorem dX8_party_8 : decode cX8_party 8 = .ok (.if_icmp .ge 39, 3) := by decide +kernel
theorem dX8_party_11 : decode cX8_party 11 = .ok (.iload 4, 2) := by decide +kernel
theorem dX8_party_13 : decode cX8_party 13 = .ok (.bipush 6, 2) := by decide +kernel
theorem dX8_party_15 : decode cX8_party 15 = .ok (.if_icmp .ge 32, 3) := by decide +kernel
theorem dX8_party_18 : decode cX8_party 18 = .ok (.iload_n 3, 1) := by decide +kernel
theorem dX8_party_19 : decode cX8_party 19 = .ok (.aload_n 0, 1) := by decide +kernel
theorem dX8_party_20 : decode cX8_party 20 = .ok (.iconst 0, 1) := by decide +kernel
theorem dX8_party_21 : decode cX8_party 21 = .ok (.iload 4, 2) := by decide +kernel
theorem dX8_party_23 : decode cX8_party 23 = .ok (.iadd, 1) := by decide +kernel
theorem dX8_party_24 : decode cX8_party 24 = .ok (.invokevirtual 24, 3) := by decide +kernel
theorem dX8_party_27 : decode cX8_party 27 = .ok (.iload_n 1, 1) := by decide +kernel
theorem dX8_party_28 : decode cX8_party 28 = .ok (.if_icmp .ne 10, 3) := by decide +kernel
theorem dX8_party_31 : decode cX8_party 31 = .ok (.iconst 1, 1) := by decide +kernel
theorem dX8_party_32 : decode cX8_party 32 = .ok (.iload 4, 2) := by decide +kernel
theorem dX8_party_34 : decode cX8_party 34 = .ok (.ishl, 1) := by decide +kernel
theorem dX8_party_35 : decode cX8_party 35 = .ok (.goto 4, 3) := by decide +kernel
theorem dX8_party_38 : decode cX8_party 38 = .ok (.iconst 0, 1) := by decide +kernel
theorem dX8_party_39 : decode cX8_party 39 = .ok (.ior, 1) := by decide +kernel
theorem dX8_party_40 : decode cX8_party 40 = .ok (.istore_n 3, 1) := by decide +kernel
theorem dX8_party_41 : decode cX8_party 41 = .ok (.iinc 4 1, 3) := by decide +kernel
theorem dX8_party_44 : decode cX8_party 44 = .ok (.goto (-39), 3) := by decide +kernel
theorem dX8_party_47 : decode cX8_party 47 = .ok (.iload_n 3, 1) := by decide +kernel
theorem dX8_party_48 : decode cX8_party 48 = .ok (.ireturn, 1) := by decide +kernel
theorem dX8_governingVoices_0 : decode cX8_governingVoices 0 = .ok (.aload_n 0, 1) := by decide +kernel
theorem dX8_governingVoices_1 : decode cX8_governingVoices 1 = .ok (.sipush 143, 3) := by decide +kernel
theorem dX8_governingVoices_4 : decode cX8_governingVoices 4 = .ok (.invokevirtual 24, 3) := by decide +kernel
theorem dX8_governingVoices_7 : decode cX8_governingVoices 7 = .ok (.istore_n 1, 1) := by decide +kernel
theorem dX8_governingVoices_8 : decode cX8_governingVoices 8 = .ok (.iload_n 1, 1) := by decide +kernel
theorem dX8_governingVoices_9 : decode cX8_governingVoices 9 = .ok (.ifCond .lt 9, 3) := by decide +kernel
theorem dX8_governingVoices_12 : decode cX8_governingVoices 12 = .ok (.iload_n 1, 1) := by decide +kernel
theorem dX8_governingVoices_13 : decode cX8_governingVoices 13 = .ok (.bipush 6, 2) := by decide +kernel
theorem dX8_governingVoices_15 : decode cX8_governingVoices 15 = .ok (.if_icmp .lt 7, 3) := by decide +kernel
theorem dX8_governingVoices_18 : decode cX8_governingVoices 18 = .ok (.iconst 0, 1) := by decide +kernel
theorem dX8_governingVoices_19 : decode cX8_governingVoices 19 = .ok (.goto 11, 3) := by decide +kernel
theorem dX8_governingVoices_22 : decode cX8_governingVoices 22 = .ok (.aload_n 0, 1) := by decide +kernel
theorem dX8_governingVoices_23 : decode cX8_governingVoices 23 = .ok (.bipush 12, 2) := by decide +kernel
theorem dX8_governingVoices_25 : decode cX8_governingVoices 25 = .ok (.iload_n 1, 1) := by decide +kernel
theorem dX8_governingVoices_26 : decode cX8_governingVoices 26 = .ok (.iadd, 1) := by decide +kernel
theorem dX8_governingVoices_27 : decode cX8_governingVoices 27 = .ok (.invokevirtual 24, 3) := by decide +kernel
theorem dX8_governingVoices_30 : decode cX8_governingVoices 30 = .ok (.ireturn, 1) := by decide +kernel
theorem dX8_darkestOver_0 : decode cX8_darkestOver 0 = .ok (.iconst (-1), 1) := by decide +kernel
theorem dX8_darkestOver_1 : decode cX8_darkestOver 1 = .ok (.istore_n 1, 1) := by decide +kernel
theorem dX8_darkestOver_2 : decode cX8_darkestOver 2 = .ok (.iconst 0, 1) := by decide +kernel
theorem dX8_darkestOver_3 : decode cX8_darkestOver 3 = .ok (.istore_n 2, 1) := by decide +kernel
theorem dX8_darkestOver_4 : decode cX8_darkestOver 4 = .ok (.iload_n 2, 1) := by decide +kernel
theorem dX8_darkestOver_5 : decode cX8_darkestOver 5 = .ok (.aload_n 0, 1) := by decide +kernel
theorem dX8_darkestOver_6 : decode cX8_darkestOver 6 = .ok (.sipush 145, 3) := by decide +kernel
theorem dX8_darkestOver_9 : decode cX8_darkestOver 9 = .ok (.invokevirtual 24, 3) := by decide +kernel
theorem dX8_darkestOver_12 : decode cX8_darkestOver 12 = .ok (.if_icmp .ge 41, 3) := by decide +kernel
theorem dX8_darkestOver_15 : decode cX8_darkestOver 15 = .ok (.iload_n 2, 1) := by decide +kernel
theorem dX8_darkestOver_16 : decode cX8_darkestOver 16 = .ok (.bipush 30, 2) := by decide +kernel
theorem dX8_darkestOver_18 : decode cX8_darkestOver 18 = .ok (.if_icmp .ge 35, 3) := by decide +kernel
theorem dX8_darkestOver_21 : decode cX8_darkestOver 21 = .ok (.iload_n 1, 1) := by decide +kernel
theorem dX8_darkestOver_22 : decode cX8_darkestOver 22 = .ok (.iconst (-1), 1) := by decide +kernel
theorem dX8_darkestOver_23 : decode cX8_darkestOver 23 = .ok (.if_icmp .eq 22, 3) := by decide +kernel
theorem dX8_darkestOver_26 : decode cX8_darkestOver 26 = .ok (.aload_n 0, 1) := by decide +kernel
theorem dX8_darkestOver_27 : decode cX8_darkestOver 27 = .ok (.bipush 18, 2) := by decide +kernel
theorem dX8_darkestOver_29 : decode cX8_darkestOver 29 = .ok (.iload_n 2, 1) := by decide +kernel
theorem dX8_darkestOver_30 : decode cX8_darkestOver 30 = .ok (.iadd, 1) := by decide +kernel
theorem dX8_darkestOver_31 : decode cX8_darkestOver 31 = .ok (.invokevirtual 24, 3) := by decide +kernel
theorem dX8_darkestOver_34 : decode cX8_darkestOver 34 = .ok (.aload_n 0, 1) := by decide +kernel
theorem dX8_darkestOver_35 : decode cX8_darkestOver 35 = .ok (.bipush 18, 2) := by decide +kernel
theorem dX8_darkestOver_37 : decode cX8_darkestOver 37 = .ok (.iload_n 1, 1) := by decide +kernel
theorem dX8_darkestOver_38 : decode cX8_darkestOver 38 = .ok (.iadd, 1) := by decide +kernel
theorem dX8_darkestOver_39 : decode cX8_darkestOver 39 = .ok (.invokevirtual 24, 3) := by decide +kernel
theorem dX8_darkestOver_42 : decode cX8_darkestOver 42 = .ok (.if_icmp .ge 5, 3) := by decide +kernel
theorem dX8_darkestOver_45 : decode cX8_darkestOver 45 = .ok (.iload_n 2, 1) := by decide +kernel
theorem dX8_darkestOver_46 : decode cX8_darkestOver 46 = .ok (.istore_n 1, 1) := by decide +kernel
theorem dX8_darkestOver_47 : decode cX8_darkestOver 47 = .ok (.iinc 2 1, 3) := by decide +kernel
theorem dX8_darkestOver_50 : decode cX8_darkestOver 50 = .ok (.goto (-46), 3) := by decide +kernel
theorem dX8_darkestOver_53 : decode cX8_darkestOver 53 = .ok (.iload_n 1, 1) := by decide +kernel
theorem dX8_darkestOver_54 : decode cX8_darkestOver 54 = .ok (.ireturn, 1) := by decide +kernel
theorem dX8_writeLog_0 : decode cX8_writeLog 0 = .ok (.aload_n 0, 1) := by decide +kernel
theorem dX8_writeLog_1 : decode cX8_writeLog 1 = .ok (.bipush 78, 2) := by decide +kernel
theorem dX8_writeLog_3 : decode cX8_writeLog 3 = .ok (.iload_n 1, 1) := by decide +kernel
theorem dX8_writeLog_4 : decode cX8_writeLog 4 = .ok (.bipush 60, 2) := by decide +kernel
theorem dX8_writeLog_6 : decode cX8_writeLog 6 = .ok (.irem, 1) := by decide +kernel
theorem dX8_writeLog_7 : decode cX8_writeLog 7 = .ok (.iadd, 1) := by decide +kernel
theorem dX8_writeLog_8 : decode cX8_writeLog 8 = .ok (.iload_n 2, 1) := by decide +kernel
theorem dX8_writeLog_9 : decode cX8_writeLog 9 = .ok (.iload_n 3, 1) := by decide +kernel
theorem dX8_writeLog_10 : decode cX8_writeLog 10 = .ok (.bipush 8, 2) := by decide +kernel
theorem dX8_writeLog_12 : decode cX8_writeLog 12 = .ok (.ishl, 1) := by decide +kernel
theorem dX8_writeLog_13 : decode cX8_writeLog 13 = .ok (.ior, 1) := by decide +kernel
theorem dX8_writeLog_14 : decode cX8_writeLog 14 = .ok (.aload_n 0, 1) := by decide +kernel
theorem dX8_writeLog_15 : decode cX8_writeLog 15 = .ok (.sipush 143, 3) := by decide +kernel
theorem dX8_writeLog_18 : decode cX8_writeLog 18 = .ok (.invokevirtual 24, 3) := by decide +kernel
theorem dX8_writeLog_21 : decode cX8_writeLog 21 = .ok (.iconst 1, 1) := by decide +kernel
theorem dX8_writeLog_22 : decode cX8_writeLog 22 = .ok (.iadd, 1) := by decide +kernel
theorem dX8_writeLog_23 : decode cX8_writeLog 23 = .ok (.bipush 16, 2) := by decide +kernel
theorem dX8_writeLog_25 : decode cX8_writeLog 25 = .ok (.ishl, 1) := by decide +kernel
theorem dX8_writeLog_26 : decode cX8_writeLog 26 = .ok (.ior, 1) := by decide +kernel
theorem dX8_writeLog_27 : decode cX8_writeLog 27 = .ok (.invokevirtual 20, 3) := by decide +kernel
theorem dX8_writeLog_30 : decode cX8_writeLog 30 = .ok (.return_, 1) := by decide +kernel
theorem dX8_yearsLogged_0 : decode cX8_yearsLogged 0 = .ok (.bipush 60, 2) := by decide +kernel
theorem dX8_yearsLogged_2 : decode cX8_yearsLogged 2 = .ok (.aload_n 0, 1) := by decide +kernel
theorem dX8_yearsLogged_3 : decode cX8_yearsLogged 3 = .ok (.sipush 144, 3) := by decide +kernel
theorem dX8_yearsLogged_6 : decode cX8_yearsLogged 6 = .ok (.invokevirtual 24, 3) := by decide +kernel
theorem dX8_yearsLogged_9 : decode cX8_yearsLogged 9 = .ok (.invokestatic 37, 3) := by decide +kernel
theorem dX8_yearsLogged_12 : decode cX8_yearsLogged 12 = .ok (.ireturn, 1) := by decide +kernel
theorem dX8_logged_0 : decode cX8_logged 0 = .ok (.aload_n 0, 1) := by decide +kernel
theorem dX8_logged_1 : decode cX8_logged 1 = .ok (.sipush 144, 3) := by decide +kernel
theorem dX8_logged_4 : decode cX8_logged 4 = .ok (.invokevirtual 24, 3) := by decide +kernel
theorem dX8_logged_7 : decode cX8_logged 7 = .ok (.iconst 1, 1) := by decide +kernel
theorem dX8_logged_8 : decode cX8_logged 8 = .ok (.isub, 1) := by decide +kernel
theorem dX8_logged_9 : decode cX8_logged 9 = .ok (.iload_n 1, 1) := by decide +kernel
theorem dX8_logged_10 : decode cX8_logged 10 = .ok (.isub, 1) := by decide +kernel
theorem dX8_logged_11 : decode cX8_logged 11 = .ok (.istore_n 3, 1) := by decide +kernel
theorem dX8_logged_12 : decode cX8_logged 12 = .ok (.iload_n 3, 1) := by decide +kernel
theorem dX8_logged_13 : decode cX8_logged 13 = .ok (.ifCond .ge 7, 3) := by decide +kernel
theorem dX8_logged_16 : decode cX8_logged 16 = .ok (.iconst 0, 1) := by decide +kernel
theorem dX8_logged_17 : decode cX8_logged 17 = .ok (.goto 14, 3) := by decide +kernel
theorem dX8_logged_20 : decode cX8_logged 20 = .ok (.aload_n 0, 1) := by decide +kernel
theorem dX8_logged_21 : decode cX8_logged 21 = .ok (.bipush 78, 2) := by decide +kernel
theorem dX8_logged_23 : decode cX8_logged 23 = .ok (.iload_n 3, 1) := by decide +kernel
theorem dX8_logged_24 : decode cX8_logged 24 = .ok (.bipush 60, 2) := by decide +kernel
theorem dX8_logged_26 : decode cX8_logged 26 = .ok (.irem, 1) := by decide +kernel
theorem dX8_logged_27 : decode cX8_logged 27 = .ok (.iadd, 1) := by decide +kernel
theorem dX8_logged_28 : decode cX8_logged 28 = .ok (.invokevirtual 24, 3) := by decide +kernel
theorem dX8_logged_31 : decode cX8_logged 31 = .ok (.istore 4, 2) := by decide +kernel
theorem dX8_logged_33 : decode cX8_logged 33 = .ok (.iload_n 2, 1) := by decide +kernel
theorem dX8_logged_34 : decode cX8_logged 34 = .ok (.ifCond .ne 12, 3) := by decide +kernel
theorem dX8_logged_37 : decode cX8_logged 37 = .ok (.iload 4, 2) := by decide +kernel
theorem dX8_logged_39 : decode cX8_logged 39 = .ok (.sipush 255, 3) := by decide +kernel
theorem dX8_logged_42 : decode cX8_logged 42 = .ok (.iand, 1) := by decide +kernel
theorem dX8_logged_43 : decode cX8_logged 43 = .ok (.goto 27, 3) := by decide +kernel
theorem dX8_logged_46 : decode cX8_logged 46 = .ok (.iload_n 2, 1) := by decide +kernel
theorem dX8_logged_47 : decode cX8_logged 47 = .ok (.iconst 1, 1) := by decide +kernel
theorem dX8_logged_48 : decode cX8_logged 48 = .ok (.if_icmp .ne 15, 3) := by decide +kernel
theorem dX8_logged_51 : decode cX8_logged 51 = .ok (.iload 4, 2) := by decide +kernel
theorem dX8_logged_53 : decode cX8_logged 53 = .ok (.bipush 8, 2) := by decide +kernel
theorem dX8_logged_55 : decode cX8_logged 55 = .ok (.ishr, 1) := by decide +kernel
theorem dX8_logged_56 : decode cX8_logged 56 = .ok (.sipush 255, 3) := by decide +kernel
theorem dX8_logged_59 : decode cX8_logged 59 = .ok (.iand, 1) := by decide +kernel
theorem dX8_logged_60 : decode cX8_logged 60 = .ok (.goto 10, 3) := by decide +kernel
theorem dX8_logged_63 : decode cX8_logged 63 = .ok (.iload 4, 2) := by decide +kernel
theorem dX8_logged_65 : decode cX8_logged 65 = .ok (.bipush 16, 2) := by decide +kernel
theorem dX8_logged_67 : decode cX8_logged 67 = .ok (.ishr, 1) := by decide +kernel
theorem dX8_logged_68 : decode cX8_logged 68 = .ok (.iconst 1, 1) := by decide +kernel
theorem dX8_logged_69 : decode cX8_logged 69 = .ok (.isub, 1) := by decide +kernel
theorem dX8_logged_70 : decode cX8_logged 70 = .ok (.ireturn, 1) := by decide +kernel
theorem dX9_init_0 : decode cX9_init 0 = .ok (.aload_n 0, 1) := by decide +kernel
theorem dX9_init_1 : decode cX9_init 1 = .ok (.invokespecial 3, 3) := by decide +kernel
theorem dX9_init_4 : decode cX9_init 4 = .ok (.aload_n 0, 1) := by decide +kernel
theorem dX9_init_5 : decode cX9_init 5 = .ok (.sipush 240, 3) := by decide +kernel
theorem dX9_init_8 : decode cX9_init 8 = .ok (.newarray .int, 2) := by decide +kernel
theorem dX9_init_10 : decode cX9_init 10 = .ok (.putfield 9, 3) := by decide +kernel
theorem dX9_init_13 : decode cX9_init 13 = .ok (.aload_n 0, 1) := by decide +kernel
theorem dX9_init_14 : decode cX9_init 14 = .ok (.iconst 0, 1) := by decide +kernel
theorem dX9_init_15 : decode cX9_init 15 = .ok (.putfield 15, 3) := by decide +kernel
theorem dX9_init_18 : decode cX9_init 18 = .ok (.aload_n 0, 1) := by decide +kernel
theorem dX9_init_19 : decode cX9_init 19 = .ok (.iconst 0, 1) := by decide +kernel
theorem dX9_init_20 : decode cX9_init 20 = .ok (.putfield 19, 3) := by decide +kernel
theorem dX9_init_23 : decode cX9_init 23 = .ok (.aload_n 0, 1) := by decide +kernel
theorem dX9_init_24 : decode cX9_init 24 = .ok (.iconst 0, 1) := by decide +kernel
theorem dX9_init_25 : decode cX9_init 25 = .ok (.putfield 22, 3) := by decide +kernel
theorem dX9_init_28 : decode cX9_init 28 = .ok (.return_, 1) := by decide +kernel
theorem dX9_bytesIn_0 : decode cX9_bytesIn 0 = .ok (.iconst 0, 1) := by decide +kernel
theorem dX9_bytesIn_1 : decode cX9_bytesIn 1 = .ok (.istore_n 1, 1) := by decide +kernel
theorem dX9_bytesIn_2 : decode cX9_bytesIn 2 = .ok (.bipush 24, 2) := by decide +kernel
theorem dX9_bytesIn_4 : decode cX9_bytesIn 4 = .ok (.istore_n 2, 1) := by decide +kernel
theorem dX9_bytesIn_5 : decode cX9_bytesIn 5 = .ok (.iload_n 2, 1) := by decide +kernel
theorem dX9_bytesIn_6 : decode cX9_bytesIn 6 = .ok (.ifCond .lt 27, 3) := by decide +kernel
theorem dX9_bytesIn_9 : decode cX9_bytesIn 9 = .ok (.iload_n 1, 1) := by decide +kernel
theorem dX9_bytesIn_10 : decode cX9_bytesIn 10 = .ok (.iload_n 0, 1) := by decide +kernel
theorem dX9_bytesIn_11 : decode cX9_bytesIn 11 = .ok (.iload_n 2, 1) := by decide +kernel
theorem dX9_bytesIn_12 : decode cX9_bytesIn 12 = .ok (.ishr, 1) := by decide +kernel
theorem dX9_bytesIn_13 : decode cX9_bytesIn 13 = .ok (.sipush 255, 3) := by decide +kernel
theorem dX9_bytesIn_16 : decode cX9_bytesIn 16 = .ok (.iand, 1) := by decide +kernel
theorem dX9_bytesIn_17 : decode cX9_bytesIn 17 = .ok (.ifCond .eq 7, 3) := by decide +kernel
theorem dX9_bytesIn_20 : decode cX9_bytesIn 20 = .ok (.iconst 1, 1) := by decide +kernel
theorem dX9_bytesIn_21 : decode cX9_bytesIn 21 = .ok (.goto 4, 3) := by decide +kernel
theorem dX9_bytesIn_24 : decode cX9_bytesIn 24 = .ok (.iconst 0, 1) := by decide +kernel
theorem dX9_bytesIn_25 : decode cX9_bytesIn 25 = .ok (.iadd, 1) := by decide +kernel
theorem dX9_bytesIn_26 : decode cX9_bytesIn 26 = .ok (.istore_n 1, 1) := by decide +kernel
theorem dX9_bytesIn_27 : decode cX9_bytesIn 27 = .ok (.iinc 2 (-8), 3) := by decide +kernel
theorem dX9_bytesIn_30 : decode cX9_bytesIn 30 = .ok (.goto (-25), 3) := by decide +kernel
theorem dX9_bytesIn_33 : decode cX9_bytesIn 33 = .ok (.iload_n 1, 1) := by decide +kernel
theorem dX9_bytesIn_34 : decode cX9_bytesIn 34 = .ok (.ireturn, 1) := by decide +kernel
theorem dX9_append_0 : decode cX9_append 0 = .ok (.bipush 24, 2) := by decide +kernel
theorem dX9_append_2 : decode cX9_append 2 = .ok (.istore_n 2, 1) := by decide +kernel
theorem dX9_append_3 : decode cX9_append 3 = .ok (.iload_n 2, 1) := by decide +kernel
theorem dX9_append_4 : decode cX9_append 4 = .ok (.ifCond .lt 60, 3) := by decide +kernel
theorem dX9_append_7 : decode cX9_append 7 = .ok (.iload_n 1, 1) := by decide +kernel
theorem dX9_append_8 : decode cX9_append 8 = .ok (.iload_n 2, 1) := by decide +kernel
theorem dX9_append_9 : decode cX9_append 9 = .ok (.ishr, 1) := by decide +kernel
theorem dX9_append_10 : decode cX9_append 10 = .ok (.sipush 255, 3) := by decide +kernel
theorem dX9_append_13 : decode cX9_append 13 = .ok (.iand, 1) := by decide +kernel
theorem dX9_append_14 : decode cX9_append 14 = .ok (.istore_n 3, 1) := by decide +kernel
theorem dX9_append_15 : decode cX9_append 15 = .ok (.iload_n 3, 1) := by decide +kernel
theorem dX9_append_16 : decode cX9_append 16 = .ok (.ifCond .eq 42, 3) := by decide +kernel
theorem dX9_append_19 : decode cX9_append 19 = .ok (.aload_n 0, 1) := by decide +kernel
theorem dX9_append_20 : decode cX9_append 20 = .ok (.getfield 15, 3) := by decide +kernel
theorem dX9_append_23 : decode cX9_append 23 = .ok (.ifCond .lt 35, 3) := by decide +kernel
theorem dX9_append_26 : decode cX9_append 26 = .ok (.aload_n 0, 1) := by decide +kernel
theorem dX9_append_27 : decode cX9_append 27 = .ok (.getfield 15, 3) := by decide +kernel
theorem dX9_append_30 : decode cX9_append 30 = .ok (.aload_n 0, 1) := by decide +kernel
theorem dX9_append_31 : decode cX9_append 31 = .ok (.getfield 9, 3) := by decide +kernel
theorem dX9_append_34 : decode cX9_append 34 = .ok (.arraylength, 1) := by decide +kernel
theorem dX9_append_35 : decode cX9_append 35 = .ok (.if_icmp .ge 23, 3) := by decide +kernel
theorem dX9_append_38 : decode cX9_append 38 = .ok (.aload_n 0, 1) := by decide +kernel
theorem dX9_append_39 : decode cX9_append 39 = .ok (.getfield 9, 3) := by decide +kernel
theorem dX9_append_42 : decode cX9_append 42 = .ok (.aload_n 0, 1) := by decide +kernel
theorem dX9_append_43 : decode cX9_append 43 = .ok (.getfield 15, 3) := by decide +kernel
theorem dX9_append_46 : decode cX9_append 46 = .ok (.iload_n 3, 1) := by decide +kernel
theorem dX9_append_47 : decode cX9_append 47 = .ok (.iastore, 1) := by decide +kernel
theorem dX9_append_48 : decode cX9_append 48 = .ok (.aload_n 0, 1) := by decide +kernel
theorem dX9_append_49 : decode cX9_append 49 = .ok (.dup, 1) := by decide +kernel
theorem dX9_append_50 : decode cX9_append 50 = .ok (.getfield 15, 3) := by decide +kernel
theorem dX9_append_53 : decode cX9_append 53 = .ok (.iconst 1, 1) := by decide +kernel
theorem dX9_append_54 : decode cX9_append 54 = .ok (.iadd, 1) := by decide +kernel
theorem dX9_append_55 : decode cX9_append 55 = .ok (.putfield 15, 3) := by decide +kernel
theorem dX9_append_58 : decode cX9_append 58 = .ok (.iinc 2 (-8), 3) := by decide +kernel
theorem dX9_append_61 : decode cX9_append 61 = .ok (.goto (-58), 3) := by decide +kernel
theorem dX9_append_64 : decode cX9_append 64 = .ok (.return_, 1) := by decide +kernel
theorem dX9_cut_0 : decode cX9_cut 0 = .ok (.aload_n 0, 1) := by decide +kernel
theorem dX9_cut_1 : decode cX9_cut 1 = .ok (.iload_n 1, 1) := by decide +kernel
theorem dX9_cut_2 : decode cX9_cut 2 = .ok (.putfield 15, 3) := by decide +kernel
theorem dX9_cut_5 : decode cX9_cut 5 = .ok (.return_, 1) := by decide +kernel
theorem dX9_length_0 : decode cX9_length 0 = .ok (.aload_n 0, 1) := by decide +kernel
theorem dX9_length_1 : decode cX9_length 1 = .ok (.getfield 15, 3) := by decide +kernel
theorem dX9_length_4 : decode cX9_length 4 = .ok (.ireturn, 1) := by decide +kernel
theorem dX9_cursor_0 : decode cX9_cursor 0 = .ok (.aload_n 0, 1) := by decide +kernel
theorem dX9_cursor_1 : decode cX9_cursor 1 = .ok (.getfield 19, 3) := by decide +kernel
theorem dX9_cursor_4 : decode cX9_cursor 4 = .ok (.ireturn, 1) := by decide +kernel
theorem dX9_rewind_0 : decode cX9_rewind 0 = .ok (.aload_n 0, 1) := by decide +kernel
theorem dX9_rewind_1 : decode cX9_rewind 1 = .ok (.iconst 0, 1) := by decide +kernel
theorem dX9_rewind_2 : decode cX9_rewind 2 = .ok (.putfield 19, 3) := by decide +kernel
theorem dX9_rewind_5 : decode cX9_rewind 5 = .ok (.return_, 1) := by decide +kernel
theorem dX9_advance_0 : decode cX9_advance 0 = .ok (.aload_n 0, 1) := by decide +kernel
theorem dX9_advance_1 : decode cX9_advance 1 = .ok (.dup, 1) := by decide +kernel
theorem dX9_advance_2 : decode cX9_advance 2 = .ok (.getfield 19, 3) := by decide +kernel
theorem dX9_advance_5 : decode cX9_advance 5 = .ok (.iconst 1, 1) := by decide +kernel
theorem dX9_advance_6 : decode cX9_advance 6 = .ok (.iadd, 1) := by decide +kernel
theorem dX9_advance_7 : decode cX9_advance 7 = .ok (.putfield 19, 3) := by decide +kernel
theorem dX9_advance_10 : decode cX9_advance 10 = .ok (.return_, 1) := by decide +kernel
theorem dX9_nextSign_0 : decode cX9_nextSign 0 = .ok (.aload_n 0, 1) := by decide +kernel
theorem dX9_nextSign_1 : decode cX9_nextSign 1 = .ok (.getfield 19, 3) := by decide +kernel
theorem dX9_nextSign_4 : decode cX9_nextSign 4 = .ok (.ifCond .lt 63, 3) := by decide +kernel
theorem dX9_nextSign_7 : decode cX9_nextSign 7 = .ok (.aload_n 0, 1) := by decide +kernel
theorem dX9_nextSign_8 : decode cX9_nextSign 8 = .ok (.getfield 19, 3) := by decide +kernel
theorem dX9_nextSign_11 : decode cX9_nextSign 11 = .ok (.aload_n 0, 1) := by decide +kernel
theorem dX9_nextSign_12 : decode cX9_nextSign 12 = .ok (.getfield 15, 3) := by decide +kernel
theorem dX9_nextSign_15 : decode cX9_nextSign 15 = .ok (.if_icmp .ge 52, 3) := by decide +kernel
theorem dX9_nextSign_18 : decode cX9_nextSign 18 = .ok (.aload_n 0, 1) := by decide +kernel
theorem dX9_nextSign_19 : decode cX9_nextSign 19 = .ok (.getfield 19, 3) := by decide +kernel
theorem dX9_nextSign_22 : decode cX9_nextSign 22 = .ok (.aload_n 0, 1) := by decide +kernel
theorem dX9_nextSign_23 : decode cX9_nextSign 23 = .ok (.getfield 9, 3) := by decide +kernel
theorem dX9_nextSign_26 : decode cX9_nextSign 26 = .ok (.arraylength, 1) := by decide +kernel
theorem dX9_nextSign_27 : decode cX9_nextSign 27 = .ok (.if_icmp .ge 40, 3) := by decide +kernel
theorem dX9_nextSign_30 : decode cX9_nextSign 30 = .ok (.aload_n 0, 1) := by decide +kernel
theorem dX9_nextSign_31 : decode cX9_nextSign 31 = .ok (.getfield 9, 3) := by decide +kernel
theorem dX9_nextSign_34 : decode cX9_nextSign 34 = .ok (.aload_n 0, 1) := by decide +kernel
theorem dX9_nextSign_35 : decode cX9_nextSign 35 = .ok (.getfield 19, 3) := by decide +kernel
theorem dX9_nextSign_38 : decode cX9_nextSign 38 = .ok (.iaload, 1) := by decide +kernel
theorem dX9_nextSign_39 : decode cX9_nextSign 39 = .ok (.bipush 32, 2) := by decide +kernel
theorem dX9_nextSign_41 : decode cX9_nextSign 41 = .ok (.if_icmp .eq 13, 3) := by decide +kernel
theorem dX9_nextSign_44 : decode cX9_nextSign 44 = .ok (.aload_n 0, 1) := by decide +kernel
theorem dX9_nextSign_45 : decode cX9_nextSign 45 = .ok (.getfield 9, 3) := by decide +kernel
theorem dX9_nextSign_48 : decode cX9_nextSign 48 = .ok (.aload_n 0, 1) := by decide +kernel
theorem dX9_nextSign_49 : decode cX9_nextSign 49 = .ok (.getfield 19, 3) := by decide +kernel
theorem dX9_nextSign_52 : decode cX9_nextSign 52 = .ok (.iaload, 1) := by decide +kernel
theorem dX9_nextSign_53 : decode cX9_nextSign 53 = .ok (.ireturn, 1) := by decide +kernel
theorem dX9_nextSign_54 : decode cX9_nextSign 54 = .ok (.aload_n 0, 1) := by decide +kernel
theorem dX9_nextSign_55 : decode cX9_nextSign 55 = .ok (.dup, 1) := by decide +kernel
theorem dX9_nextSign_56 : decode cX9_nextSign 56 = .ok (.getfield 19, 3) := by decide +kernel
theorem dX9_nextSign_59 : decode cX9_nextSign 59 = .ok (.iconst 1, 1) := by decide +kernel
theorem dX9_nextSign_60 : decode cX9_nextSign 60 = .ok (.iadd, 1) := by decide +kernel
theorem dX9_nextSign_61 : decode cX9_nextSign 61 = .ok (.putfield 19, 3) := by decide +kernel
theorem dX9_nextSign_64 : decode cX9_nextSign 64 = .ok (.goto (-64), 3) := by decide +kernel
theorem dX9_nextSign_67 : decode cX9_nextSign 67 = .ok (.iconst 0, 1) := by decide +kernel
theorem dX9_nextSign_68 : decode cX9_nextSign 68 = .ok (.ireturn, 1) := by decide +kernel
theorem dX9_signAt_0 : decode cX9_signAt 0 = .ok (.iload_n 1, 1) := by decide +kernel
theorem dX9_signAt_1 : decode cX9_signAt 1 = .ok (.ifCond .lt 29, 3) := by decide +kernel
theorem dX9_signAt_4 : decode cX9_signAt 4 = .ok (.iload_n 1, 1) := by decide +kernel
theorem dX9_signAt_5 : decode cX9_signAt 5 = .ok (.aload_n 0, 1) := by decide +kernel
theorem dX9_signAt_6 : decode cX9_signAt 6 = .ok (.getfield 15, 3) := by decide +kernel
theorem dX9_signAt_9 : decode cX9_signAt 9 = .ok (.if_icmp .ge 21, 3) := by decide +kernel
theorem dX9_signAt_12 : decode cX9_signAt 12 = .ok (.iload_n 1, 1) := by decide +kernel
theorem dX9_signAt_13 : decode cX9_signAt 13 = .ok (.aload_n 0, 1) := by decide +kernel
theorem dX9_signAt_14 : decode cX9_signAt 14 = .ok (.getfield 9, 3) := by decide +kernel
theorem dX9_signAt_17 : decode cX9_signAt 17 = .ok (.arraylength, 1) := by decide +kernel
theorem dX9_signAt_18 : decode cX9_signAt 18 = .ok (.if_icmp .ge 12, 3) := by decide +kernel
theorem dX9_signAt_21 : decode cX9_signAt 21 = .ok (.aload_n 0, 1) := by decide +kernel
theorem dX9_signAt_22 : decode cX9_signAt 22 = .ok (.getfield 9, 3) := by decide +kernel
theorem dX9_signAt_25 : decode cX9_signAt 25 = .ok (.iload_n 1, 1) := by decide +kernel
theorem dX9_signAt_26 : decode cX9_signAt 26 = .ok (.iaload, 1) := by decide +kernel
theorem dX9_signAt_27 : decode cX9_signAt 27 = .ok (.goto 4, 3) := by decide +kernel
theorem dX9_signAt_30 : decode cX9_signAt 30 = .ok (.iconst 0, 1) := by decide +kernel
theorem dX9_signAt_31 : decode cX9_signAt 31 = .ok (.ireturn, 1) := by decide +kernel
theorem dX9_readsNumber_0 : decode cX9_readsNumber 0 = .ok (.aload_n 0, 1) := by decide +kernel
theorem dX9_readsNumber_1 : decode cX9_readsNumber 1 = .ok (.invokevirtual 25, 3) := by decide +kernel
theorem dX9_readsNumber_4 : decode cX9_readsNumber 4 = .ok (.invokestatic 29, 3) := by decide +kernel
theorem dX9_readsNumber_7 : decode cX9_readsNumber 7 = .ok (.ifCond .ne 5, 3) := by decide +kernel
theorem dX9_readsNumber_10 : decode cX9_readsNumber 10 = .ok (.iconst 0, 1) := by decide +kernel
theorem dX9_readsNumber_11 : decode cX9_readsNumber 11 = .ok (.ireturn, 1) := by decide +kernel
theorem dX9_readsNumber_12 : decode cX9_readsNumber 12 = .ok (.aload_n 0, 1) := by decide +kernel
theorem dX9_readsNumber_13 : decode cX9_readsNumber 13 = .ok (.iconst 0, 1) := by decide +kernel
theorem dX9_readsNumber_14 : decode cX9_readsNumber 14 = .ok (.putfield 22, 3) := by decide +kernel
theorem dX9_readsNumber_17 : decode cX9_readsNumber 17 = .ok (.iconst 0, 1) := by decide +kernel
theorem dX9_readsNumber_18 : decode cX9_readsNumber 18 = .ok (.istore 4, 2) := by decide +kernel
theorem dX9_readsNumber_20 : decode cX9_readsNumber 20 = .ok (.iload 4, 2) := by decide +kernel
theorem dX9_readsNumber_22 : decode cX9_readsNumber 22 = .ok (.iload_n 1, 1) := by decide +kernel
theorem dX9_readsNumber_23 : decode cX9_readsNumber 23 = .ok (.if_icmp .ge 56, 3) := by decide +kernel
theorem dX9_readsNumber_26 : decode cX9_readsNumber 26 = .ok (.aload_n 0, 1) := by decide +kernel
theorem dX9_readsNumber_27 : decode cX9_readsNumber 27 = .ok (.aload_n 0, 1) := by decide +kernel
theorem dX9_readsNumber_28 : decode cX9_readsNumber 28 = .ok (.getfield 19, 3) := by decide +kernel
theorem dX9_readsNumber_31 : decode cX9_readsNumber 31 = .ok (.invokevirtual 33, 3) := by decide +kernel
theorem dX9_readsNumber_34 : decode cX9_readsNumber 34 = .ok (.invokestatic 29, 3) := by decide +kernel
theorem dX9_readsNumber_37 : decode cX9_readsNumber 37 = .ok (.ifCond .eq 42, 3) := by decide +kernel
theorem dX9_readsNumber_40 : decode cX9_readsNumber 40 = .ok (.aload_n 0, 1) := by decide +kernel
theorem dX9_readsNumber_41 : decode cX9_readsNumber 41 = .ok (.aload_n 0, 1) := by decide +kernel
theorem dX9_readsNumber_42 : decode cX9_readsNumber 42 = .ok (.getfield 22, 3) := by decide +kernel
theorem dX9_readsNumber_45 : decode cX9_readsNumber 45 = .ok (.bipush 10, 2) := by decide +kernel
theorem dX9_readsNumber_47 : decode cX9_readsNumber 47 = .ok (.imul, 1) := by decide +kernel
theorem dX9_readsNumber_48 : decode cX9_readsNumber 48 = .ok (.aload_n 0, 1) := by decide +kernel
theorem dX9_readsNumber_49 : decode cX9_readsNumber 49 = .ok (.aload_n 0, 1) := by decide +kernel
theorem dX9_readsNumber_50 : decode cX9_readsNumber 50 = .ok (.getfield 19, 3) := by decide +kernel
theorem dX9_readsNumber_53 : decode cX9_readsNumber 53 = .ok (.invokevirtual 33, 3) := by decide +kernel
theorem dX9_readsNumber_56 : decode cX9_readsNumber 56 = .ok (.iadd, 1) := by decide +kernel
theorem dX9_readsNumber_57 : decode cX9_readsNumber 57 = .ok (.bipush 48, 2) := by decide +kernel
theorem dX9_readsNumber_59 : decode cX9_readsNumber 59 = .ok (.isub, 1) := by decide +kernel
theorem dX9_readsNumber_60 : decode cX9_readsNumber 60 = .ok (.putfield 22, 3) := by decide +kernel
theorem dX9_readsNumber_63 : decode cX9_readsNumber 63 = .ok (.aload_n 0, 1) := by decide +kernel
theorem dX9_readsNumber_64 : decode cX9_readsNumber 64 = .ok (.dup, 1) := by decide +kernel
theorem dX9_readsNumber_65 : decode cX9_readsNumber 65 = .ok (.getfield 19, 3) := by decide +kernel
theorem dX9_readsNumber_68 : decode cX9_readsNumber 68 = .ok (.iconst 1, 1) := by decide +kernel
theorem dX9_readsNumber_69 : decode cX9_readsNumber 69 = .ok (.iadd, 1) := by decide +kernel
theorem dX9_readsNumber_70 : decode cX9_readsNumber 70 = .ok (.putfield 19, 3) := by decide +kernel
theorem dX9_readsNumber_73 : decode cX9_readsNumber 73 = .ok (.iinc 4 1, 3) := by decide +kernel
theorem dX9_readsNumber_76 : decode cX9_readsNumber 76 = .ok (.goto (-56), 3) := by decide +kernel
theorem dX9_readsNumber_79 : decode cX9_readsNumber 79 = .ok (.aload_n 0, 1) := by decide +kernel
theorem dX9_readsNumber_80 : decode cX9_readsNumber 80 = .ok (.aload_n 0, 1) := by decide +kernel
theorem dX9_readsNumber_81 : decode cX9_readsNumber 81 = .ok (.getfield 19, 3) := by decide +kernel
theorem dX9_readsNumber_84 : decode cX9_readsNumber 84 = .ok (.invokevirtual 33, 3) := by decide +kernel
theorem dX9_readsNumber_87 : decode cX9_readsNumber 87 = .ok (.invokestatic 29, 3) := by decide +kernel
theorem dX9_readsNumber_90 : decode cX9_readsNumber 90 = .ok (.ifCond .eq 5, 3) := by decide +kernel
theorem dX9_readsNumber_93 : decode cX9_readsNumber 93 = .ok (.iconst 0, 1) := by decide +kernel
theorem dX9_readsNumber_94 : decode cX9_readsNumber 94 = .ok (.ireturn, 1) := by decide +kernel
theorem dX9_readsNumber_95 : decode cX9_readsNumber 95 = .ok (.aload_n 0, 1) := by decide +kernel
theorem dX9_readsNumber_96 : decode cX9_readsNumber 96 = .ok (.getfield 22, 3) := by decide +kernel
theorem dX9_readsNumber_99 : decode cX9_readsNumber 99 = .ok (.iload_n 2, 1) := by decide +kernel
theorem dX9_readsNumber_100 : decode cX9_readsNumber 100 = .ok (.if_icmp .lt 11, 3) := by decide +kernel
theorem dX9_readsNumber_103 : decode cX9_readsNumber 103 = .ok (.aload_n 0, 1) := by decide +kernel
theorem dX9_readsNumber_104 : decode cX9_readsNumber 104 = .ok (.getfield 22, 3) := by decide +kernel
theorem dX9_readsNumber_107 : decode cX9_readsNumber 107 = .ok (.iload_n 3, 1) := by decide +kernel
theorem dX9_readsNumber_108 : decode cX9_readsNumber 108 = .ok (.if_icmp .le 15, 3) := by decide +kernel
theorem dX9_readsNumber_111 : decode cX9_readsNumber 111 = .ok (.aload_n 0, 1) := by decide +kernel
theorem dX9_readsNumber_112 : decode cX9_readsNumber 112 = .ok (.dup, 1) := by decide +kernel
theorem dX9_readsNumber_113 : decode cX9_readsNumber 113 = .ok (.getfield 19, 3) := by decide +kernel
theorem dX9_readsNumber_116 : decode cX9_readsNumber 116 = .ok (.iconst 1, 1) := by decide +kernel
theorem dX9_readsNumber_117 : decode cX9_readsNumber 117 = .ok (.isub, 1) := by decide +kernel
theorem dX9_readsNumber_118 : decode cX9_readsNumber 118 = .ok (.putfield 19, 3) := by decide +kernel
theorem dX9_readsNumber_121 : decode cX9_readsNumber 121 = .ok (.iconst 0, 1) := by decide +kernel
theorem dX9_readsNumber_122 : decode cX9_readsNumber 122 = .ok (.ireturn, 1) := by decide +kernel
theorem dX9_readsNumber_123 : decode cX9_readsNumber 123 = .ok (.iconst 1, 1) := by decide +kernel
theorem dX9_readsNumber_124 : decode cX9_readsNumber 124 = .ok (.ireturn, 1) := by decide +kernel
theorem dX9_number_0 : decode cX9_number 0 = .ok (.aload_n 0, 1) := by decide +kernel
theorem dX9_number_1 : decode cX9_number 1 = .ok (.getfield 22, 3) := by decide +kernel
theorem dX9_number_4 : decode cX9_number 4 = .ok (.ireturn, 1) := by decide +kernel
theorem dX10_init_0 : decode cX10_init 0 = .ok (.aload_n 0, 1) := by decide +kernel
theorem dX10_init_1 : decode cX10_init 1 = .ok (.invokespecial 3, 3) := by decide +kernel
theorem dX10_init_4 : decode cX10_init 4 = .ok (.aload_n 0, 1) := by decide +kernel
theorem dX10_init_5 : decode cX10_init 5 = .ok (.new 9, 3) := by decide +kernel
theorem dX10_init_8 : decode cX10_init 8 = .ok (.dup, 1) := by decide +kernel
theorem dX10_init_9 : decode cX10_init 9 = .ok (.invokespecial 11, 3) := by decide +kernel
theorem dX10_init_12 : decode cX10_init 12 = .ok (.putfield 12, 3) := by decide +kernel
theorem dX10_init_15 : decode cX10_init 15 = .ok (.aload_n 0, 1) := by decide +kernel
theorem dX10_init_16 : decode cX10_init 16 = .ok (.new 18, 3) := by decide +kernel
theorem dX10_init_19 : decode cX10_init 19 = .ok (.dup, 1) := by decide +kernel
theorem dX10_init_20 : decode cX10_init 20 = .ok (.bipush 10, 2) := by decide +kernel
theorem dX10_init_22 : decode cX10_init 22 = .ok (.invokespecial 20, 3) := by decide +kernel
theorem dX10_init_25 : decode cX10_init 25 = .ok (.putfield 23, 3) := by decide +kernel
theorem dX10_init_28 : decode cX10_init 28 = .ok (.aload_n 0, 1) := by decide +kernel
theorem dX10_init_29 : decode cX10_init 29 = .ok (.new 18, 3) := by decide +kernel
theorem dX10_init_32 : decode cX10_init 32 = .ok (.dup, 1) := by decide +kernel
theorem dX10_init_33 : decode cX10_init 33 = .ok (.bipush 10, 2) := by decide +kernel
theorem dX10_init_35 : decode cX10_init 35 = .ok (.invokespecial 20, 3) := by decide +kernel
theorem dX10_init_38 : decode cX10_init 38 = .ok (.putfield 27, 3) := by decide +kernel
theorem dX10_init_41 : decode cX10_init 41 = .ok (.aload_n 0, 1) := by decide +kernel
theorem dX10_init_42 : decode cX10_init 42 = .ok (.new 18, 3) := by decide +kernel
theorem dX10_init_45 : decode cX10_init 45 = .ok (.dup, 1) := by decide +kernel
theorem dX10_init_46 : decode cX10_init 46 = .ok (.bipush 10, 2) := by decide +kernel
theorem dX10_init_48 : decode cX10_init 48 = .ok (.invokespecial 20, 3) := by decide +kernel
theorem dX10_init_51 : decode cX10_init 51 = .ok (.putfield 30, 3) := by decide +kernel
theorem dX10_init_54 : decode cX10_init 54 = .ok (.aload_n 0, 1) := by decide +kernel
theorem dX10_init_55 : decode cX10_init 55 = .ok (.new 18, 3) := by decide +kernel
theorem dX10_init_58 : decode cX10_init 58 = .ok (.dup, 1) := by decide +kernel
theorem dX10_init_59 : decode cX10_init 59 = .ok (.sipush 366, 3) := by decide +kernel
theorem dX10_init_62 : decode cX10_init 62 = .ok (.invokespecial 20, 3) := by decide +kernel
theorem dX10_init_65 : decode cX10_init 65 = .ok (.putfield 33, 3) := by decide +kernel
theorem dX10_init_68 : decode cX10_init 68 = .ok (.aload_n 0, 1) := by decide +kernel
theorem dX10_init_69 : decode cX10_init 69 = .ok (.iconst 0, 1) := by decide +kernel
theorem dX10_init_70 : decode cX10_init 70 = .ok (.putfield 36, 3) := by decide +kernel
theorem dX10_init_73 : decode cX10_init 73 = .ok (.aload_n 0, 1) := by decide +kernel
theorem dX10_init_74 : decode cX10_init 74 = .ok (.aload_n 1, 1) := by decide +kernel
theorem dX10_init_75 : decode cX10_init 75 = .ok (.putfield 40, 3) := by decide +kernel
theorem dX10_init_78 : decode cX10_init 78 = .ok (.aload_n 0, 1) := by decide +kernel
theorem dX10_init_79 : decode cX10_init 79 = .ok (.aload_n 2, 1) := by decide +kernel
theorem dX10_init_80 : decode cX10_init 80 = .ok (.putfield 44, 3) := by decide +kernel
theorem dX10_init_83 : decode cX10_init 83 = .ok (.return_, 1) := by decide +kernel
theorem dX10_size_0 : decode cX10_size 0 = .ok (.aload_n 0, 1) := by decide +kernel
theorem dX10_size_1 : decode cX10_size 1 = .ok (.getfield 36, 3) := by decide +kernel
theorem dX10_size_4 : decode cX10_size 4 = .ok (.ireturn, 1) := by decide +kernel
theorem dX10_isFull_0 : decode cX10_isFull 0 = .ok (.aload_n 0, 1) := by decide +kernel
theorem dX10_isFull_1 : decode cX10_isFull 1 = .ok (.getfield 36, 3) := by decide +kernel
theorem dX10_isFull_4 : decode cX10_isFull 4 = .ok (.bipush 10, 2) := by decide +kernel
theorem dX10_isFull_6 : decode cX10_isFull 6 = .ok (.if_icmp .lt 7, 3) := by decide +kernel
theorem dX10_isFull_9 : decode cX10_isFull 9 = .ok (.iconst 1, 1) := by decide +kernel
theorem dX10_isFull_10 : decode cX10_isFull 10 = .ok (.goto 4, 3) := by decide +kernel
theorem dX10_isFull_13 : decode cX10_isFull 13 = .ok (.iconst 0, 1) := by decide +kernel
theorem dX10_isFull_14 : decode cX10_isFull 14 = .ok (.ireturn, 1) := by decide +kernel
theorem dX10_forget_0 : decode cX10_forget 0 = .ok (.aload_n 0, 1) := by decide +kernel
theorem dX10_forget_1 : decode cX10_forget 1 = .ok (.iconst 0, 1) := by decide +kernel
theorem dX10_forget_2 : decode cX10_forget 2 = .ok (.putfield 36, 3) := by decide +kernel
theorem dX10_forget_5 : decode cX10_forget 5 = .ok (.return_, 1) := by decide +kernel
theorem dX10_note_0 : decode cX10_note 0 = .ok (.aload_n 0, 1) := by decide +kernel
theorem dX10_note_1 : decode cX10_note 1 = .ok (.getfield 23, 3) := by decide +kernel
theorem dX10_note_4 : decode cX10_note 4 = .ok (.aload_n 0, 1) := by decide +kernel
theorem dX10_note_5 : decode cX10_note 5 = .ok (.getfield 36, 3) := by decide +kernel
theorem dX10_note_8 : decode cX10_note 8 = .ok (.iload_n 1, 1) := by decide +kernel
theorem dX10_note_9 : decode cX10_note 9 = .ok (.invokevirtual 48, 3) := by decide +kernel
theorem dX10_note_12 : decode cX10_note 12 = .ok (.aload_n 0, 1) := by decide +kernel
theorem dX10_note_13 : decode cX10_note 13 = .ok (.getfield 27, 3) := by decide +kernel
theorem dX10_note_16 : decode cX10_note 16 = .ok (.aload_n 0, 1) := by decide +kernel
theorem dX10_note_17 : decode cX10_note 17 = .ok (.getfield 36, 3) := by decide +kernel
theorem dX10_note_20 : decode cX10_note 20 = .ok (.iload_n 2, 1) := by decide +kernel
theorem dX10_note_21 : decode cX10_note 21 = .ok (.invokevirtual 48, 3) := by decide +kernel
theorem dX10_note_24 : decode cX10_note 24 = .ok (.aload_n 0, 1) := by decide +kernel
theorem dX10_note_25 : decode cX10_note 25 = .ok (.getfield 30, 3) := by decide +kernel
theorem dX10_note_28 : decode cX10_note 28 = .ok (.aload_n 0, 1) := by decide +kernel
theorem dX10_note_29 : decode cX10_note 29 = .ok (.getfield 36, 3) := by decide +kernel
theorem dX10_note_32 : decode cX10_note 32 = .ok (.iload_n 3, 1) := by decide +kernel
theorem dX10_note_33 : decode cX10_note 33 = .ok (.ifCond .eq 7, 3) := by decide +kernel
theorem dX10_note_36 : decode cX10_note 36 = .ok (.iconst 1, 1) := by decide +kernel
theorem dX10_note_37 : decode cX10_note 37 = .ok (.goto 4, 3) := by decide +kernel
theorem dX10_note_40 : decode cX10_note 40 = .ok (.iconst 0, 1) := by decide +kernel
theorem dX10_note_41 : decode cX10_note 41 = .ok (.invokevirtual 48, 3) := by decide +kernel
theorem dX10_note_44 : decode cX10_note 44 = .ok (.aload_n 0, 1) := by decide +kernel
theorem dX10_note_45 : decode cX10_note 45 = .ok (.dup, 1) := by decide +kernel
theorem dX10_note_46 : decode cX10_note 46 = .ok (.getfield 36, 3) := by decide +kernel
theorem dX10_note_49 : decode cX10_note 49 = .ok (.iconst 1, 1) := by decide +kernel
theorem dX10_note_50 : decode cX10_note 50 = .ok (.iadd, 1) := by decide +kernel
theorem dX10_note_51 : decode cX10_note 51 = .ok (.putfield 36, 3) := by decide +kernel
theorem dX10_note_54 : decode cX10_note 54 = .ok (.return_, 1) := by decide +kernel
theorem dX10_possibleHabits_0 : decode cX10_possibleHabits 0 = .ok (.iconst 0, 1) := by decide +kernel
theorem dX10_possibleHabits_1 : decode cX10_possibleHabits 1 = .ok (.istore_n 2, 1) := by decide +kernel
theorem dX10_possibleHabits_2 : decode cX10_possibleHabits 2 = .ok (.iconst 0, 1) := by decide +kernel
theorem dX10_possibleHabits_3 : decode cX10_possibleHabits 3 = .ok (.istore_n 3, 1) := by decide +kernel
theorem dX10_possibleHabits_4 : decode cX10_possibleHabits 4 = .ok (.iload_n 3, 1) := by decide +kernel
theorem dX10_possibleHabits_5 : decode cX10_possibleHabits 5 = .ok (.aload_n 0, 1) := by decide +kernel
theorem dX10_possibleHabits_6 : decode cX10_possibleHabits 6 = .ok (.getfield 36, 3) := by decide +kernel
theorem dX10_possibleHabits_9 : decode cX10_possibleHabits 9 = .ok (.if_icmp .ge 22, 3) := by decide +kernel
theorem dX10_possibleHabits_12 : decode cX10_possibleHabits 12 = .ok (.iload_n 2, 1) := by decide +kernel
theorem dX10_possibleHabits_13 : decode cX10_possibleHabits 13 = .ok (.aload_n 0, 1) := by decide +kernel
theorem dX10_possibleHabits_14 : decode cX10_possibleHabits 14 = .ok (.getfield 23, 3) := by decide +kernel
theorem dX10_possibleHabits_17 : decode cX10_possibleHabits 17 = .ok (.iload_n 3, 1) := by decide +kernel
theorem dX10_possibleHabits_18 : decode cX10_possibleHabits 18 = .ok (.invokevirtual 52, 3) := by decide +kernel
theorem dX10_possibleHabits_21 : decode cX10_possibleHabits 21 = .ok (.invokestatic 56, 3) := by decide +kernel
theorem dX10_possibleHabits_24 : decode cX10_possibleHabits 24 = .ok (.istore_n 2, 1) := by decide +kernel
theorem dX10_possibleHabits_25 : decode cX10_possibleHabits 25 = .ok (.iinc 3 1, 3) := by decide +kernel
theorem dX10_possibleHabits_28 : decode cX10_possibleHabits 28 = .ok (.goto (-24), 3) := by decide +kernel
theorem dX10_possibleHabits_31 : decode cX10_possibleHabits 31 = .ok (.aload_n 0, 1) := by decide +kernel
theorem dX10_possibleHabits_32 : decode cX10_possibleHabits 32 = .ok (.iload_n 1, 1) := by decide +kernel
theorem dX10_possibleHabits_33 : decode cX10_possibleHabits 33 = .ok (.iload_n 2, 1) := by decide +kernel
theorem dX10_possibleHabits_34 : decode cX10_possibleHabits 34 = .ok (.invokevirtual 62, 3) := by decide +kernel
theorem dX10_possibleHabits_37 : decode cX10_possibleHabits 37 = .ok (.ireturn, 1) := by decide +kernel
theorem dX10_bestQuestion_0 : decode cX10_bestQuestion 0 = .ok (.aload_n 0, 1) := by decide +kernel
theorem dX10_bestQuestion_1 : decode cX10_bestQuestion 1 = .ok (.iload_n 1, 1) := by decide +kernel
theorem dX10_bestQuestion_2 : decode cX10_bestQuestion 2 = .ok (.bipush 60, 2) := by decide +kernel
theorem dX10_bestQuestion_4 : decode cX10_bestQuestion 4 = .ok (.invokevirtual 62, 3) := by decide +kernel
theorem dX10_bestQuestion_7 : decode cX10_bestQuestion 7 = .ok (.istore_n 2, 1) := by decide +kernel
theorem dX10_bestQuestion_8 : decode cX10_bestQuestion 8 = .ok (.iconst (-1), 1) := by decide +kernel
theorem dX10_bestQuestion_9 : decode cX10_bestQuestion 9 = .ok (.istore_n 3, 1) := by decide +kernel
theorem dX10_bestQuestion_10 : decode cX10_bestQuestion 10 = .ok (.bipush 7, 2) := by decide +kernel
theorem dX10_bestQuestion_12 : decode cX10_bestQuestion 12 = .ok (.istore 4, 2) := by decide +kernel
theorem dX10_bestQuestion_14 : decode cX10_bestQuestion 14 = .ok (.iconst 1, 1) := by decide +kernel
theorem dX10_bestQuestion_15 : decode cX10_bestQuestion 15 = .ok (.istore 5, 2) := by decide +kernel
theorem dX10_bestQuestion_17 : decode cX10_bestQuestion 17 = .ok (.iload 5, 2) := by decide +kernel
theorem dX10_bestQuestion_19 : decode cX10_bestQuestion 19 = .ok (.bipush 60, 2) := by decide +kernel
theorem dX10_bestQuestion_21 : decode cX10_bestQuestion 21 = .ok (.if_icmp .gt 37, 3) := by decide +kernel
theorem dX10_bestQuestion_24 : decode cX10_bestQuestion 24 = .ok (.aload_n 0, 1) := by decide +kernel
theorem dX10_bestQuestion_25 : decode cX10_bestQuestion 25 = .ok (.iload_n 2, 1) := by decide +kernel
theorem dX10_bestQuestion_26 : decode cX10_bestQuestion 26 = .ok (.iload 5, 2) := by decide +kernel
theorem dX10_bestQuestion_28 : decode cX10_bestQuestion 28 = .ok (.invokevirtual 65, 3) := by decide +kernel
theorem dX10_bestQuestion_31 : decode cX10_bestQuestion 31 = .ok (.istore 6, 2) := by decide +kernel
theorem dX10_bestQuestion_33 : decode cX10_bestQuestion 33 = .ok (.iload 6, 2) := by decide +kernel
theorem dX10_bestQuestion_35 : decode cX10_bestQuestion 35 = .ok (.ifCond .le 17, 3) := by decide +kernel
theorem dX10_bestQuestion_38 : decode cX10_bestQuestion 38 = .ok (.iload 6, 2) := by decide +kernel
theorem dX10_bestQuestion_40 : decode cX10_bestQuestion 40 = .ok (.iload 4, 2) := by decide +kernel
theorem dX10_bestQuestion_42 : decode cX10_bestQuestion 42 = .ok (.if_icmp .ge 10, 3) := by decide +kernel
theorem dX10_bestQuestion_45 : decode cX10_bestQuestion 45 = .ok (.iload 6, 2) := by decide +kernel
theorem dX10_bestQuestion_47 : decode cX10_bestQuestion 47 = .ok (.istore 4, 2) := by decide +kernel
theorem dX10_bestQuestion_49 : decode cX10_bestQuestion 49 = .ok (.iload 5, 2) := by decide +kernel
theorem dX10_bestQuestion_51 : decode cX10_bestQuestion 51 = .ok (.istore_n 3, 1) := by decide +kernel
theorem dX10_bestQuestion_52 : decode cX10_bestQuestion 52 = .ok (.iinc 5 1, 3) := by decide +kernel
theorem dX10_bestQuestion_55 : decode cX10_bestQuestion 55 = .ok (.goto (-38), 3) := by decide +kernel
theorem dX10_bestQuestion_58 : decode cX10_bestQuestion 58 = .ok (.iload_n 3, 1) := by decide +kernel
theorem dX10_bestQuestion_59 : decode cX10_bestQuestion 59 = .ok (.ireturn, 1) := by decide +kernel
theorem dX10_mostAlike_0 : decode cX10_mostAlike 0 = .ok (.iconst 0, 1) := by decide +kernel
theorem dX10_mostAlike_1 : decode cX10_mostAlike 1 = .ok (.istore_n 3, 1) := by decide +kernel
theorem dX10_mostAlike_2 : decode cX10_mostAlike 2 = .ok (.iconst 0, 1) := by decide +kernel
theorem dX10_mostAlike_3 : decode cX10_mostAlike 3 = .ok (.istore 4, 2) := by decide +kernel
theorem dX10_mostAlike_5 : decode cX10_mostAlike 5 = .ok (.iload 4, 2) := by decide +kernel
theorem dX10_mostAlike_7 : decode cX10_mostAlike 7 = .ok (.bipush 6, 2) := by decide +kernel
theorem dX10_mostAlike_9 : decode cX10_mostAlike 9 = .ok (.if_icmp .ge 92, 3) := by decide +kernel
theorem dX10_mostAlike_12 : decode cX10_mostAlike 12 = .ok (.iconst 0, 1) := by decide +kernel
theorem dX10_mostAlike_13 : decode cX10_mostAlike 13 = .ok (.istore 5, 2) := by decide +kernel
theorem dX10_mostAlike_15 : decode cX10_mostAlike 15 = .ok (.iconst 0, 1) := by decide +kernel
theorem dX10_mostAlike_16 : decode cX10_mostAlike 16 = .ok (.istore 6, 2) := by decide +kernel
theorem dX10_mostAlike_18 : decode cX10_mostAlike 18 = .ok (.iload_n 1, 1) := by decide +kernel
theorem dX10_mostAlike_19 : decode cX10_mostAlike 19 = .ok (.iload 4, 2) := by decide +kernel
theorem dX10_mostAlike_21 : decode cX10_mostAlike 21 = .ok (.invokestatic 68, 3) := by decide +kernel
theorem dX10_mostAlike_24 : decode cX10_mostAlike 24 = .ok (.ifCond .eq 64, 3) := by decide +kernel
theorem dX10_mostAlike_27 : decode cX10_mostAlike 27 = .ok (.iload 6, 2) := by decide +kernel
theorem dX10_mostAlike_29 : decode cX10_mostAlike 29 = .ok (.bipush 6, 2) := by decide +kernel
theorem dX10_mostAlike_31 : decode cX10_mostAlike 31 = .ok (.if_icmp .ge 57, 3) := by decide +kernel
theorem dX10_mostAlike_34 : decode cX10_mostAlike 34 = .ok (.aload_n 0, 1) := by decide +kernel
theorem dX10_mostAlike_35 : decode cX10_mostAlike 35 = .ok (.iload 4, 2) := by decide +kernel
theorem dX10_mostAlike_37 : decode cX10_mostAlike 37 = .ok (.iload_n 2, 1) := by decide +kernel
theorem dX10_mostAlike_38 : decode cX10_mostAlike 38 = .ok (.invokevirtual 72, 3) := by decide +kernel
theorem dX10_mostAlike_41 : decode cX10_mostAlike 41 = .ok (.aload_n 0, 1) := by decide +kernel
theorem dX10_mostAlike_42 : decode cX10_mostAlike 42 = .ok (.iload 6, 2) := by decide +kernel
theorem dX10_mostAlike_44 : decode cX10_mostAlike 44 = .ok (.iload_n 2, 1) := by decide +kernel
theorem dX10_mostAlike_45 : decode cX10_mostAlike 45 = .ok (.invokevirtual 72, 3) := by decide +kernel
theorem dX10_mostAlike_48 : decode cX10_mostAlike 48 = .ok (.if_icmp .ne 7, 3) := by decide +kernel
theorem dX10_mostAlike_51 : decode cX10_mostAlike 51 = .ok (.iconst 1, 1) := by decide +kernel
theorem dX10_mostAlike_52 : decode cX10_mostAlike 52 = .ok (.goto 4, 3) := by decide +kernel
theorem dX10_mostAlike_55 : decode cX10_mostAlike 55 = .ok (.iconst 0, 1) := by decide +kernel
theorem dX10_mostAlike_56 : decode cX10_mostAlike 56 = .ok (.istore 7, 2) := by decide +kernel
theorem dX10_mostAlike_58 : decode cX10_mostAlike 58 = .ok (.iload 5, 2) := by decide +kernel
theorem dX10_mostAlike_60 : decode cX10_mostAlike 60 = .ok (.iload_n 1, 1) := by decide +kernel
theorem dX10_mostAlike_61 : decode cX10_mostAlike 61 = .ok (.iload 6, 2) := by decide +kernel
theorem dX10_mostAlike_63 : decode cX10_mostAlike 63 = .ok (.invokestatic 68, 3) := by decide +kernel
theorem dX10_mostAlike_66 : decode cX10_mostAlike 66 = .ok (.ifCond .eq 12, 3) := by decide +kernel
theorem dX10_mostAlike_69 : decode cX10_mostAlike 69 = .ok (.iload 7, 2) := by decide +kernel
theorem dX10_mostAlike_71 : decode cX10_mostAlike 71 = .ok (.ifCond .eq 7, 3) := by decide +kernel
theorem dX10_mostAlike_74 : decode cX10_mostAlike 74 = .ok (.iconst 1, 1) := by decide +kernel
theorem dX10_mostAlike_75 : decode cX10_mostAlike 75 = .ok (.goto 4, 3) := by decide +kernel
theorem dX10_mostAlike_78 : decode cX10_mostAlike 78 = .ok (.iconst 0, 1) := by decide +kernel
theorem dX10_mostAlike_79 : decode cX10_mostAlike 79 = .ok (.iadd, 1) := by decide +kernel
theorem dX10_mostAlike_80 : decode cX10_mostAlike 80 = .ok (.istore 5, 2) := by decide +kernel
theorem dX10_mostAlike_82 : decode cX10_mostAlike 82 = .ok (.iinc 6 1, 3) := by decide +kernel
theorem dX10_mostAlike_85 : decode cX10_mostAlike 85 = .ok (.goto (-67), 3) := by decide +kernel
theorem dX10_mostAlike_88 : decode cX10_mostAlike 88 = .ok (.iload_n 3, 1) := by decide +kernel
theorem dX10_mostAlike_89 : decode cX10_mostAlike 89 = .ok (.iload 5, 2) := by decide +kernel
theorem dX10_mostAlike_91 : decode cX10_mostAlike 91 = .ok (.invokestatic 56, 3) := by decide +kernel
theorem dX10_mostAlike_94 : decode cX10_mostAlike 94 = .ok (.istore_n 3, 1) := by decide +kernel
theorem dX10_mostAlike_95 : decode cX10_mostAlike 95 = .ok (.iinc 4 1, 3) := by decide +kernel
theorem dX10_mostAlike_98 : decode cX10_mostAlike 98 = .ok (.goto (-93), 3) := by decide +kernel
theorem dX10_mostAlike_101 : decode cX10_mostAlike 101 = .ok (.iload_n 3, 1) := by decide +kernel
theorem dX10_mostAlike_102 : decode cX10_mostAlike 102 = .ok (.ireturn, 1) := by decide +kernel
theorem dX10_followAll_0 : decode cX10_followAll 0 = .ok (.iconst 0, 1) := by decide +kernel
theorem dX10_followAll_1 : decode cX10_followAll 1 = .ok (.istore_n 3, 1) := by decide +kernel
theorem dX10_followAll_2 : decode cX10_followAll 2 = .ok (.iconst 0, 1) := by decide +kernel
theorem dX10_followAll_3 : decode cX10_followAll 3 = .ok (.istore 4, 2) := by decide +kernel
theorem dX10_followAll_5 : decode cX10_followAll 5 = .ok (.iload 4, 2) := by decide +kernel
theorem dX10_followAll_7 : decode cX10_followAll 7 = .ok (.aload_n 0, 1) := by decide +kernel
theorem dX10_followAll_8 : decode cX10_followAll 8 = .ok (.getfield 40, 3) := by decide +kernel
theorem dX10_followAll_11 : decode cX10_followAll 11 = .ok (.invokevirtual 75, 3) := by decide +kernel
theorem dX10_followAll_14 : decode cX10_followAll 14 = .ok (.if_icmp .ge 103, 3) := by decide +kernel
theorem dX10_followAll_17 : decode cX10_followAll 17 = .ok (.aload_n 0, 1) := by decide +kernel
theorem dX10_followAll_18 : decode cX10_followAll 18 = .ok (.getfield 12, 3) := by decide +kernel
theorem dX10_followAll_21 : decode cX10_followAll 21 = .ok (.aload_n 0, 1) := by decide +kernel
theorem dX10_followAll_22 : decode cX10_followAll 22 = .ok (.getfield 40, 3) := by decide +kernel
theorem dX10_followAll_25 : decode cX10_followAll 25 = .ok (.invokevirtual 81, 3) := by decide +kernel
theorem dX10_followAll_28 : decode cX10_followAll 28 = .ok (.aload_n 0, 1) := by decide +kernel
theorem dX10_followAll_29 : decode cX10_followAll 29 = .ok (.getfield 12, 3) := by decide +kernel
theorem dX10_followAll_32 : decode cX10_followAll 32 = .ok (.iconst 0, 1) := by decide +kernel
theorem dX10_followAll_33 : decode cX10_followAll 33 = .ok (.iload_n 1, 1) := by decide +kernel
theorem dX10_followAll_34 : decode cX10_followAll 34 = .ok (.iadd, 1) := by decide +kernel
theorem dX10_followAll_35 : decode cX10_followAll 35 = .ok (.iload 4, 2) := by decide +kernel
theorem dX10_followAll_37 : decode cX10_followAll 37 = .ok (.invokevirtual 85, 3) := by decide +kernel
theorem dX10_followAll_40 : decode cX10_followAll 40 = .ok (.iconst 1, 1) := by decide +kernel
theorem dX10_followAll_41 : decode cX10_followAll 41 = .ok (.istore 5, 2) := by decide +kernel
theorem dX10_followAll_43 : decode cX10_followAll 43 = .ok (.iload 5, 2) := by decide +kernel
theorem dX10_followAll_45 : decode cX10_followAll 45 = .ok (.iload_n 2, 1) := by decide +kernel
theorem dX10_followAll_46 : decode cX10_followAll 46 = .ok (.if_icmp .gt 45, 3) := by decide +kernel
theorem dX10_followAll_49 : decode cX10_followAll 49 = .ok (.aload_n 0, 1) := by decide +kernel
theorem dX10_followAll_50 : decode cX10_followAll 50 = .ok (.getfield 44, 3) := by decide +kernel
theorem dX10_followAll_53 : decode cX10_followAll 53 = .ok (.aload_n 0, 1) := by decide +kernel
theorem dX10_followAll_54 : decode cX10_followAll 54 = .ok (.getfield 12, 3) := by decide +kernel
theorem dX10_followAll_57 : decode cX10_followAll 57 = .ok (.invokevirtual 86, 3) := by decide +kernel
theorem dX10_followAll_60 : decode cX10_followAll 60 = .ok (.aload_n 0, 1) := by decide +kernel
theorem dX10_followAll_61 : decode cX10_followAll 61 = .ok (.getfield 33, 3) := by decide +kernel
theorem dX10_followAll_64 : decode cX10_followAll 64 = .ok (.iload 4, 2) := by decide +kernel
theorem dX10_followAll_66 : decode cX10_followAll 66 = .ok (.bipush 61, 2) := by decide +kernel
theorem dX10_followAll_68 : decode cX10_followAll 68 = .ok (.imul, 1) := by decide +kernel
theorem dX10_followAll_69 : decode cX10_followAll 69 = .ok (.iload 5, 2) := by decide +kernel
theorem dX10_followAll_71 : decode cX10_followAll 71 = .ok (.iadd, 1) := by decide +kernel
theorem dX10_followAll_72 : decode cX10_followAll 72 = .ok (.aload_n 0, 1) := by decide +kernel
theorem dX10_followAll_73 : decode cX10_followAll 73 = .ok (.getfield 12, 3) := by decide +kernel
theorem dX10_followAll_76 : decode cX10_followAll 76 = .ok (.sipush 142, 3) := by decide +kernel
theorem dX10_followAll_79 : decode cX10_followAll 79 = .ok (.invokevirtual 92, 3) := by decide +kernel
theorem dX10_followAll_82 : decode cX10_followAll 82 = .ok (.invokevirtual 48, 3) := by decide +kernel
theorem dX10_followAll_85 : decode cX10_followAll 85 = .ok (.iinc 5 1, 3) := by decide +kernel
theorem dX10_followAll_88 : decode cX10_followAll 88 = .ok (.goto (-45), 3) := by decide +kernel
theorem dX10_followAll_91 : decode cX10_followAll 91 = .ok (.iload_n 3, 1) := by decide +kernel
theorem dX10_followAll_92 : decode cX10_followAll 92 = .ok (.aload_n 0, 1) := by decide +kernel
theorem dX10_followAll_93 : decode cX10_followAll 93 = .ok (.iload 4, 2) := by decide +kernel
theorem dX10_followAll_95 : decode cX10_followAll 95 = .ok (.invokevirtual 93, 3) := by decide +kernel
theorem dX10_followAll_98 : decode cX10_followAll 98 = .ok (.ifCond .eq 10, 3) := by decide +kernel
theorem dX10_followAll_101 : decode cX10_followAll 101 = .ok (.iconst 1, 1) := by decide +kernel
theorem dX10_followAll_102 : decode cX10_followAll 102 = .ok (.iload 4, 2) := by decide +kernel
theorem dX10_followAll_104 : decode cX10_followAll 104 = .ok (.ishl, 1) := by decide +kernel
theorem dX10_followAll_105 : decode cX10_followAll 105 = .ok (.goto 4, 3) := by decide +kernel
theorem dX10_followAll_108 : decode cX10_followAll 108 = .ok (.iconst 0, 1) := by decide +kernel
theorem dX10_followAll_109 : decode cX10_followAll 109 = .ok (.ior, 1) := by decide +kernel
theorem dX10_followAll_110 : decode cX10_followAll 110 = .ok (.istore_n 3, 1) := by decide +kernel
theorem dX10_followAll_111 : decode cX10_followAll 111 = .ok (.iinc 4 1, 3) := by decide +kernel
theorem dX10_followAll_114 : decode cX10_followAll 114 = .ok (.goto (-109), 3) := by decide +kernel
theorem dX10_followAll_117 : decode cX10_followAll 117 = .ok (.iload_n 3, 1) := by decide +kernel
theorem dX10_followAll_118 : decode cX10_followAll 118 = .ok (.ireturn, 1) := by decide +kernel
theorem dX10_fits_0 : decode cX10_fits 0 = .ok (.iconst 0, 1) := by decide +kernel
theorem dX10_fits_1 : decode cX10_fits 1 = .ok (.istore_n 2, 1) := by decide +kernel
theorem dX10_fits_2 : decode cX10_fits 2 = .ok (.iload_n 2, 1) := by decide +kernel
theorem dX10_fits_3 : decode cX10_fits 3 = .ok (.aload_n 0, 1) := by decide +kernel
theorem dX10_fits_4 : decode cX10_fits 4 = .ok (.getfield 36, 3) := by decide +kernel
theorem dX10_fits_7 : decode cX10_fits 7 = .ok (.if_icmp .ge 62, 3) := by decide +kernel
theorem dX10_fits_10 : decode cX10_fits 10 = .ok (.aload_n 0, 1) := by decide +kernel
theorem dX10_fits_11 : decode cX10_fits 11 = .ok (.iload_n 1, 1) := by decide +kernel
theorem dX10_fits_12 : decode cX10_fits 12 = .ok (.aload_n 0, 1) := by decide +kernel
theorem dX10_fits_13 : decode cX10_fits 13 = .ok (.getfield 23, 3) := by decide +kernel
theorem dX10_fits_16 : decode cX10_fits 16 = .ok (.iload_n 2, 1) := by decide +kernel
theorem dX10_fits_17 : decode cX10_fits 17 = .ok (.invokevirtual 52, 3) := by decide +kernel
theorem dX10_fits_20 : decode cX10_fits 20 = .ok (.invokevirtual 72, 3) := by decide +kernel
theorem dX10_fits_23 : decode cX10_fits 23 = .ok (.aload_n 0, 1) := by decide +kernel
theorem dX10_fits_24 : decode cX10_fits 24 = .ok (.getfield 27, 3) := by decide +kernel
theorem dX10_fits_27 : decode cX10_fits 27 = .ok (.iload_n 2, 1) := by decide +kernel
theorem dX10_fits_28 : decode cX10_fits 28 = .ok (.invokevirtual 52, 3) := by decide +kernel
theorem dX10_fits_31 : decode cX10_fits 31 = .ok (.if_icmp .lt 7, 3) := by decide +kernel
theorem dX10_fits_34 : decode cX10_fits 34 = .ok (.iconst 1, 1) := by decide +kernel
theorem dX10_fits_35 : decode cX10_fits 35 = .ok (.goto 4, 3) := by decide +kernel
theorem dX10_fits_38 : decode cX10_fits 38 = .ok (.iconst 0, 1) := by decide +kernel
theorem dX10_fits_39 : decode cX10_fits 39 = .ok (.istore_n 3, 1) := by decide +kernel
theorem dX10_fits_40 : decode cX10_fits 40 = .ok (.iload_n 3, 1) := by decide +kernel
theorem dX10_fits_41 : decode cX10_fits 41 = .ok (.aload_n 0, 1) := by decide +kernel
theorem dX10_fits_42 : decode cX10_fits 42 = .ok (.getfield 30, 3) := by decide +kernel
theorem dX10_fits_45 : decode cX10_fits 45 = .ok (.iload_n 2, 1) := by decide +kernel
theorem dX10_fits_46 : decode cX10_fits 46 = .ok (.invokevirtual 52, 3) := by decide +kernel
theorem dX10_fits_49 : decode cX10_fits 49 = .ok (.iconst 1, 1) := by decide +kernel
theorem dX10_fits_50 : decode cX10_fits 50 = .ok (.if_icmp .ne 7, 3) := by decide +kernel
theorem dX10_fits_53 : decode cX10_fits 53 = .ok (.iconst 1, 1) := by decide +kernel
theorem dX10_fits_54 : decode cX10_fits 54 = .ok (.goto 4, 3) := by decide +kernel
theorem dX10_fits_57 : decode cX10_fits 57 = .ok (.iconst 0, 1) := by decide +kernel
theorem dX10_fits_58 : decode cX10_fits 58 = .ok (.if_icmp .eq 5, 3) := by decide +kernel
theorem dX10_fits_61 : decode cX10_fits 61 = .ok (.iconst 0, 1) := by decide +kernel
theorem dX10_fits_62 : decode cX10_fits 62 = .ok (.ireturn, 1) := by decide +kernel
theorem dX10_fits_63 : decode cX10_fits 63 = .ok (.iinc 2 1, 3) := by decide +kernel
theorem dX10_fits_66 : decode cX10_fits 66 = .ok (.goto (-64), 3) := by decide +kernel
theorem dX10_fits_69 : decode cX10_fits 69 = .ok (.iconst 1, 1) := by decide +kernel
theorem dX10_fits_70 : decode cX10_fits 70 = .ok (.ireturn, 1) := by decide +kernel
theorem dX10_treasuryOf_0 : decode cX10_treasuryOf 0 = .ok (.aload_n 0, 1) := by decide +kernel
theorem dX10_treasuryOf_1 : decode cX10_treasuryOf 1 = .ok (.getfield 33, 3) := by decide +kernel
theorem dX10_treasuryOf_4 : decode cX10_treasuryOf 4 = .ok (.iload_n 1, 1) := by decide +kernel
theorem dX10_treasuryOf_5 : decode cX10_treasuryOf 5 = .ok (.bipush 61, 2) := by decide +kernel
theorem dX10_treasuryOf_7 : decode cX10_treasuryOf 7 = .ok (.imul, 1) := by decide +kernel
theorem dX10_treasuryOf_8 : decode cX10_treasuryOf 8 = .ok (.iload_n 2, 1) := by decide +kernel
theorem dX10_treasuryOf_9 : decode cX10_treasuryOf 9 = .ok (.iadd, 1) := by decide +kernel
theorem dX10_treasuryOf_10 : decode cX10_treasuryOf 10 = .ok (.invokevirtual 52, 3) := by decide +kernel
theorem dX10_treasuryOf_13 : decode cX10_treasuryOf 13 = .ok (.ireturn, 1) := by decide +kernel
theorem dX11_init_0 : decode cX11_init 0 = .ok (.aload_n 0, 1) := by decide +kernel
theorem dX11_init_1 : decode cX11_init 1 = .ok (.invokespecial 1, 3) := by decide +kernel
theorem dX11_init_4 : decode cX11_init 4 = .ok (.aload_n 0, 1) := by decide +kernel
theorem dX11_init_5 : decode cX11_init 5 = .ok (.new 7, 3) := by decide +kernel
theorem dX11_init_8 : decode cX11_init 8 = .ok (.dup, 1) := by decide +kernel
theorem dX11_init_9 : decode cX11_init 9 = .ok (.invokespecial 9, 3) := by decide +kernel
theorem dX11_init_12 : decode cX11_init 12 = .ok (.putfield 10, 3) := by decide +kernel
theorem dX11_init_15 : decode cX11_init 15 = .ok (.aload_n 0, 1) := by decide +kernel
theorem dX11_init_16 : decode cX11_init 16 = .ok (.new 16, 3) := by decide +kernel
theorem dX11_init_19 : decode cX11_init 19 = .ok (.dup, 1) := by decide +kernel
theorem dX11_init_20 : decode cX11_init 20 = .ok (.invokespecial 18, 3) := by decide +kernel
theorem dX11_init_23 : decode cX11_init 23 = .ok (.putfield 19, 3) := by decide +kernel
theorem dX11_init_26 : decode cX11_init 26 = .ok (.aload_n 0, 1) := by decide +kernel
theorem dX11_init_27 : decode cX11_init 27 = .ok (.new 16, 3) := by decide +kernel
theorem dX11_init_30 : decode cX11_init 30 = .ok (.dup, 1) := by decide +kernel
theorem dX11_init_31 : decode cX11_init 31 = .ok (.invokespecial 18, 3) := by decide +kernel
theorem dX11_init_34 : decode cX11_init 34 = .ok (.putfield 23, 3) := by decide +kernel
theorem dX11_init_37 : decode cX11_init 37 = .ok (.aload_n 0, 1) := by decide +kernel
theorem dX11_init_38 : decode cX11_init 38 = .ok (.new 26, 3) := by decide +kernel
theorem dX11_init_41 : decode cX11_init 41 = .ok (.dup, 1) := by decide +kernel
theorem dX11_init_42 : decode cX11_init 42 = .ok (.invokespecial 28, 3) := by decide +kernel
theorem dX11_init_45 : decode cX11_init 45 = .ok (.putfield 29, 3) := by decide +kernel
theorem dX11_init_48 : decode cX11_init 48 = .ok (.aload_n 0, 1) := by decide +kernel
theorem dX11_init_49 : decode cX11_init 49 = .ok (.iconst 5, 1) := by decide +kernel
theorem dX11_init_50 : decode cX11_init 50 = .ok (.anewarray 33, 3) := by decide +kernel
theorem dX11_init_53 : decode cX11_init 53 = .ok (.putfield 35, 3) := by decide +kernel
theorem dX11_init_56 : decode cX11_init 56 = .ok (.aload_n 0, 1) := by decide +kernel
theorem dX11_init_57 : decode cX11_init 57 = .ok (.iconst 5, 1) := by decide +kernel
theorem dX11_init_58 : decode cX11_init 58 = .ok (.anewarray 39, 3) := by decide +kernel
theorem dX11_init_61 : decode cX11_init 61 = .ok (.putfield 41, 3) := by decide +kernel
theorem dX11_init_64 : decode cX11_init 64 = .ok (.aload_n 0, 1) := by decide +kernel
theorem dX11_init_65 : decode cX11_init 65 = .ok (.new 45, 3) := by decide +kernel
theorem dX11_init_68 : decode cX11_init 68 = .ok (.dup, 1) := by decide +kernel
theorem dX11_init_69 : decode cX11_init 69 = .ok (.iconst 5, 1) := by decide +kernel
theorem dX11_init_70 : decode cX11_init 70 = .ok (.invokespecial 47, 3) := by decide +kernel
theorem dX11_init_73 : decode cX11_init 73 = .ok (.putfield 50, 3) := by decide +kernel
theorem dX11_init_76 : decode cX11_init 76 = .ok (.aload_n 0, 1) := by decide +kernel
theorem dX11_init_77 : decode cX11_init 77 = .ok (.new 54, 3) := by decide +kernel
theorem dX11_init_80 : decode cX11_init 80 = .ok (.dup, 1) := by decide +kernel
theorem dX11_init_81 : decode cX11_init 81 = .ok (.aload_n 0, 1) := by decide +kernel
theorem dX11_init_82 : decode cX11_init 82 = .ok (.getfield 19, 3) := by decide +kernel
theorem dX11_init_85 : decode cX11_init 85 = .ok (.invokespecial 56, 3) := by decide +kernel
theorem dX11_init_88 : decode cX11_init 88 = .ok (.putfield 59, 3) := by decide +kernel
theorem dX11_init_91 : decode cX11_init 91 = .ok (.aload_n 0, 1) := by decide +kernel
theorem dX11_init_92 : decode cX11_init 92 = .ok (.new 63, 3) := by decide +kernel
theorem dX11_init_95 : decode cX11_init 95 = .ok (.dup, 1) := by decide +kernel
theorem dX11_init_96 : decode cX11_init 96 = .ok (.aload_n 0, 1) := by decide +kernel
theorem dX11_init_97 : decode cX11_init 97 = .ok (.getfield 19, 3) := by decide +kernel
theorem dX11_init_100 : decode cX11_init 100 = .ok (.aload_n 0, 1) := by decide +kernel
theorem dX11_init_101 : decode cX11_init 101 = .ok (.getfield 59, 3) := by decide +kernel
theorem dX11_init_104 : decode cX11_init 104 = .ok (.invokespecial 65, 3) := by decide +kernel
theorem dX11_init_107 : decode cX11_init 107 = .ok (.putfield 68, 3) := by decide +kernel
theorem dX11_init_110 : decode cX11_init 110 = .ok (.aload_n 0, 1) := by decide +kernel
theorem dX11_init_111 : decode cX11_init 111 = .ok (.new 72, 3) := by decide +kernel
theorem dX11_init_114 : decode cX11_init 114 = .ok (.dup, 1) := by decide +kernel
theorem dX11_init_115 : decode cX11_init 115 = .ok (.aload_n 0, 1) := by decide +kernel
theorem dX11_init_116 : decode cX11_init 116 = .ok (.getfield 19, 3) := by decide +kernel
theorem dX11_init_119 : decode cX11_init 119 = .ok (.aload_n 0, 1) := by decide +kernel
theorem dX11_init_120 : decode cX11_init 120 = .ok (.getfield 59, 3) := by decide +kernel
theorem dX11_init_123 : decode cX11_init 123 = .ok (.invokespecial 74, 3) := by decide +kernel
theorem dX11_init_126 : decode cX11_init 126 = .ok (.putfield 75, 3) := by decide +kernel
theorem dX11_init_129 : decode cX11_init 129 = .ok (.aload_n 0, 1) := by decide +kernel
theorem dX11_init_130 : decode cX11_init 130 = .ok (.new 79, 3) := by decide +kernel
theorem dX11_init_133 : decode cX11_init 133 = .ok (.dup, 1) := by decide +kernel
theorem dX11_init_134 : decode cX11_init 134 = .ok (.invokespecial 81, 3) := by decide +kernel
theorem dX11_init_137 : decode cX11_init 137 = .ok (.putfield 82, 3) := by decide +kernel
theorem dX11_init_140 : decode cX11_init 140 = .ok (.aload_n 0, 1) := by decide +kernel
theorem dX11_init_141 : decode cX11_init 141 = .ok (.new 86, 3) := by decide +kernel
theorem dX11_init_144 : decode cX11_init 144 = .ok (.dup, 1) := by decide +kernel
theorem dX11_init_145 : decode cX11_init 145 = .ok (.invokespecial 88, 3) := by decide +kernel
theorem dX11_init_148 : decode cX11_init 148 = .ok (.putfield 89, 3) := by decide +kernel
theorem dX11_init_151 : decode cX11_init 151 = .ok (.aload_n 0, 1) := by decide +kernel
theorem dX11_init_152 : decode cX11_init 152 = .ok (.new 86, 3) := by decide +kernel
theorem dX11_init_155 : decode cX11_init 155 = .ok (.dup, 1) := by decide +kernel
theorem dX11_init_156 : decode cX11_init 156 = .ok (.invokespecial 88, 3) := by decide +kernel
theorem dX11_init_159 : decode cX11_init 159 = .ok (.putfield 93, 3) := by decide +kernel
theorem dX11_init_162 : decode cX11_init 162 = .ok (.aload_n 0, 1) := by decide +kernel
theorem dX11_init_163 : decode cX11_init 163 = .ok (.iconst 0, 1) := by decide +kernel
theorem dX11_init_164 : decode cX11_init 164 = .ok (.putfield 96, 3) := by decide +kernel
theorem dX11_init_167 : decode cX11_init 167 = .ok (.aload_n 0, 1) := by decide +kernel
theorem dX11_init_168 : decode cX11_init 168 = .ok (.iconst 0, 1) := by decide +kernel
theorem dX11_init_169 : decode cX11_init 169 = .ok (.putfield 100, 3) := by decide +kernel
theorem dX11_init_172 : decode cX11_init 172 = .ok (.aload_n 0, 1) := by decide +kernel
theorem dX11_init_173 : decode cX11_init 173 = .ok (.iconst 0, 1) := by decide +kernel
theorem dX11_init_174 : decode cX11_init 174 = .ok (.putfield 104, 3) := by decide +kernel
theorem dX11_init_177 : decode cX11_init 177 = .ok (.aload_n 0, 1) := by decide +kernel
theorem dX11_init_178 : decode cX11_init 178 = .ok (.iconst (-1), 1) := by decide +kernel
theorem dX11_init_179 : decode cX11_init 179 = .ok (.putfield 107, 3) := by decide +kernel
theorem dX11_init_182 : decode cX11_init 182 = .ok (.aload_n 0, 1) := by decide +kernel
theorem dX11_init_183 : decode cX11_init 183 = .ok (.iconst 2, 1) := by decide +kernel
theorem dX11_init_184 : decode cX11_init 184 = .ok (.putfield 110, 3) := by decide +kernel
theorem dX11_init_187 : decode cX11_init 187 = .ok (.iconst 0, 1) := by decide +kernel
theorem dX11_init_188 : decode cX11_init 188 = .ok (.istore_n 1, 1) := by decide +kernel
theorem dX11_init_189 : decode cX11_init 189 = .ok (.iload_n 1, 1) := by decide +kernel
theorem dX11_init_190 : decode cX11_init 190 = .ok (.aload_n 0, 1) := by decide +kernel
theorem dX11_init_191 : decode cX11_init 191 = .ok (.getfield 35, 3) := by decide +kernel
theorem dX11_init_194 : decode cX11_init 194 = .ok (.arraylength, 1) := by decide +kernel
theorem dX11_init_195 : decode cX11_init 195 = .ok (.if_icmp .ge 22, 3) := by decide +kernel
theorem dX11_init_198 : decode cX11_init 198 = .ok (.aload_n 0, 1) := by decide +kernel
theorem dX11_init_199 : decode cX11_init 199 = .ok (.getfield 35, 3) := by decide +kernel
theorem dX11_init_202 : decode cX11_init 202 = .ok (.iload_n 1, 1) := by decide +kernel
theorem dX11_init_203 : decode cX11_init 203 = .ok (.new 33, 3) := by decide +kernel
theorem dX11_init_206 : decode cX11_init 206 = .ok (.dup, 1) := by decide +kernel
theorem dX11_init_207 : decode cX11_init 207 = .ok (.invokespecial 113, 3) := by decide +kernel
theorem dX11_init_210 : decode cX11_init 210 = .ok (.aastore, 1) := by decide +kernel
theorem dX11_init_211 : decode cX11_init 211 = .ok (.iinc 1 1, 3) := by decide +kernel
theorem dX11_init_214 : decode cX11_init 214 = .ok (.goto (-25), 3) := by decide +kernel
theorem dX11_init_217 : decode cX11_init 217 = .ok (.iconst 0, 1) := by decide +kernel
theorem dX11_init_218 : decode cX11_init 218 = .ok (.istore_n 1, 1) := by decide +kernel
theorem dX11_init_219 : decode cX11_init 219 = .ok (.iload_n 1, 1) := by decide +kernel
theorem dX11_init_220 : decode cX11_init 220 = .ok (.aload_n 0, 1) := by decide +kernel
theorem dX11_init_221 : decode cX11_init 221 = .ok (.getfield 41, 3) := by decide +kernel
theorem dX11_init_224 : decode cX11_init 224 = .ok (.arraylength, 1) := by decide +kernel
theorem dX11_init_225 : decode cX11_init 225 = .ok (.if_icmp .ge 22, 3) := by decide +kernel
theorem dX11_init_228 : decode cX11_init 228 = .ok (.aload_n 0, 1) := by decide +kernel
theorem dX11_init_229 : decode cX11_init 229 = .ok (.getfield 41, 3) := by decide +kernel
theorem dX11_init_232 : decode cX11_init 232 = .ok (.iload_n 1, 1) := by decide +kernel
theorem dX11_init_233 : decode cX11_init 233 = .ok (.new 39, 3) := by decide +kernel
theorem dX11_init_236 : decode cX11_init 236 = .ok (.dup, 1) := by decide +kernel
theorem dX11_init_237 : decode cX11_init 237 = .ok (.invokespecial 114, 3) := by decide +kernel
theorem dX11_init_240 : decode cX11_init 240 = .ok (.aastore, 1) := by decide +kernel
theorem dX11_init_241 : decode cX11_init 241 = .ok (.iinc 1 1, 3) := by decide +kernel
theorem dX11_init_244 : decode cX11_init 244 = .ok (.goto (-25), 3) := by decide +kernel
theorem dX11_init_247 : decode cX11_init 247 = .ok (.return_, 1) := by decide +kernel
theorem dX11_feed_0 : decode cX11_feed 0 = .ok (.iload_n 1, 1) := by decide +kernel
theorem dX11_feed_1 : decode cX11_feed 1 = .ok (.invokestatic 115, 3) := by decide +kernel
theorem dX11_feed_4 : decode cX11_feed 4 = .ok (.iload_n 2, 1) := by decide +kernel
theorem dX11_feed_5 : decode cX11_feed 5 = .ok (.invokestatic 115, 3) := by decide +kernel
theorem dX11_feed_8 : decode cX11_feed 8 = .ok (.iadd, 1) := by decide +kernel
theorem dX11_feed_9 : decode cX11_feed 9 = .ok (.iload_n 3, 1) := by decide +kernel
theorem dX11_feed_10 : decode cX11_feed 10 = .ok (.invokestatic 115, 3) := by decide +kernel
theorem dX11_feed_13 : decode cX11_feed 13 = .ok (.iadd, 1) := by decide +kernel
theorem dX11_feed_14 : decode cX11_feed 14 = .ok (.iload 4, 2) := by decide +kernel
theorem dX11_feed_16 : decode cX11_feed 16 = .ok (.invokestatic 115, 3) := by decide +kernel
theorem dX11_feed_19 : decode cX11_feed 19 = .ok (.iadd, 1) := by decide +kernel
theorem dX11_feed_20 : decode cX11_feed 20 = .ok (.iload 5, 2) := by decide +kernel
theorem dX11_feed_22 : decode cX11_feed 22 = .ok (.invokestatic 115, 3) := by decide +kernel
theorem dX11_feed_25 : decode cX11_feed 25 = .ok (.iadd, 1) := by decide +kernel
theorem dX11_feed_26 : decode cX11_feed 26 = .ok (.istore 6, 2) := by decide +kernel
theorem dX11_feed_28 : decode cX11_feed 28 = .ok (.aload_n 0, 1) := by decide +kernel
theorem dX11_feed_29 : decode cX11_feed 29 = .ok (.getfield 10, 3) := by decide +kernel
theorem dX11_feed_32 : decode cX11_feed 32 = .ok (.invokevirtual 119, 3) := by decide +kernel
theorem dX11_feed_35 : decode cX11_feed 35 = .ok (.iload 6, 2) := by decide +kernel
theorem dX11_feed_37 : decode cX11_feed 37 = .ok (.iadd, 1) := by decide +kernel
theorem dX11_feed_38 : decode cX11_feed 38 = .ok (.sipush 240, 3) := by decide +kernel
theorem dX11_feed_41 : decode cX11_feed 41 = .ok (.if_icmp .le 5, 3) := by decide +kernel
theorem dX11_feed_44 : decode cX11_feed 44 = .ok (.iconst (-1), 1) := by decide +kernel
theorem dX11_feed_45 : decode cX11_feed 45 = .ok (.ireturn, 1) := by decide +kernel
theorem dX11_feed_46 : decode cX11_feed 46 = .ok (.aload_n 0, 1) := by decide +kernel
theorem dX11_feed_47 : decode cX11_feed 47 = .ok (.getfield 10, 3) := by decide +kernel
theorem dX11_feed_50 : decode cX11_feed 50 = .ok (.iload_n 1, 1) := by decide +kernel
theorem dX11_feed_51 : decode cX11_feed 51 = .ok (.invokevirtual 123, 3) := by decide +kernel
theorem dX11_feed_54 : decode cX11_feed 54 = .ok (.aload_n 0, 1) := by decide +kernel
theorem dX11_feed_55 : decode cX11_feed 55 = .ok (.getfield 10, 3) := by decide +kernel
theorem dX11_feed_58 : decode cX11_feed 58 = .ok (.iload_n 2, 1) := by decide +kernel
theorem dX11_feed_59 : decode cX11_feed 59 = .ok (.invokevirtual 123, 3) := by decide +kernel
theorem dX11_feed_62 : decode cX11_feed 62 = .ok (.aload_n 0, 1) := by decide +kernel
theorem dX11_feed_63 : decode cX11_feed 63 = .ok (.getfield 10, 3) := by decide +kernel
theorem dX11_feed_66 : decode cX11_feed 66 = .ok (.iload_n 3, 1) := by decide +kernel
theorem dX11_feed_67 : decode cX11_feed 67 = .ok (.invokevirtual 123, 3) := by decide +kernel
theorem dX11_feed_70 : decode cX11_feed 70 = .ok (.aload_n 0, 1) := by decide +kernel
theorem dX11_feed_71 : decode cX11_feed 71 = .ok (.getfield 10, 3) := by decide +kernel
theorem dX11_feed_74 : decode cX11_feed 74 = .ok (.iload 4, 2) := by decide +kernel
theorem dX11_feed_76 : decode cX11_feed 76 = .ok (.invokevirtual 123, 3) := by decide +kernel
theorem dX11_feed_79 : decode cX11_feed 79 = .ok (.aload_n 0, 1) := by decide +kernel
theorem dX11_feed_80 : decode cX11_feed 80 = .ok (.getfield 10, 3) := by decide +kernel
theorem dX11_feed_83 : decode cX11_feed 83 = .ok (.iload 5, 2) := by decide +kernel
theorem dX11_feed_85 : decode cX11_feed 85 = .ok (.invokevirtual 123, 3) := by decide +kernel
theorem dX11_feed_88 : decode cX11_feed 88 = .ok (.aload_n 0, 1) := by decide +kernel
theorem dX11_feed_89 : decode cX11_feed 89 = .ok (.getfield 10, 3) := by decide +kernel
theorem dX11_feed_92 : decode cX11_feed 92 = .ok (.invokevirtual 119, 3) := by decide +kernel
theorem dX11_feed_95 : decode cX11_feed 95 = .ok (.ireturn, 1) := by decide +kernel
theorem dX11_end_0 : decode cX11_end 0 = .ok (.iload_n 1, 1) := by decide +kernel
theorem dX11_end_1 : decode cX11_end 1 = .ok (.ifCond .lt 14, 3) := by decide +kernel
theorem dX11_end_4 : decode cX11_end 4 = .ok (.iload_n 1, 1) := by decide +kernel
theorem dX11_end_5 : decode cX11_end 5 = .ok (.aload_n 0, 1) := by decide +kernel
theorem dX11_end_6 : decode cX11_end 6 = .ok (.getfield 10, 3) := by decide +kernel
theorem dX11_end_9 : decode cX11_end 9 = .ok (.invokevirtual 119, 3) := by decide +kernel
theorem dX11_end_12 : decode cX11_end 12 = .ok (.if_icmp .le 5, 3) := by decide +kernel
theorem dX11_end_15 : decode cX11_end 15 = .ok (.iconst 0, 1) := by decide +kernel
theorem dX11_end_16 : decode cX11_end 16 = .ok (.ireturn, 1) := by decide +kernel
theorem dX11_end_17 : decode cX11_end 17 = .ok (.aload_n 0, 1) := by decide +kernel
theorem dX11_end_18 : decode cX11_end 18 = .ok (.getfield 10, 3) := by decide +kernel
theorem dX11_end_21 : decode cX11_end 21 = .ok (.iload_n 1, 1) := by decide +kernel
theorem dX11_end_22 : decode cX11_end 22 = .ok (.invokevirtual 126, 3) := by decide +kernel
theorem dX11_end_25 : decode cX11_end 25 = .ok (.iconst 1, 1) := by decide +kernel
theorem dX11_end_26 : decode cX11_end 26 = .ok (.ireturn, 1) := by decide +kernel
theorem dX11_fault_0 : decode cX11_fault 0 = .ok (.iload_n 1, 1) := by decide +kernel
theorem dX11_fault_1 : decode cX11_fault 1 = .ok (.ifCond .lt 8, 3) := by decide +kernel
theorem dX11_fault_4 : decode cX11_fault 4 = .ok (.iload_n 1, 1) := by decide +kernel
theorem dX11_fault_5 : decode cX11_fault 5 = .ok (.iconst 2, 1) := by decide +kernel
theorem dX11_fault_6 : decode cX11_fault 6 = .ok (.if_icmp .le 6, 3) := by decide +kernel
theorem dX11_fault_9 : decode cX11_fault 9 = .ok (.bipush (-2), 2) := by decide +kernel
theorem dX11_fault_11 : decode cX11_fault 11 = .ok (.ireturn, 1) := by decide +kernel
theorem dX11_fault_12 : decode cX11_fault 12 = .ok (.aload_n 0, 1) := by decide +kernel
theorem dX11_fault_13 : decode cX11_fault 13 = .ok (.iload_n 1, 1) := by decide +kernel
theorem dX11_fault_14 : decode cX11_fault 14 = .ok (.invokevirtual 129, 3) := by decide +kernel
theorem dX11_fault_17 : decode cX11_fault 17 = .ok (.ifCond .eq 7, 3) := by decide +kernel
theorem dX11_fault_20 : decode cX11_fault 20 = .ok (.iconst (-1), 1) := by decide +kernel
theorem dX11_fault_21 : decode cX11_fault 21 = .ok (.goto 10, 3) := by decide +kernel
theorem dX11_fault_24 : decode cX11_fault 24 = .ok (.aload_n 0, 1) := by decide +kernel
theorem dX11_fault_25 : decode cX11_fault 25 = .ok (.getfield 10, 3) := by decide +kernel
theorem dX11_fault_28 : decode cX11_fault 28 = .ok (.invokevirtual 133, 3) := by decide +kernel
theorem dX11_fault_31 : decode cX11_fault 31 = .ok (.ireturn, 1) := by decide +kernel
theorem dX11_text_0 : decode cX11_text 0 = .ok (.iload_n 1, 1) := by decide +kernel
theorem dX11_text_1 : decode cX11_text 1 = .ok (.ifCond .lt 24, 3) := by decide +kernel
theorem dX11_text_4 : decode cX11_text 4 = .ok (.iload_n 1, 1) := by decide +kernel
theorem dX11_text_5 : decode cX11_text 5 = .ok (.iconst 2, 1) := by decide +kernel
theorem dX11_text_6 : decode cX11_text 6 = .ok (.if_icmp .gt 19, 3) := by decide +kernel
theorem dX11_text_9 : decode cX11_text 9 = .ok (.aload_n 0, 1) := by decide +kernel
theorem dX11_text_10 : decode cX11_text 10 = .ok (.iload_n 1, 1) := by decide +kernel
theorem dX11_text_11 : decode cX11_text 11 = .ok (.invokevirtual 136, 3) := by decide +kernel
theorem dX11_text_14 : decode cX11_text 14 = .ok (.ifCond .eq 11, 3) := by decide +kernel
theorem dX11_text_17 : decode cX11_text 17 = .ok (.aload_n 0, 1) := by decide +kernel
theorem dX11_text_18 : decode cX11_text 18 = .ok (.iload_n 1, 1) := by decide +kernel
theorem dX11_text_19 : decode cX11_text 19 = .ok (.invokevirtual 129, 3) := by decide +kernel
theorem dX11_text_22 : decode cX11_text 22 = .ok (.ifCond .ne 5, 3) := by decide +kernel
theorem dX11_text_25 : decode cX11_text 25 = .ok (.iconst (-1), 1) := by decide +kernel
theorem dX11_text_26 : decode cX11_text 26 = .ok (.ireturn, 1) := by decide +kernel
theorem dX11_text_27 : decode cX11_text 27 = .ok (.aload_n 0, 1) := by decide +kernel
theorem dX11_text_28 : decode cX11_text 28 = .ok (.getfield 10, 3) := by decide +kernel
theorem dX11_text_31 : decode cX11_text 31 = .ok (.iconst 0, 1) := by decide +kernel
theorem dX11_text_32 : decode cX11_text 32 = .ok (.invokevirtual 126, 3) := by decide +kernel
theorem dX11_text_35 : decode cX11_text 35 = .ok (.iload_n 1, 1) := by decide +kernel
theorem dX11_text_36 : decode cX11_text 36 = .ok (.iconst 1, 1) := by decide +kernel
theorem dX11_text_37 : decode cX11_text 37 = .ok (.if_icmp .ne 15, 3) := by decide +kernel
theorem dX11_text_40 : decode cX11_text 40 = .ok (.aload_n 0, 1) := by decide +kernel
theorem dX11_text_41 : decode cX11_text 41 = .ok (.dup, 1) := by decide +kernel
theorem dX11_text_42 : decode cX11_text 42 = .ok (.getfield 100, 3) := by decide +kernel
theorem dX11_text_45 : decode cX11_text 45 = .ok (.dup_x1, 1) := by decide +kernel
theorem dX11_text_46 : decode cX11_text 46 = .ok (.iconst 1, 1) := by decide +kernel
theorem dX11_text_47 : decode cX11_text 47 = .ok (.iadd, 1) := by decide +kernel
theorem dX11_text_48 : decode cX11_text 48 = .ok (.putfield 100, 3) := by decide +kernel
theorem dX11_text_51 : decode cX11_text 51 = .ok (.ireturn, 1) := by decide +kernel
theorem dX11_text_52 : decode cX11_text 52 = .ok (.iload_n 1, 1) := by decide +kernel
theorem dX11_text_53 : decode cX11_text 53 = .ok (.iconst 2, 1) := by decide +kernel
theorem dX11_text_54 : decode cX11_text 54 = .ok (.if_icmp .ne 15, 3) := by decide +kernel
theorem dX11_text_57 : decode cX11_text 57 = .ok (.aload_n 0, 1) := by decide +kernel
theorem dX11_text_58 : decode cX11_text 58 = .ok (.dup, 1) := by decide +kernel
theorem dX11_text_59 : decode cX11_text 59 = .ok (.getfield 104, 3) := by decide +kernel
theorem dX11_text_62 : decode cX11_text 62 = .ok (.dup_x1, 1) := by decide +kernel
theorem dX11_text_63 : decode cX11_text 63 = .ok (.iconst 1, 1) := by decide +kernel
theorem dX11_text_64 : decode cX11_text 64 = .ok (.iadd, 1) := by decide +kernel
theorem dX11_text_65 : decode cX11_text 65 = .ok (.putfield 104, 3) := by decide +kernel
theorem dX11_text_68 : decode cX11_text 68 = .ok (.ireturn, 1) := by decide +kernel
theorem dX11_text_69 : decode cX11_text 69 = .ok (.aload_n 0, 1) := by decide +kernel
theorem dX11_text_70 : decode cX11_text 70 = .ok (.invokevirtual 139, 3) := by decide +kernel
theorem dX11_text_73 : decode cX11_text 73 = .ok (.aload_n 0, 1) := by decide +kernel
theorem dX11_text_74 : decode cX11_text 74 = .ok (.getfield 19, 3) := by decide +kernel
theorem dX11_text_77 : decode cX11_text 77 = .ok (.invokevirtual 142, 3) := by decide +kernel
theorem dX11_text_80 : decode cX11_text 80 = .ok (.ireturn, 1) := by decide +kernel
theorem dX11_hasPlaceFor_0 : decode cX11_hasPlaceFor 0 = .ok (.iload_n 1, 1) := by decide +kernel
theorem dX11_hasPlaceFor_1 : decode cX11_hasPlaceFor 1 = .ok (.ifCond .eq 23, 3) := by decide +kernel
theorem dX11_hasPlaceFor_4 : decode cX11_hasPlaceFor 4 = .ok (.iload_n 1, 1) := by decide +kernel
theorem dX11_hasPlaceFor_5 : decode cX11_hasPlaceFor 5 = .ok (.iconst 1, 1) := by decide +kernel
theorem dX11_hasPlaceFor_6 : decode cX11_hasPlaceFor 6 = .ok (.if_icmp .ne 10, 3) := by decide +kernel
theorem dX11_hasPlaceFor_9 : decode cX11_hasPlaceFor 9 = .ok (.aload_n 0, 1) := by decide +kernel
theorem dX11_hasPlaceFor_10 : decode cX11_hasPlaceFor 10 = .ok (.getfield 100, 3) := by decide +kernel
theorem dX11_hasPlaceFor_13 : decode cX11_hasPlaceFor 13 = .ok (.goto 7, 3) := by decide +kernel
theorem dX11_hasPlaceFor_16 : decode cX11_hasPlaceFor 16 = .ok (.aload_n 0, 1) := by decide +kernel
theorem dX11_hasPlaceFor_17 : decode cX11_hasPlaceFor 17 = .ok (.getfield 104, 3) := by decide +kernel
theorem dX11_hasPlaceFor_20 : decode cX11_hasPlaceFor 20 = .ok (.iconst 4, 1) := by decide +kernel
theorem dX11_hasPlaceFor_21 : decode cX11_hasPlaceFor 21 = .ok (.if_icmp .ge 7, 3) := by decide +kernel
theorem dX11_hasPlaceFor_24 : decode cX11_hasPlaceFor 24 = .ok (.iconst 1, 1) := by decide +kernel
theorem dX11_hasPlaceFor_25 : decode cX11_hasPlaceFor 25 = .ok (.goto 4, 3) := by decide +kernel
theorem dX11_hasPlaceFor_28 : decode cX11_hasPlaceFor 28 = .ok (.iconst 0, 1) := by decide +kernel
theorem dX11_hasPlaceFor_29 : decode cX11_hasPlaceFor 29 = .ok (.ireturn, 1) := by decide +kernel
theorem dX11_readsAs_0 : decode cX11_readsAs 0 = .ok (.aload_n 0, 1) := by decide +kernel
theorem dX11_readsAs_1 : decode cX11_readsAs 1 = .ok (.getfield 10, 3) := by decide +kernel
theorem dX11_readsAs_4 : decode cX11_readsAs 4 = .ok (.invokevirtual 145, 3) := by decide +kernel
theorem dX11_readsAs_7 : decode cX11_readsAs 7 = .ok (.iload_n 1, 1) := by decide +kernel
theorem dX11_readsAs_8 : decode cX11_readsAs 8 = .ok (.iconst 1, 1) := by decide +kernel
theorem dX11_readsAs_9 : decode cX11_readsAs 9 = .ok (.if_icmp .ne 23, 3) := by decide +kernel
theorem dX11_readsAs_12 : decode cX11_readsAs 12 = .ok (.aload_n 0, 1) := by decide +kernel
theorem dX11_readsAs_13 : decode cX11_readsAs 13 = .ok (.getfield 29, 3) := by decide +kernel
theorem dX11_readsAs_16 : decode cX11_readsAs 16 = .ok (.aload_n 0, 1) := by decide +kernel
theorem dX11_readsAs_17 : decode cX11_readsAs 17 = .ok (.getfield 10, 3) := by decide +kernel
theorem dX11_readsAs_20 : decode cX11_readsAs 20 = .ok (.aload_n 0, 1) := by decide +kernel
theorem dX11_readsAs_21 : decode cX11_readsAs 21 = .ok (.aload_n 0, 1) := by decide +kernel
theorem dX11_readsAs_22 : decode cX11_readsAs 22 = .ok (.getfield 100, 3) := by decide +kernel
theorem dX11_readsAs_25 : decode cX11_readsAs 25 = .ok (.invokevirtual 148, 3) := by decide +kernel
theorem dX11_readsAs_28 : decode cX11_readsAs 28 = .ok (.invokevirtual 152, 3) := by decide +kernel
theorem dX11_readsAs_31 : decode cX11_readsAs 31 = .ok (.ireturn, 1) := by decide +kernel
theorem dX11_readsAs_32 : decode cX11_readsAs 32 = .ok (.iload_n 1, 1) := by decide +kernel
theorem dX11_readsAs_33 : decode cX11_readsAs 33 = .ok (.iconst 2, 1) := by decide +kernel
theorem dX11_readsAs_34 : decode cX11_readsAs 34 = .ok (.if_icmp .ne 33, 3) := by decide +kernel
theorem dX11_readsAs_37 : decode cX11_readsAs 37 = .ok (.aload_n 0, 1) := by decide +kernel
theorem dX11_readsAs_38 : decode cX11_readsAs 38 = .ok (.aload_n 0, 1) := by decide +kernel
theorem dX11_readsAs_39 : decode cX11_readsAs 39 = .ok (.getfield 104, 3) := by decide +kernel
theorem dX11_readsAs_42 : decode cX11_readsAs 42 = .ok (.invokevirtual 156, 3) := by decide +kernel
theorem dX11_readsAs_45 : decode cX11_readsAs 45 = .ok (.astore_n 2, 1) := by decide +kernel
theorem dX11_readsAs_46 : decode cX11_readsAs 46 = .ok (.aload_n 2, 1) := by decide +kernel
theorem dX11_readsAs_47 : decode cX11_readsAs 47 = .ok (.ifnull 18, 3) := by decide +kernel
theorem dX11_readsAs_50 : decode cX11_readsAs 50 = .ok (.aload_n 2, 1) := by decide +kernel
theorem dX11_readsAs_51 : decode cX11_readsAs 51 = .ok (.aload_n 0, 1) := by decide +kernel
theorem dX11_readsAs_52 : decode cX11_readsAs 52 = .ok (.getfield 10, 3) := by decide +kernel
theorem dX11_readsAs_55 : decode cX11_readsAs 55 = .ok (.invokevirtual 160, 3) := by decide +kernel
theorem dX11_readsAs_58 : decode cX11_readsAs 58 = .ok (.ifCond .eq 7, 3) := by decide +kernel
theorem dX11_readsAs_61 : decode cX11_readsAs 61 = .ok (.iconst 1, 1) := by decide +kernel
theorem dX11_readsAs_62 : decode cX11_readsAs 62 = .ok (.goto 4, 3) := by decide +kernel
theorem dX11_readsAs_65 : decode cX11_readsAs 65 = .ok (.iconst 0, 1) := by decide +kernel
theorem dX11_readsAs_66 : decode cX11_readsAs 66 = .ok (.ireturn, 1) := by decide +kernel
theorem dX11_readsAs_67 : decode cX11_readsAs 67 = .ok (.aload_n 0, 1) := by decide +kernel
theorem dX11_readsAs_68 : decode cX11_readsAs 68 = .ok (.getfield 23, 3) := by decide +kernel
theorem dX11_readsAs_71 : decode cX11_readsAs 71 = .ok (.aload_n 0, 1) := by decide +kernel
theorem dX11_readsAs_72 : decode cX11_readsAs 72 = .ok (.getfield 10, 3) := by decide +kernel
theorem dX11_readsAs_75 : decode cX11_readsAs 75 = .ok (.invokevirtual 163, 3) := by decide +kernel
theorem dX11_readsAs_78 : decode cX11_readsAs 78 = .ok (.ireturn, 1) := by decide +kernel
theorem dX11_openPort_0 : decode cX11_openPort 0 = .ok (.aload_n 0, 1) := by decide +kernel
theorem dX11_openPort_1 : decode cX11_openPort 1 = .ok (.getfield 19, 3) := by decide +kernel
theorem dX11_openPort_4 : decode cX11_openPort 4 = .ok (.aload_n 0, 1) := by decide +kernel
theorem dX11_openPort_5 : decode cX11_openPort 5 = .ok (.getfield 23, 3) := by decide +kernel
theorem dX11_openPort_8 : decode cX11_openPort 8 = .ok (.invokevirtual 164, 3) := by decide +kernel
theorem dX11_openPort_11 : decode cX11_openPort 11 = .ok (.aload_n 0, 1) := by decide +kernel
theorem dX11_openPort_12 : decode cX11_openPort 12 = .ok (.getfield 89, 3) := by decide +kernel
theorem dX11_openPort_15 : decode cX11_openPort 15 = .ok (.aload_n 0, 1) := by decide +kernel
theorem dX11_openPort_16 : decode cX11_openPort 16 = .ok (.getfield 19, 3) := by decide +kernel
theorem dX11_openPort_19 : decode cX11_openPort 19 = .ok (.invokevirtual 168, 3) := by decide +kernel
theorem dX11_openPort_22 : decode cX11_openPort 22 = .ok (.aload_n 0, 1) := by decide +kernel
theorem dX11_openPort_23 : decode cX11_openPort 23 = .ok (.getfield 82, 3) := by decide +kernel
theorem dX11_openPort_26 : decode cX11_openPort 26 = .ok (.invokevirtual 171, 3) := by decide +kernel
theorem dX11_openPort_29 : decode cX11_openPort 29 = .ok (.aload_n 0, 1) := by decide +kernel
theorem dX11_openPort_30 : decode cX11_openPort 30 = .ok (.getfield 75, 3) := by decide +kernel
theorem dX11_openPort_33 : decode cX11_openPort 33 = .ok (.invokevirtual 174, 3) := by decide +kernel
theorem dX11_openPort_36 : decode cX11_openPort 36 = .ok (.aload_n 0, 1) := by decide +kernel
theorem dX11_openPort_37 : decode cX11_openPort 37 = .ok (.iconst 0, 1) := by decide +kernel
theorem dX11_openPort_38 : decode cX11_openPort 38 = .ok (.putfield 96, 3) := by decide +kernel
theorem dX11_openPort_41 : decode cX11_openPort 41 = .ok (.return_, 1) := by decide +kernel
theorem dX11_lawAt_0 : decode cX11_lawAt 0 = .ok (.iload_n 1, 1) := by decide +kernel
theorem dX11_lawAt_1 : decode cX11_lawAt 1 = .ok (.ifCond .lt 21, 3) := by decide +kernel
theorem dX11_lawAt_4 : decode cX11_lawAt 4 = .ok (.iload_n 1, 1) := by decide +kernel
theorem dX11_lawAt_5 : decode cX11_lawAt 5 = .ok (.aload_n 0, 1) := by decide +kernel
theorem dX11_lawAt_6 : decode cX11_lawAt 6 = .ok (.getfield 35, 3) := by decide +kernel
theorem dX11_lawAt_9 : decode cX11_lawAt 9 = .ok (.arraylength, 1) := by decide +kernel
theorem dX11_lawAt_10 : decode cX11_lawAt 10 = .ok (.if_icmp .ge 12, 3) := by decide +kernel
theorem dX11_lawAt_13 : decode cX11_lawAt 13 = .ok (.aload_n 0, 1) := by decide +kernel
theorem dX11_lawAt_14 : decode cX11_lawAt 14 = .ok (.getfield 35, 3) := by decide +kernel
theorem dX11_lawAt_17 : decode cX11_lawAt 17 = .ok (.iload_n 1, 1) := by decide +kernel
theorem dX11_lawAt_18 : decode cX11_lawAt 18 = .ok (.aaload, 1) := by decide +kernel
theorem dX11_lawAt_19 : decode cX11_lawAt 19 = .ok (.goto 4, 3) := by decide +kernel
theorem dX11_lawAt_22 : decode cX11_lawAt 22 = .ok (.aconst_null, 1) := by decide +kernel
theorem dX11_lawAt_23 : decode cX11_lawAt 23 = .ok (.areturn, 1) := by decide +kernel
theorem dX11_calendarAt_0 : decode cX11_calendarAt 0 = .ok (.iload_n 1, 1) := by decide +kernel
theorem dX11_calendarAt_1 : decode cX11_calendarAt 1 = .ok (.ifCond .lt 21, 3) := by decide +kernel
theorem dX11_calendarAt_4 : decode cX11_calendarAt 4 = .ok (.iload_n 1, 1) := by decide +kernel
theorem dX11_calendarAt_5 : decode cX11_calendarAt 5 = .ok (.aload_n 0, 1) := by decide +kernel
theorem dX11_calendarAt_6 : decode cX11_calendarAt 6 = .ok (.getfield 41, 3) := by decide +kernel
theorem dX11_calendarAt_9 : decode cX11_calendarAt 9 = .ok (.arraylength, 1) := by decide +kernel
theorem dX11_calendarAt_10 : decode cX11_calendarAt 10 = .ok (.if_icmp .ge 12, 3) := by decide +kernel
theorem dX11_calendarAt_13 : decode cX11_calendarAt 13 = .ok (.aload_n 0, 1) := by decide +kernel
theorem dX11_calendarAt_14 : decode cX11_calendarAt 14 = .ok (.getfield 41, 3) := by decide +kernel
theorem dX11_calendarAt_17 : decode cX11_calendarAt 17 = .ok (.iload_n 1, 1) := by decide +kernel
theorem dX11_calendarAt_18 : decode cX11_calendarAt 18 = .ok (.aaload, 1) := by decide +kernel
theorem dX11_calendarAt_19 : decode cX11_calendarAt 19 = .ok (.goto 4, 3) := by decide +kernel
theorem dX11_calendarAt_22 : decode cX11_calendarAt 22 = .ok (.aconst_null, 1) := by decide +kernel
theorem dX11_calendarAt_23 : decode cX11_calendarAt 23 = .ok (.areturn, 1) := by decide +kernel
theorem dX11_isPort_0 : decode cX11_isPort 0 = .ok (.aload_n 0, 1) := by decide +kernel
theorem dX11_isPort_1 : decode cX11_isPort 1 = .ok (.getfield 19, 3) := by decide +kernel
theorem dX11_isPort_4 : decode cX11_isPort 4 = .ok (.invokevirtual 142, 3) := by decide +kernel
theorem dX11_isPort_7 : decode cX11_isPort 7 = .ok (.ifCond .le 7, 3) := by decide +kernel
theorem dX11_isPort_10 : decode cX11_isPort 10 = .ok (.iconst 1, 1) := by decide +kernel
theorem dX11_isPort_11 : decode cX11_isPort 11 = .ok (.goto 4, 3) := by decide +kernel
theorem dX11_isPort_14 : decode cX11_isPort 14 = .ok (.iconst 0, 1) := by decide +kernel
theorem dX11_isPort_15 : decode cX11_isPort 15 = .ok (.ireturn, 1) := by decide +kernel
theorem dX11_kind_0 : decode cX11_kind 0 = .ok (.aload_n 0, 1) := by decide +kernel
theorem dX11_kind_1 : decode cX11_kind 1 = .ok (.getfield 19, 3) := by decide +kernel
theorem dX11_kind_4 : decode cX11_kind 4 = .ok (.iload_n 1, 1) := by decide +kernel
theorem dX11_kind_5 : decode cX11_kind 5 = .ok (.invokevirtual 177, 3) := by decide +kernel
theorem dX11_kind_8 : decode cX11_kind 8 = .ok (.ifCond .ne 6, 3) := by decide +kernel
theorem dX11_kind_11 : decode cX11_kind 11 = .ok (.ldc 180, 2) := by decide +kernel
theorem dX11_kind_13 : decode cX11_kind 13 = .ok (.ireturn, 1) := by decide +kernel
theorem dX11_kind_14 : decode cX11_kind 14 = .ok (.iload_n 2, 1) := by decide +kernel
theorem dX11_kind_15 : decode cX11_kind 15 = .ok (.tableswitch 80 0 3 #[29, 40, 52, 64], 29) := by decide +kernel
theorem dX11_kind_44 : decode cX11_kind 44 = .ok (.aload_n 0, 1) := by decide +kernel
theorem dX11_kind_45 : decode cX11_kind 45 = .ok (.getfield 19, 3) := by decide +kernel
theorem dX11_kind_48 : decode cX11_kind 48 = .ok (.iconst 3, 1) := by decide +kernel
theorem dX11_kind_49 : decode cX11_kind 49 = .ok (.iload_n 1, 1) := by decide +kernel
theorem dX11_kind_50 : decode cX11_kind 50 = .ok (.iadd, 1) := by decide +kernel
theorem dX11_kind_51 : decode cX11_kind 51 = .ok (.invokevirtual 181, 3) := by decide +kernel
theorem dX11_kind_54 : decode cX11_kind 54 = .ok (.ireturn, 1) := by decide +kernel
theorem dX11_kind_55 : decode cX11_kind 55 = .ok (.aload_n 0, 1) := by decide +kernel
theorem dX11_kind_56 : decode cX11_kind 56 = .ok (.getfield 19, 3) := by decide +kernel
theorem dX11_kind_59 : decode cX11_kind 59 = .ok (.bipush 9, 2) := by decide +kernel
theorem dX11_kind_61 : decode cX11_kind 61 = .ok (.iload_n 1, 1) := by decide +kernel
theorem dX11_kind_62 : decode cX11_kind 62 = .ok (.iadd, 1) := by decide +kernel
theorem dX11_kind_63 : decode cX11_kind 63 = .ok (.invokevirtual 181, 3) := by decide +kernel
theorem dX11_kind_66 : decode cX11_kind 66 = .ok (.ireturn, 1) := by decide +kernel
theorem dX11_kind_67 : decode cX11_kind 67 = .ok (.aload_n 0, 1) := by decide +kernel
theorem dX11_kind_68 : decode cX11_kind 68 = .ok (.getfield 89, 3) := by decide +kernel
theorem dX11_kind_71 : decode cX11_kind 71 = .ok (.bipush 12, 2) := by decide +kernel
theorem dX11_kind_73 : decode cX11_kind 73 = .ok (.iload_n 1, 1) := by decide +kernel
theorem dX11_kind_74 : decode cX11_kind 74 = .ok (.iadd, 1) := by decide +kernel
theorem dX11_kind_75 : decode cX11_kind 75 = .ok (.invokevirtual 184, 3) := by decide +kernel
theorem dX11_kind_78 : decode cX11_kind 78 = .ok (.ireturn, 1) := by decide +kernel
theorem dX11_kind_79 : decode cX11_kind 79 = .ok (.aload_n 0, 1) := by decide +kernel
theorem dX11_kind_80 : decode cX11_kind 80 = .ok (.getfield 89, 3) := by decide +kernel
theorem dX11_kind_83 : decode cX11_kind 83 = .ok (.iload_n 1, 1) := by decide +kernel
theorem dX11_kind_84 : decode cX11_kind 84 = .ok (.aload_n 0, 1) := by decide +kernel
theorem dX11_kind_85 : decode cX11_kind 85 = .ok (.getfield 19, 3) := by decide +kernel
theorem dX11_kind_88 : decode cX11_kind 88 = .ok (.invokevirtual 142, 3) := by decide +kernel
theorem dX11_kind_91 : decode cX11_kind 91 = .ok (.invokevirtual 185, 3) := by decide +kernel
theorem dX11_kind_94 : decode cX11_kind 94 = .ok (.ireturn, 1) := by decide +kernel
theorem dX11_kind_95 : decode cX11_kind 95 = .ok (.ldc 180, 2) := by decide +kernel
theorem dX11_kind_97 : decode cX11_kind 97 = .ok (.ireturn, 1) := by decide +kernel
theorem dX11_person_0 : decode cX11_person 0 = .ok (.aload_n 0, 1) := by decide +kernel
theorem dX11_person_1 : decode cX11_person 1 = .ok (.getfield 19, 3) := by decide +kernel
theorem dX11_person_4 : decode cX11_person 4 = .ok (.iload_n 1, 1) := by decide +kernel
theorem dX11_person_5 : decode cX11_person 5 = .ok (.invokevirtual 189, 3) := by decide +kernel
theorem dX11_person_8 : decode cX11_person 8 = .ok (.ifCond .eq 12, 3) := by decide +kernel
theorem dX11_person_11 : decode cX11_person 11 = .ok (.iload_n 2, 1) := by decide +kernel
theorem dX11_person_12 : decode cX11_person 12 = .ok (.ifCond .lt 8, 3) := by decide +kernel
theorem dX11_person_15 : decode cX11_person 15 = .ok (.iload_n 2, 1) := by decide +kernel
theorem dX11_person_16 : decode cX11_person 16 = .ok (.iconst 3, 1) := by decide +kernel
theorem dX11_person_17 : decode cX11_person 17 = .ok (.if_icmp .le 11, 3) := by decide +kernel
theorem dX11_person_20 : decode cX11_person 20 = .ok (.new 192, 3) := by decide +kernel
theorem dX11_person_23 : decode cX11_person 23 = .ok (.dup, 1) := by decide +kernel
theorem dX11_person_24 : decode cX11_person 24 = .ok (.invokespecial 194, 3) := by decide +kernel
theorem dX11_person_27 : decode cX11_person 27 = .ok (.athrow, 1) := by decide +kernel
theorem dX11_person_28 : decode cX11_person 28 = .ok (.iload_n 2, 1) := by decide +kernel
theorem dX11_person_29 : decode cX11_person 29 = .ok (.tableswitch 67 0 2 #[27, 38, 50], 27) := by decide +kernel
theorem dX11_person_56 : decode cX11_person 56 = .ok (.aload_n 0, 1) := by decide +kernel
theorem dX11_person_57 : decode cX11_person 57 = .ok (.getfield 89, 3) := by decide +kernel
theorem dX11_person_60 : decode cX11_person 60 = .ok (.iconst 0, 1) := by decide +kernel
theorem dX11_person_61 : decode cX11_person 61 = .ok (.iload_n 1, 1) := by decide +kernel
theorem dX11_person_62 : decode cX11_person 62 = .ok (.iadd, 1) := by decide +kernel
theorem dX11_person_63 : decode cX11_person 63 = .ok (.invokevirtual 184, 3) := by decide +kernel
theorem dX11_person_66 : decode cX11_person 66 = .ok (.ireturn, 1) := by decide +kernel
theorem dX11_person_67 : decode cX11_person 67 = .ok (.aload_n 0, 1) := by decide +kernel
theorem dX11_person_68 : decode cX11_person 68 = .ok (.getfield 19, 3) := by decide +kernel
theorem dX11_person_71 : decode cX11_person 71 = .ok (.bipush 21, 2) := by decide +kernel
theorem dX11_person_73 : decode cX11_person 73 = .ok (.iload_n 1, 1) := by decide +kernel
theorem dX11_person_74 : decode cX11_person 74 = .ok (.iadd, 1) := by decide +kernel
theorem dX11_person_75 : decode cX11_person 75 = .ok (.invokevirtual 181, 3) := by decide +kernel
theorem dX11_person_78 : decode cX11_person 78 = .ok (.ireturn, 1) := by decide +kernel
theorem dX11_person_79 : decode cX11_person 79 = .ok (.aload_n 0, 1) := by decide +kernel
theorem dX11_person_80 : decode cX11_person 80 = .ok (.getfield 89, 3) := by decide +kernel
theorem dX11_person_83 : decode cX11_person 83 = .ok (.iload_n 1, 1) := by decide +kernel
theorem dX11_person_84 : decode cX11_person 84 = .ok (.invokevirtual 195, 3) := by decide +kernel
theorem dX11_person_87 : decode cX11_person 87 = .ok (.ifCond .eq 7, 3) := by decide +kernel
theorem dX11_person_90 : decode cX11_person 90 = .ok (.iconst 1, 1) := by decide +kernel
theorem dX11_person_91 : decode cX11_person 91 = .ok (.goto 4, 3) := by decide +kernel
theorem dX11_person_94 : decode cX11_person 94 = .ok (.iconst 0, 1) := by decide +kernel
theorem dX11_person_95 : decode cX11_person 95 = .ok (.ireturn, 1) := by decide +kernel
theorem dX11_person_96 : decode cX11_person 96 = .ok (.aload_n 0, 1) := by decide +kernel
theorem dX11_person_97 : decode cX11_person 97 = .ok (.getfield 89, 3) := by decide +kernel
theorem dX11_person_100 : decode cX11_person 100 = .ok (.bipush 6, 2) := by decide +kernel
theorem dX11_person_102 : decode cX11_person 102 = .ok (.iload_n 1, 1) := by decide +kernel
theorem dX11_person_103 : decode cX11_person 103 = .ok (.iadd, 1) := by decide +kernel
theorem dX11_person_104 : decode cX11_person 104 = .ok (.invokevirtual 184, 3) := by decide +kernel
theorem dX11_person_107 : decode cX11_person 107 = .ok (.ireturn, 1) := by decide +kernel
theorem dX11_law_0 : decode cX11_law 0 = .ok (.iload_n 1, 1) := by decide +kernel
theorem dX11_law_1 : decode cX11_law 1 = .ok (.iconst (-1), 1) := by decide +kernel
theorem dX11_law_2 : decode cX11_law 2 = .ok (.if_icmp .lt 11, 3) := by decide +kernel
theorem dX11_law_5 : decode cX11_law 5 = .ok (.iload_n 1, 1) := by decide +kernel
theorem dX11_law_6 : decode cX11_law 6 = .ok (.aload_n 0, 1) := by decide +kernel
theorem dX11_law_7 : decode cX11_law 7 = .ok (.getfield 100, 3) := by decide +kernel
theorem dX11_law_10 : decode cX11_law 10 = .ok (.if_icmp .lt 5, 3) := by decide +kernel
theorem dX11_law_13 : decode cX11_law 13 = .ok (.iconst 0, 1) := by decide +kernel
theorem dX11_law_14 : decode cX11_law 14 = .ok (.ireturn, 1) := by decide +kernel
theorem dX11_law_15 : decode cX11_law 15 = .ok (.aload_n 0, 1) := by decide +kernel
theorem dX11_law_16 : decode cX11_law 16 = .ok (.iload_n 1, 1) := by decide +kernel
theorem dX11_law_17 : decode cX11_law 17 = .ok (.putfield 107, 3) := by decide +kernel
theorem dX11_law_20 : decode cX11_law 20 = .ok (.aload_n 0, 1) := by decide +kernel
theorem dX11_law_21 : decode cX11_law 21 = .ok (.getfield 59, 3) := by decide +kernel
theorem dX11_law_24 : decode cX11_law 24 = .ok (.aload_n 0, 1) := by decide +kernel
theorem dX11_law_25 : decode cX11_law 25 = .ok (.iload_n 1, 1) := by decide +kernel
theorem dX11_law_26 : decode cX11_law 26 = .ok (.invokevirtual 148, 3) := by decide +kernel
theorem dX11_law_29 : decode cX11_law 29 = .ok (.invokevirtual 198, 3) := by decide +kernel
theorem dX11_law_32 : decode cX11_law 32 = .ok (.iconst 1, 1) := by decide +kernel
theorem dX11_law_33 : decode cX11_law 33 = .ok (.ireturn, 1) := by decide +kernel
theorem dX11_whim_0 : decode cX11_whim 0 = .ok (.iload_n 1, 1) := by decide +kernel
theorem dX11_whim_1 : decode cX11_whim 1 = .ok (.ifCond .lt 17, 3) := by decide +kernel
theorem dX11_whim_4 : decode cX11_whim 4 = .ok (.iload_n 1, 1) := by decide +kernel
theorem dX11_whim_5 : decode cX11_whim 5 = .ok (.bipush 9, 2) := by decide +kernel
theorem dX11_whim_7 : decode cX11_whim 7 = .ok (.if_icmp .gt 11, 3) := by decide +kernel
theorem dX11_whim_10 : decode cX11_whim 10 = .ok (.iload_n 1, 1) := by decide +kernel
theorem dX11_whim_11 : decode cX11_whim 11 = .ok (.aload_n 0, 1) := by decide +kernel
theorem dX11_whim_12 : decode cX11_whim 12 = .ok (.getfield 110, 3) := by decide +kernel
theorem dX11_whim_15 : decode cX11_whim 15 = .ok (.if_icmp .ne 5, 3) := by decide +kernel
theorem dX11_whim_18 : decode cX11_whim 18 = .ok (.iconst 0, 1) := by decide +kernel
theorem dX11_whim_19 : decode cX11_whim 19 = .ok (.ireturn, 1) := by decide +kernel
theorem dX11_whim_20 : decode cX11_whim 20 = .ok (.aload_n 0, 1) := by decide +kernel
theorem dX11_whim_21 : decode cX11_whim 21 = .ok (.iload_n 1, 1) := by decide +kernel
theorem dX11_whim_22 : decode cX11_whim 22 = .ok (.putfield 110, 3) := by decide +kernel
theorem dX11_whim_25 : decode cX11_whim 25 = .ok (.iconst 1, 1) := by decide +kernel
theorem dX11_whim_26 : decode cX11_whim 26 = .ok (.ireturn, 1) := by decide +kernel
theorem dX11_pass_0 : decode cX11_pass 0 = .ok (.aload_n 0, 1) := by decide +kernel
theorem dX11_pass_1 : decode cX11_pass 1 = .ok (.getfield 89, 3) := by decide +kernel
theorem dX11_pass_4 : decode cX11_pass 4 = .ok (.sipush 145, 3) := by decide +kernel
theorem dX11_pass_7 : decode cX11_pass 7 = .ok (.invokevirtual 184, 3) := by decide +kernel
theorem dX11_pass_10 : decode cX11_pass 10 = .ok (.istore_n 1, 1) := by decide +kernel
theorem dX11_pass_11 : decode cX11_pass 11 = .ok (.aload_n 0, 1) := by decide +kernel
theorem dX11_pass_12 : decode cX11_pass 12 = .ok (.iconst 0, 1) := by decide +kernel
theorem dX11_pass_13 : decode cX11_pass 13 = .ok (.iconst (-1), 1) := by decide +kernel
theorem dX11_pass_14 : decode cX11_pass 14 = .ok (.iconst (-1), 1) := by decide +kernel
theorem dX11_pass_15 : decode cX11_pass 15 = .ok (.invokevirtual 202, 3) := by decide +kernel
theorem dX11_pass_18 : decode cX11_pass 18 = .ok (.ifCond .eq 17, 3) := by decide +kernel
theorem dX11_pass_21 : decode cX11_pass 21 = .ok (.aload_n 0, 1) := by decide +kernel
theorem dX11_pass_22 : decode cX11_pass 22 = .ok (.getfield 89, 3) := by decide +kernel
theorem dX11_pass_25 : decode cX11_pass 25 = .ok (.bipush 18, 2) := by decide +kernel
theorem dX11_pass_27 : decode cX11_pass 27 = .ok (.iload_n 1, 1) := by decide +kernel
theorem dX11_pass_28 : decode cX11_pass 28 = .ok (.iadd, 1) := by decide +kernel
theorem dX11_pass_29 : decode cX11_pass 29 = .ok (.invokevirtual 184, 3) := by decide +kernel
theorem dX11_pass_32 : decode cX11_pass 32 = .ok (.goto 4, 3) := by decide +kernel
theorem dX11_pass_35 : decode cX11_pass 35 = .ok (.iconst (-1), 1) := by decide +kernel
theorem dX11_pass_36 : decode cX11_pass 36 = .ok (.ireturn, 1) := by decide +kernel
theorem dX11_habit_0 : decode cX11_habit 0 = .ok (.aload_n 0, 1) := by decide +kernel
theorem dX11_habit_1 : decode cX11_habit 1 = .ok (.getfield 19, 3) := by decide +kernel
theorem dX11_habit_4 : decode cX11_habit 4 = .ok (.iload_n 1, 1) := by decide +kernel
theorem dX11_habit_5 : decode cX11_habit 5 = .ok (.invokevirtual 189, 3) := by decide +kernel
theorem dX11_habit_8 : decode cX11_habit 8 = .ok (.ifCond .eq 16, 3) := by decide +kernel
theorem dX11_habit_11 : decode cX11_habit 11 = .ok (.aload_n 0, 1) := by decide +kernel
theorem dX11_habit_12 : decode cX11_habit 12 = .ok (.getfield 89, 3) := by decide +kernel
theorem dX11_habit_15 : decode cX11_habit 15 = .ok (.iconst 0, 1) := by decide +kernel
theorem dX11_habit_16 : decode cX11_habit 16 = .ok (.iload_n 1, 1) := by decide +kernel
theorem dX11_habit_17 : decode cX11_habit 17 = .ok (.iadd, 1) := by decide +kernel
theorem dX11_habit_18 : decode cX11_habit 18 = .ok (.invokevirtual 184, 3) := by decide +kernel
theorem dX11_habit_21 : decode cX11_habit 21 = .ok (.goto 4, 3) := by decide +kernel
theorem dX11_habit_24 : decode cX11_habit 24 = .ok (.iconst (-1), 1) := by decide +kernel
theorem dX11_habit_25 : decode cX11_habit 25 = .ok (.istore_n 3, 1) := by decide +kernel
theorem dX11_habit_26 : decode cX11_habit 26 = .ok (.aload_n 0, 1) := by decide +kernel
theorem dX11_habit_27 : decode cX11_habit 27 = .ok (.iconst 1, 1) := by decide +kernel
theorem dX11_habit_28 : decode cX11_habit 28 = .ok (.iload_n 1, 1) := by decide +kernel
theorem dX11_habit_29 : decode cX11_habit 29 = .ok (.iload_n 2, 1) := by decide +kernel
theorem dX11_habit_30 : decode cX11_habit 30 = .ok (.invokevirtual 202, 3) := by decide +kernel
theorem dX11_habit_33 : decode cX11_habit 33 = .ok (.ifCond .eq 7, 3) := by decide +kernel
theorem dX11_habit_36 : decode cX11_habit 36 = .ok (.iload_n 3, 1) := by decide +kernel
theorem dX11_habit_37 : decode cX11_habit 37 = .ok (.goto 4, 3) := by decide +kernel
theorem dX11_habit_40 : decode cX11_habit 40 = .ok (.iconst (-1), 1) := by decide +kernel
theorem dX11_habit_41 : decode cX11_habit 41 = .ok (.ireturn, 1) := by decide +kernel
theorem dX11_bed_0 : decode cX11_bed 0 = .ok (.aload_n 0, 1) := by decide +kernel
theorem dX11_bed_1 : decode cX11_bed 1 = .ok (.iconst 2, 1) := by decide +kernel
theorem dX11_bed_2 : decode cX11_bed 2 = .ok (.iload_n 1, 1) := by decide +kernel
theorem dX11_bed_3 : decode cX11_bed 3 = .ok (.iconst (-1), 1) := by decide +kernel
theorem dX11_bed_4 : decode cX11_bed 4 = .ok (.invokevirtual 202, 3) := by decide +kernel
theorem dX11_bed_7 : decode cX11_bed 7 = .ok (.ifCond .ne 5, 3) := by decide +kernel
theorem dX11_bed_10 : decode cX11_bed 10 = .ok (.iconst (-1), 1) := by decide +kernel
theorem dX11_bed_11 : decode cX11_bed 11 = .ok (.ireturn, 1) := by decide +kernel
theorem dX11_bed_12 : decode cX11_bed 12 = .ok (.aload_n 0, 1) := by decide +kernel
theorem dX11_bed_13 : decode cX11_bed 13 = .ok (.getfield 89, 3) := by decide +kernel
theorem dX11_bed_16 : decode cX11_bed 16 = .ok (.iload_n 1, 1) := by decide +kernel
theorem dX11_bed_17 : decode cX11_bed 17 = .ok (.invokevirtual 195, 3) := by decide +kernel
theorem dX11_bed_20 : decode cX11_bed 20 = .ok (.ifCond .eq 7, 3) := by decide +kernel
theorem dX11_bed_23 : decode cX11_bed 23 = .ok (.iconst 1, 1) := by decide +kernel
theorem dX11_bed_24 : decode cX11_bed 24 = .ok (.goto 4, 3) := by decide +kernel
theorem dX11_bed_27 : decode cX11_bed 27 = .ok (.iconst 0, 1) := by decide +kernel
theorem dX11_bed_28 : decode cX11_bed 28 = .ok (.ireturn, 1) := by decide +kernel
theorem dX11_fog_0 : decode cX11_fog 0 = .ok (.aload_n 0, 1) := by decide +kernel
theorem dX11_fog_1 : decode cX11_fog 1 = .ok (.getfield 89, 3) := by decide +kernel
theorem dX11_fog_4 : decode cX11_fog 4 = .ok (.sipush 139, 3) := by decide +kernel
theorem dX11_fog_7 : decode cX11_fog 7 = .ok (.invokevirtual 184, 3) := by decide +kernel
theorem dX11_fog_10 : decode cX11_fog 10 = .ok (.istore_n 2, 1) := by decide +kernel
theorem dX11_fog_11 : decode cX11_fog 11 = .ok (.aload_n 0, 1) := by decide +kernel
theorem dX11_fog_12 : decode cX11_fog 12 = .ok (.iconst 3, 1) := by decide +kernel
theorem dX11_fog_13 : decode cX11_fog 13 = .ok (.iload_n 1, 1) := by decide +kernel
theorem dX11_fog_14 : decode cX11_fog 14 = .ok (.iconst (-1), 1) := by decide +kernel
theorem dX11_fog_15 : decode cX11_fog 15 = .ok (.invokevirtual 202, 3) := by decide +kernel
theorem dX11_fog_18 : decode cX11_fog 18 = .ok (.ifCond .eq 7, 3) := by decide +kernel
theorem dX11_fog_21 : decode cX11_fog 21 = .ok (.iload_n 2, 1) := by decide +kernel
theorem dX11_fog_22 : decode cX11_fog 22 = .ok (.goto 4, 3) := by decide +kernel
theorem dX11_fog_25 : decode cX11_fog 25 = .ok (.iconst (-1), 1) := by decide +kernel
theorem dX11_fog_26 : decode cX11_fog 26 = .ok (.ireturn, 1) := by decide +kernel
theorem dX11_eclipse_0 : decode cX11_eclipse 0 = .ok (.aload_n 0, 1) := by decide +kernel
theorem dX11_eclipse_1 : decode cX11_eclipse 1 = .ok (.iconst 4, 1) := by decide +kernel
theorem dX11_eclipse_2 : decode cX11_eclipse 2 = .ok (.iconst (-1), 1) := by decide +kernel
theorem dX11_eclipse_3 : decode cX11_eclipse 3 = .ok (.iconst (-1), 1) := by decide +kernel
theorem dX11_eclipse_4 : decode cX11_eclipse 4 = .ok (.invokevirtual 202, 3) := by decide +kernel
theorem dX11_eclipse_7 : decode cX11_eclipse 7 = .ok (.ifCond .eq 16, 3) := by decide +kernel
theorem dX11_eclipse_10 : decode cX11_eclipse 10 = .ok (.aload_n 0, 1) := by decide +kernel
theorem dX11_eclipse_11 : decode cX11_eclipse 11 = .ok (.getfield 89, 3) := by decide +kernel
theorem dX11_eclipse_14 : decode cX11_eclipse 14 = .ok (.sipush 142, 3) := by decide +kernel
theorem dX11_eclipse_17 : decode cX11_eclipse 17 = .ok (.invokevirtual 184, 3) := by decide +kernel
theorem dX11_eclipse_20 : decode cX11_eclipse 20 = .ok (.goto 4, 3) := by decide +kernel
theorem dX11_eclipse_23 : decode cX11_eclipse 23 = .ok (.iconst (-1), 1) := by decide +kernel
theorem dX11_eclipse_24 : decode cX11_eclipse 24 = .ok (.ireturn, 1) := by decide +kernel
theorem dX11_candles_0 : decode cX11_candles 0 = .ok (.aload_n 0, 1) := by decide +kernel
theorem dX11_candles_1 : decode cX11_candles 1 = .ok (.iconst 5, 1) := by decide +kernel
theorem dX11_candles_2 : decode cX11_candles 2 = .ok (.iload_n 1, 1) := by decide +kernel
theorem dX11_candles_3 : decode cX11_candles 3 = .ok (.iconst (-1), 1) := by decide +kernel
theorem dX11_candles_4 : decode cX11_candles 4 = .ok (.invokevirtual 202, 3) := by decide +kernel
theorem dX11_candles_7 : decode cX11_candles 7 = .ok (.ifCond .eq 16, 3) := by decide +kernel
theorem dX11_candles_10 : decode cX11_candles 10 = .ok (.aload_n 0, 1) := by decide +kernel
theorem dX11_candles_11 : decode cX11_candles 11 = .ok (.getfield 89, 3) := by decide +kernel
theorem dX11_candles_14 : decode cX11_candles 14 = .ok (.sipush 141, 3) := by decide +kernel
theorem dX11_candles_17 : decode cX11_candles 17 = .ok (.invokevirtual 184, 3) := by decide +kernel
theorem dX11_candles_20 : decode cX11_candles 20 = .ok (.goto 4, 3) := by decide +kernel
theorem dX11_candles_23 : decode cX11_candles 23 = .ok (.iconst (-1), 1) := by decide +kernel
theorem dX11_candles_24 : decode cX11_candles 24 = .ok (.ireturn, 1) := by decide +kernel
theorem dX11_give_0 : decode cX11_give 0 = .ok (.aload_n 0, 1) := by decide +kernel
theorem dX11_give_1 : decode cX11_give 1 = .ok (.bipush 6, 2) := by decide +kernel
theorem dX11_give_3 : decode cX11_give 3 = .ok (.iload_n 1, 1) := by decide +kernel
theorem dX11_give_4 : decode cX11_give 4 = .ok (.iconst (-1), 1) := by decide +kernel
theorem dX11_give_5 : decode cX11_give 5 = .ok (.invokevirtual 202, 3) := by decide +kernel
theorem dX11_give_8 : decode cX11_give 8 = .ok (.ifCond .eq 16, 3) := by decide +kernel
theorem dX11_give_11 : decode cX11_give 11 = .ok (.aload_n 0, 1) := by decide +kernel
theorem dX11_give_12 : decode cX11_give 12 = .ok (.getfield 89, 3) := by decide +kernel
theorem dX11_give_15 : decode cX11_give 15 = .ok (.sipush 142, 3) := by decide +kernel
theorem dX11_give_18 : decode cX11_give 18 = .ok (.invokevirtual 184, 3) := by decide +kernel
theorem dX11_give_21 : decode cX11_give 21 = .ok (.goto 4, 3) := by decide +kernel
theorem dX11_give_24 : decode cX11_give 24 = .ok (.iconst (-1), 1) := by decide +kernel
theorem dX11_give_25 : decode cX11_give 25 = .ok (.ireturn, 1) := by decide +kernel
theorem dX11_acted_0 : decode cX11_acted 0 = .ok (.aload_n 0, 1) := by decide +kernel
theorem dX11_acted_1 : decode cX11_acted 1 = .ok (.getfield 59, 3) := by decide +kernel
theorem dX11_acted_4 : decode cX11_acted 4 = .ok (.aload_n 0, 1) := by decide +kernel
theorem dX11_acted_5 : decode cX11_acted 5 = .ok (.getfield 89, 3) := by decide +kernel
theorem dX11_acted_8 : decode cX11_acted 8 = .ok (.iload_n 1, 1) := by decide +kernel
theorem dX11_acted_9 : decode cX11_acted 9 = .ok (.iload_n 2, 1) := by decide +kernel
theorem dX11_acted_10 : decode cX11_acted 10 = .ok (.iload_n 3, 1) := by decide +kernel
theorem dX11_acted_11 : decode cX11_acted 11 = .ok (.invokevirtual 206, 3) := by decide +kernel
theorem dX11_acted_14 : decode cX11_acted 14 = .ok (.istore 4, 2) := by decide +kernel
theorem dX11_acted_16 : decode cX11_acted 16 = .ok (.iload 4, 2) := by decide +kernel
theorem dX11_acted_18 : decode cX11_acted 18 = .ok (.iconst (-1), 1) := by decide +kernel
theorem dX11_acted_19 : decode cX11_acted 19 = .ok (.if_icmp .eq 25, 3) := by decide +kernel
theorem dX11_acted_22 : decode cX11_acted 22 = .ok (.aload_n 0, 1) := by decide +kernel
theorem dX11_acted_23 : decode cX11_acted 23 = .ok (.getfield 50, 3) := by decide +kernel
theorem dX11_acted_26 : decode cX11_acted 26 = .ok (.iload 4, 2) := by decide +kernel
theorem dX11_acted_28 : decode cX11_acted 28 = .ok (.aload_n 0, 1) := by decide +kernel
theorem dX11_acted_29 : decode cX11_acted 29 = .ok (.getfield 50, 3) := by decide +kernel
theorem dX11_acted_32 : decode cX11_acted 32 = .ok (.iload 4, 2) := by decide +kernel
theorem dX11_acted_34 : decode cX11_acted 34 = .ok (.invokevirtual 210, 3) := by decide +kernel
theorem dX11_acted_37 : decode cX11_acted 37 = .ok (.iconst 1, 1) := by decide +kernel
theorem dX11_acted_38 : decode cX11_acted 38 = .ok (.iadd, 1) := by decide +kernel
theorem dX11_acted_39 : decode cX11_acted 39 = .ok (.invokevirtual 211, 3) := by decide +kernel
theorem dX11_acted_42 : decode cX11_acted 42 = .ok (.iconst 0, 1) := by decide +kernel
theorem dX11_acted_43 : decode cX11_acted 43 = .ok (.ireturn, 1) := by decide +kernel
theorem dX11_acted_44 : decode cX11_acted 44 = .ok (.aload_n 0, 1) := by decide +kernel
theorem dX11_acted_45 : decode cX11_acted 45 = .ok (.getfield 82, 3) := by decide +kernel
theorem dX11_acted_48 : decode cX11_acted 48 = .ok (.aload_n 0, 1) := by decide +kernel
theorem dX11_acted_49 : decode cX11_acted 49 = .ok (.getfield 89, 3) := by decide +kernel
theorem dX11_acted_52 : decode cX11_acted 52 = .ok (.invokevirtual 215, 3) := by decide +kernel
theorem dX11_acted_55 : decode cX11_acted 55 = .ok (.aload_n 0, 1) := by decide +kernel
theorem dX11_acted_56 : decode cX11_acted 56 = .ok (.getfield 59, 3) := by decide +kernel
theorem dX11_acted_59 : decode cX11_acted 59 = .ok (.aload_n 0, 1) := by decide +kernel
theorem dX11_acted_60 : decode cX11_acted 60 = .ok (.getfield 89, 3) := by decide +kernel
theorem dX11_acted_63 : decode cX11_acted 63 = .ok (.iload_n 1, 1) := by decide +kernel
theorem dX11_acted_64 : decode cX11_acted 64 = .ok (.iload_n 2, 1) := by decide +kernel
theorem dX11_acted_65 : decode cX11_acted 65 = .ok (.iload_n 3, 1) := by decide +kernel
theorem dX11_acted_66 : decode cX11_acted 66 = .ok (.invokevirtual 219, 3) := by decide +kernel
theorem dX11_acted_69 : decode cX11_acted 69 = .ok (.iconst 1, 1) := by decide +kernel
theorem dX11_acted_70 : decode cX11_acted 70 = .ok (.ireturn, 1) := by decide +kernel
theorem dX11_years_0 : decode cX11_years 0 = .ok (.aload_n 0, 1) := by decide +kernel
theorem dX11_years_1 : decode cX11_years 1 = .ok (.invokevirtual 223, 3) := by decide +kernel
theorem dX11_years_4 : decode cX11_years 4 = .ok (.ifCond .eq 29, 3) := by decide +kernel
theorem dX11_years_7 : decode cX11_years 7 = .ok (.iload_n 1, 1) := by decide +kernel
theorem dX11_years_8 : decode cX11_years 8 = .ok (.iconst 1, 1) := by decide +kernel
theorem dX11_years_9 : decode cX11_years 9 = .ok (.if_icmp .lt 24, 3) := by decide +kernel
theorem dX11_years_12 : decode cX11_years 12 = .ok (.iload_n 1, 1) := by decide +kernel
theorem dX11_years_13 : decode cX11_years 13 = .ok (.bipush 60, 2) := by decide +kernel
theorem dX11_years_15 : decode cX11_years 15 = .ok (.if_icmp .gt 18, 3) := by decide +kernel
theorem dX11_years_18 : decode cX11_years 18 = .ok (.aload_n 0, 1) := by decide +kernel
theorem dX11_years_19 : decode cX11_years 19 = .ok (.getfield 59, 3) := by decide +kernel
theorem dX11_years_22 : decode cX11_years 22 = .ok (.aload_n 0, 1) := by decide +kernel
theorem dX11_years_23 : decode cX11_years 23 = .ok (.getfield 89, 3) := by decide +kernel
theorem dX11_years_26 : decode cX11_years 26 = .ok (.invokevirtual 227, 3) := by decide +kernel
theorem dX11_years_29 : decode cX11_years 29 = .ok (.iload_n 1, 1) := by decide +kernel
theorem dX11_years_30 : decode cX11_years 30 = .ok (.if_icmp .ge 5, 3) := by decide +kernel
theorem dX11_years_33 : decode cX11_years 33 = .ok (.iconst (-1), 1) := by decide +kernel
theorem dX11_years_34 : decode cX11_years 34 = .ok (.ireturn, 1) := by decide +kernel
theorem dX11_years_35 : decode cX11_years 35 = .ok (.aload_n 0, 1) := by decide +kernel
theorem dX11_years_36 : decode cX11_years 36 = .ok (.getfield 59, 3) := by decide +kernel
theorem dX11_years_39 : decode cX11_years 39 = .ok (.lload_n 2, 1) := by decide +kernel
theorem dX11_years_40 : decode cX11_years 40 = .ok (.invokevirtual 231, 3) := by decide +kernel
theorem dX11_years_43 : decode cX11_years 43 = .ok (.iconst 0, 1) := by decide +kernel
theorem dX11_years_44 : decode cX11_years 44 = .ok (.istore 4, 2) := by decide +kernel
theorem dX11_years_46 : decode cX11_years 46 = .ok (.iload 4, 2) := by decide +kernel
theorem dX11_years_48 : decode cX11_years 48 = .ok (.iload_n 1, 1) := by decide +kernel
theorem dX11_years_49 : decode cX11_years 49 = .ok (.if_icmp .ge 46, 3) := by decide +kernel
theorem dX11_years_52 : decode cX11_years 52 = .ok (.aload_n 0, 1) := by decide +kernel
theorem dX11_years_53 : decode cX11_years 53 = .ok (.getfield 82, 3) := by decide +kernel
theorem dX11_years_56 : decode cX11_years 56 = .ok (.aload_n 0, 1) := by decide +kernel
theorem dX11_years_57 : decode cX11_years 57 = .ok (.getfield 89, 3) := by decide +kernel
theorem dX11_years_60 : decode cX11_years 60 = .ok (.invokevirtual 215, 3) := by decide +kernel
theorem dX11_years_63 : decode cX11_years 63 = .ok (.aload_n 0, 1) := by decide +kernel
theorem dX11_years_64 : decode cX11_years 64 = .ok (.getfield 59, 3) := by decide +kernel
theorem dX11_years_67 : decode cX11_years 67 = .ok (.aload_n 0, 1) := by decide +kernel
theorem dX11_years_68 : decode cX11_years 68 = .ok (.getfield 89, 3) := by decide +kernel
theorem dX11_years_71 : decode cX11_years 71 = .ok (.aload_n 0, 1) := by decide +kernel
theorem dX11_years_72 : decode cX11_years 72 = .ok (.getfield 110, 3) := by decide +kernel
theorem dX11_years_75 : decode cX11_years 75 = .ok (.invokevirtual 235, 3) := by decide +kernel
theorem dX11_years_78 : decode cX11_years 78 = .ok (.aload_n 0, 1) := by decide +kernel
theorem dX11_years_79 : decode cX11_years 79 = .ok (.getfield 59, 3) := by decide +kernel
theorem dX11_years_82 : decode cX11_years 82 = .ok (.aload_n 0, 1) := by decide +kernel
theorem dX11_years_83 : decode cX11_years 83 = .ok (.getfield 89, 3) := by decide +kernel
theorem dX11_years_86 : decode cX11_years 86 = .ok (.invokevirtual 239, 3) := by decide +kernel
theorem dX11_years_89 : decode cX11_years 89 = .ok (.iinc 4 1, 3) := by decide +kernel
theorem dX11_years_92 : decode cX11_years 92 = .ok (.goto (-46), 3) := by decide +kernel
theorem dX11_years_95 : decode cX11_years 95 = .ok (.aload_n 0, 1) := by decide +kernel
theorem dX11_years_96 : decode cX11_years 96 = .ok (.getfield 89, 3) := by decide +kernel
theorem dX11_years_99 : decode cX11_years 99 = .ok (.sipush 145, 3) := by decide +kernel
theorem dX11_years_102 : decode cX11_years 102 = .ok (.invokevirtual 184, 3) := by decide +kernel
theorem dX11_years_105 : decode cX11_years 105 = .ok (.ireturn, 1) := by decide +kernel
theorem dX11_status_0 : decode cX11_status 0 = .ok (.iload_n 1, 1) := by decide +kernel
theorem dX11_status_1 : decode cX11_status 1 = .ok (.ifCond .lt 8, 3) := by decide +kernel
theorem dX11_status_4 : decode cX11_status 4 = .ok (.iload_n 1, 1) := by decide +kernel
theorem dX11_status_5 : decode cX11_status 5 = .ok (.iconst 5, 1) := by decide +kernel
theorem dX11_status_6 : decode cX11_status 6 = .ok (.if_icmp .lt 7, 3) := by decide +kernel
theorem dX11_status_9 : decode cX11_status 9 = .ok (.iconst (-1), 1) := by decide +kernel
theorem dX11_status_10 : decode cX11_status 10 = .ok (.goto 11, 3) := by decide +kernel
theorem dX11_status_13 : decode cX11_status 13 = .ok (.aload_n 0, 1) := by decide +kernel
theorem dX11_status_14 : decode cX11_status 14 = .ok (.getfield 50, 3) := by decide +kernel
theorem dX11_status_17 : decode cX11_status 17 = .ok (.iload_n 1, 1) := by decide +kernel
theorem dX11_status_18 : decode cX11_status 18 = .ok (.invokevirtual 210, 3) := by decide +kernel
theorem dX11_status_21 : decode cX11_status 21 = .ok (.ireturn, 1) := by decide +kernel
theorem dX11_undo_0 : decode cX11_undo 0 = .ok (.aload_n 0, 1) := by decide +kernel
theorem dX11_undo_1 : decode cX11_undo 1 = .ok (.getfield 82, 3) := by decide +kernel
theorem dX11_undo_4 : decode cX11_undo 4 = .ok (.aload_n 0, 1) := by decide +kernel
theorem dX11_undo_5 : decode cX11_undo 5 = .ok (.getfield 89, 3) := by decide +kernel
theorem dX11_undo_8 : decode cX11_undo 8 = .ok (.invokevirtual 242, 3) := by decide +kernel
theorem dX11_undo_11 : decode cX11_undo 11 = .ok (.ifCond .eq 13, 3) := by decide +kernel
theorem dX11_undo_14 : decode cX11_undo 14 = .ok (.aload_n 0, 1) := by decide +kernel
theorem dX11_undo_15 : decode cX11_undo 15 = .ok (.getfield 82, 3) := by decide +kernel
theorem dX11_undo_18 : decode cX11_undo 18 = .ok (.invokevirtual 246, 3) := by decide +kernel
theorem dX11_undo_21 : decode cX11_undo 21 = .ok (.goto 4, 3) := by decide +kernel
theorem dX11_undo_24 : decode cX11_undo 24 = .ok (.iconst (-1), 1) := by decide +kernel
theorem dX11_undo_25 : decode cX11_undo 25 = .ok (.ireturn, 1) := by decide +kernel
theorem dX11_log_0 : decode cX11_log 0 = .ok (.iload_n 1, 1) := by decide +kernel
theorem dX11_log_1 : decode cX11_log 1 = .ok (.ifCond .lt 23, 3) := by decide +kernel
theorem dX11_log_4 : decode cX11_log 4 = .ok (.iload_n 1, 1) := by decide +kernel
theorem dX11_log_5 : decode cX11_log 5 = .ok (.aload_n 0, 1) := by decide +kernel
theorem dX11_log_6 : decode cX11_log 6 = .ok (.getfield 89, 3) := by decide +kernel
theorem dX11_log_9 : decode cX11_log 9 = .ok (.invokevirtual 249, 3) := by decide +kernel
theorem dX11_log_12 : decode cX11_log 12 = .ok (.if_icmp .ge 12, 3) := by decide +kernel
theorem dX11_log_15 : decode cX11_log 15 = .ok (.iload_n 2, 1) := by decide +kernel
theorem dX11_log_16 : decode cX11_log 16 = .ok (.ifCond .lt 8, 3) := by decide +kernel
theorem dX11_log_19 : decode cX11_log 19 = .ok (.iload_n 2, 1) := by decide +kernel
theorem dX11_log_20 : decode cX11_log 20 = .ok (.iconst 2, 1) := by decide +kernel
theorem dX11_log_21 : decode cX11_log 21 = .ok (.if_icmp .le 6, 3) := by decide +kernel
theorem dX11_log_24 : decode cX11_log 24 = .ok (.ldc 180, 2) := by decide +kernel
theorem dX11_log_26 : decode cX11_log 26 = .ok (.ireturn, 1) := by decide +kernel
theorem dX11_log_27 : decode cX11_log 27 = .ok (.aload_n 0, 1) := by decide +kernel
theorem dX11_log_28 : decode cX11_log 28 = .ok (.getfield 89, 3) := by decide +kernel
theorem dX11_log_31 : decode cX11_log 31 = .ok (.iload_n 1, 1) := by decide +kernel
theorem dX11_log_32 : decode cX11_log 32 = .ok (.iload_n 2, 1) := by decide +kernel
theorem dX11_log_33 : decode cX11_log 33 = .ok (.invokevirtual 252, 3) := by decide +kernel
theorem dX11_log_36 : decode cX11_log 36 = .ok (.ireturn, 1) := by decide +kernel
theorem dX11_step_0 : decode cX11_step 0 = .ok (.aload_n 0, 1) := by decide +kernel
theorem dX11_step_1 : decode cX11_step 1 = .ok (.iload_n 1, 1) := by decide +kernel
theorem dX11_step_2 : decode cX11_step 2 = .ok (.invokevirtual 255, 3) := by decide +kernel
theorem dX11_step_5 : decode cX11_step 5 = .ok (.ifCond .eq 12, 3) := by decide +kernel
theorem dX11_step_8 : decode cX11_step 8 = .ok (.iload_n 3, 1) := by decide +kernel
theorem dX11_step_9 : decode cX11_step 9 = .ok (.ifCond .lt 8, 3) := by decide +kernel
theorem dX11_step_12 : decode cX11_step 12 = .ok (.iload_n 3, 1) := by decide +kernel
theorem dX11_step_13 : decode cX11_step 13 = .ok (.iconst 3, 1) := by decide +kernel
theorem dX11_step_14 : decode cX11_step 14 = .ok (.if_icmp .lt 6, 3) := by decide +kernel
theorem dX11_step_17 : decode cX11_step 17 = .ok (.ldc 180, 2) := by decide +kernel
theorem dX11_step_19 : decode cX11_step 19 = .ok (.ireturn, 1) := by decide +kernel
theorem dX11_step_20 : decode cX11_step 20 = .ok (.aload_n 0, 1) := by decide +kernel
theorem dX11_step_21 : decode cX11_step 21 = .ok (.iload_n 1, 1) := by decide +kernel
theorem dX11_step_22 : decode cX11_step 22 = .ok (.invokevirtual 156, 3) := by decide +kernel
theorem dX11_step_25 : decode cX11_step 25 = .ok (.astore 4, 2) := by decide +kernel
theorem dX11_step_27 : decode cX11_step 27 = .ok (.aload 4, 2) := by decide +kernel
theorem dX11_step_29 : decode cX11_step 29 = .ok (.ifnull 16, 3) := by decide +kernel
theorem dX11_step_32 : decode cX11_step 32 = .ok (.iload_n 2, 1) := by decide +kernel
theorem dX11_step_33 : decode cX11_step 33 = .ok (.ifCond .lt 12, 3) := by decide +kernel
theorem dX11_step_36 : decode cX11_step 36 = .ok (.iload_n 2, 1) := by decide +kernel
theorem dX11_step_37 : decode cX11_step 37 = .ok (.aload 4, 2) := by decide +kernel
theorem dX11_step_39 : decode cX11_step 39 = .ok (.invokevirtual 258, 3) := by decide +kernel
theorem dX11_step_42 : decode cX11_step 42 = .ok (.if_icmp .lt 8, 3) := by decide +kernel
theorem dX11_step_45 : decode cX11_step 45 = .ok (.ldc 180, 2) := by decide +kernel
theorem dX11_step_47 : decode cX11_step 47 = .ok (.goto 10, 3) := by decide +kernel
theorem dX11_step_50 : decode cX11_step 50 = .ok (.aload 4, 2) := by decide +kernel
theorem dX11_step_52 : decode cX11_step 52 = .ok (.iload_n 2, 1) := by decide +kernel
theorem dX11_step_53 : decode cX11_step 53 = .ok (.iload_n 3, 1) := by decide +kernel
theorem dX11_step_54 : decode cX11_step 54 = .ok (.invokevirtual 261, 3) := by decide +kernel
theorem dX11_step_57 : decode cX11_step 57 = .ok (.ireturn, 1) := by decide +kernel
theorem dX11_run_0 : decode cX11_run 0 = .ok (.aload_n 0, 1) := by decide +kernel
theorem dX11_run_1 : decode cX11_run 1 = .ok (.iload_n 1, 1) := by decide +kernel
theorem dX11_run_2 : decode cX11_run 2 = .ok (.invokevirtual 255, 3) := by decide +kernel
theorem dX11_run_5 : decode cX11_run 5 = .ok (.ifCond .eq 19, 3) := by decide +kernel
theorem dX11_run_8 : decode cX11_run 8 = .ok (.aload_n 0, 1) := by decide +kernel
theorem dX11_run_9 : decode cX11_run 9 = .ok (.invokevirtual 223, 3) := by decide +kernel
theorem dX11_run_12 : decode cX11_run 12 = .ok (.ifCond .eq 12, 3) := by decide +kernel
theorem dX11_run_15 : decode cX11_run 15 = .ok (.iload_n 2, 1) := by decide +kernel
theorem dX11_run_16 : decode cX11_run 16 = .ok (.ifCond .lt 8, 3) := by decide +kernel
theorem dX11_run_19 : decode cX11_run 19 = .ok (.iload_n 2, 1) := by decide +kernel
theorem dX11_run_20 : decode cX11_run 20 = .ok (.iconst 1, 1) := by decide +kernel
theorem dX11_run_21 : decode cX11_run 21 = .ok (.if_icmp .le 6, 3) := by decide +kernel
theorem dX11_run_24 : decode cX11_run 24 = .ok (.ldc 180, 2) := by decide +kernel
theorem dX11_run_26 : decode cX11_run 26 = .ok (.ireturn, 1) := by decide +kernel
theorem dX11_run_27 : decode cX11_run 27 = .ok (.aload_n 0, 1) := by decide +kernel
theorem dX11_run_28 : decode cX11_run 28 = .ok (.getfield 68, 3) := by decide +kernel
theorem dX11_run_31 : decode cX11_run 31 = .ok (.aload_n 0, 1) := by decide +kernel
theorem dX11_run_32 : decode cX11_run 32 = .ok (.getfield 89, 3) := by decide +kernel
theorem dX11_run_35 : decode cX11_run 35 = .ok (.aload_n 0, 1) := by decide +kernel
theorem dX11_run_36 : decode cX11_run 36 = .ok (.iload_n 1, 1) := by decide +kernel
theorem dX11_run_37 : decode cX11_run 37 = .ok (.invokevirtual 156, 3) := by decide +kernel
theorem dX11_run_40 : decode cX11_run 40 = .ok (.iload_n 2, 1) := by decide +kernel
theorem dX11_run_41 : decode cX11_run 41 = .ok (.invokevirtual 264, 3) := by decide +kernel
theorem dX11_run_44 : decode cX11_run 44 = .ok (.ireturn, 1) := by decide +kernel
theorem dX11_perform_0 : decode cX11_perform 0 = .ok (.aload_n 0, 1) := by decide +kernel
theorem dX11_perform_1 : decode cX11_perform 1 = .ok (.iload_n 1, 1) := by decide +kernel
theorem dX11_perform_2 : decode cX11_perform 2 = .ok (.invokevirtual 156, 3) := by decide +kernel
theorem dX11_perform_5 : decode cX11_perform 5 = .ok (.astore_n 2, 1) := by decide +kernel
theorem dX11_perform_6 : decode cX11_perform 6 = .ok (.aload_n 0, 1) := by decide +kernel
theorem dX11_perform_7 : decode cX11_perform 7 = .ok (.iload_n 1, 1) := by decide +kernel
theorem dX11_perform_8 : decode cX11_perform 8 = .ok (.invokevirtual 255, 3) := by decide +kernel
theorem dX11_perform_11 : decode cX11_perform 11 = .ok (.ifCond .eq 14, 3) := by decide +kernel
theorem dX11_perform_14 : decode cX11_perform 14 = .ok (.aload_n 2, 1) := by decide +kernel
theorem dX11_perform_15 : decode cX11_perform 15 = .ok (.ifnull 10, 3) := by decide +kernel
theorem dX11_perform_18 : decode cX11_perform 18 = .ok (.aload_n 0, 1) := by decide +kernel
theorem dX11_perform_19 : decode cX11_perform 19 = .ok (.invokevirtual 223, 3) := by decide +kernel
theorem dX11_perform_22 : decode cX11_perform 22 = .ok (.ifCond .ne 5, 3) := by decide +kernel
theorem dX11_perform_25 : decode cX11_perform 25 = .ok (.iconst (-1), 1) := by decide +kernel
theorem dX11_perform_26 : decode cX11_perform 26 = .ok (.ireturn, 1) := by decide +kernel
theorem dX11_perform_27 : decode cX11_perform 27 = .ok (.iconst 0, 1) := by decide +kernel
theorem dX11_perform_28 : decode cX11_perform 28 = .ok (.istore_n 3, 1) := by decide +kernel
theorem dX11_perform_29 : decode cX11_perform 29 = .ok (.iload_n 3, 1) := by decide +kernel
theorem dX11_perform_30 : decode cX11_perform 30 = .ok (.aload_n 2, 1) := by decide +kernel
theorem dX11_perform_31 : decode cX11_perform 31 = .ok (.invokevirtual 258, 3) := by decide +kernel
theorem dX11_perform_34 : decode cX11_perform 34 = .ok (.if_icmp .ge 65, 3) := by decide +kernel
theorem dX11_perform_37 : decode cX11_perform 37 = .ok (.aload_n 0, 1) := by decide +kernel
theorem dX11_perform_38 : decode cX11_perform 38 = .ok (.getfield 59, 3) := by decide +kernel
theorem dX11_perform_41 : decode cX11_perform 41 = .ok (.aload_n 0, 1) := by decide +kernel
theorem dX11_perform_42 : decode cX11_perform 42 = .ok (.getfield 89, 3) := by decide +kernel
theorem dX11_perform_45 : decode cX11_perform 45 = .ok (.aload_n 2, 1) := by decide +kernel
theorem dX11_perform_46 : decode cX11_perform 46 = .ok (.iload_n 3, 1) := by decide +kernel
theorem dX11_perform_47 : decode cX11_perform 47 = .ok (.invokevirtual 268, 3) := by decide +kernel
theorem dX11_perform_50 : decode cX11_perform 50 = .ok (.ifCond .eq 49, 3) := by decide +kernel
theorem dX11_perform_53 : decode cX11_perform 53 = .ok (.aload_n 0, 1) := by decide +kernel
theorem dX11_perform_54 : decode cX11_perform 54 = .ok (.getfield 82, 3) := by decide +kernel
theorem dX11_perform_57 : decode cX11_perform 57 = .ok (.aload_n 0, 1) := by decide +kernel
theorem dX11_perform_58 : decode cX11_perform 58 = .ok (.getfield 89, 3) := by decide +kernel
theorem dX11_perform_61 : decode cX11_perform 61 = .ok (.invokevirtual 215, 3) := by decide +kernel
theorem dX11_perform_64 : decode cX11_perform 64 = .ok (.aload_n 0, 1) := by decide +kernel
theorem dX11_perform_65 : decode cX11_perform 65 = .ok (.getfield 59, 3) := by decide +kernel
theorem dX11_perform_68 : decode cX11_perform 68 = .ok (.aload_n 0, 1) := by decide +kernel
theorem dX11_perform_69 : decode cX11_perform 69 = .ok (.getfield 89, 3) := by decide +kernel
theorem dX11_perform_72 : decode cX11_perform 72 = .ok (.aload_n 2, 1) := by decide +kernel
theorem dX11_perform_73 : decode cX11_perform 73 = .ok (.iload_n 3, 1) := by decide +kernel
theorem dX11_perform_74 : decode cX11_perform 74 = .ok (.iconst 0, 1) := by decide +kernel
theorem dX11_perform_75 : decode cX11_perform 75 = .ok (.invokevirtual 261, 3) := by decide +kernel
theorem dX11_perform_78 : decode cX11_perform 78 = .ok (.aload_n 2, 1) := by decide +kernel
theorem dX11_perform_79 : decode cX11_perform 79 = .ok (.iload_n 3, 1) := by decide +kernel
theorem dX11_perform_80 : decode cX11_perform 80 = .ok (.iconst 1, 1) := by decide +kernel
theorem dX11_perform_81 : decode cX11_perform 81 = .ok (.invokevirtual 261, 3) := by decide +kernel
theorem dX11_perform_84 : decode cX11_perform 84 = .ok (.aload_n 2, 1) := by decide +kernel
theorem dX11_perform_85 : decode cX11_perform 85 = .ok (.iload_n 3, 1) := by decide +kernel
theorem dX11_perform_86 : decode cX11_perform 86 = .ok (.iconst 2, 1) := by decide +kernel
theorem dX11_perform_87 : decode cX11_perform 87 = .ok (.invokevirtual 261, 3) := by decide +kernel
theorem dX11_perform_90 : decode cX11_perform 90 = .ok (.invokevirtual 219, 3) := by decide +kernel
theorem dX11_perform_93 : decode cX11_perform 93 = .ok (.iinc 3 1, 3) := by decide +kernel
theorem dX11_perform_96 : decode cX11_perform 96 = .ok (.goto (-67), 3) := by decide +kernel
theorem dX11_perform_99 : decode cX11_perform 99 = .ok (.iload_n 3, 1) := by decide +kernel
theorem dX11_perform_100 : decode cX11_perform 100 = .ok (.ireturn, 1) := by decide +kernel
theorem dX11_isCalendar_0 : decode cX11_isCalendar 0 = .ok (.iload_n 1, 1) := by decide +kernel
theorem dX11_isCalendar_1 : decode cX11_isCalendar 1 = .ok (.ifCond .lt 15, 3) := by decide +kernel
theorem dX11_isCalendar_4 : decode cX11_isCalendar 4 = .ok (.iload_n 1, 1) := by decide +kernel
theorem dX11_isCalendar_5 : decode cX11_isCalendar 5 = .ok (.aload_n 0, 1) := by decide +kernel
theorem dX11_isCalendar_6 : decode cX11_isCalendar 6 = .ok (.getfield 104, 3) := by decide +kernel
theorem dX11_isCalendar_9 : decode cX11_isCalendar 9 = .ok (.if_icmp .ge 7, 3) := by decide +kernel
theorem dX11_isCalendar_12 : decode cX11_isCalendar 12 = .ok (.iconst 1, 1) := by decide +kernel
theorem dX11_isCalendar_13 : decode cX11_isCalendar 13 = .ok (.goto 4, 3) := by decide +kernel
theorem dX11_isCalendar_16 : decode cX11_isCalendar 16 = .ok (.iconst 0, 1) := by decide +kernel
theorem dX11_isCalendar_17 : decode cX11_isCalendar 17 = .ok (.ireturn, 1) := by decide +kernel
theorem dX11_light_0 : decode cX11_light 0 = .ok (.aload_n 0, 1) := by decide +kernel
theorem dX11_light_1 : decode cX11_light 1 = .ok (.getfield 19, 3) := by decide +kernel
theorem dX11_light_4 : decode cX11_light 4 = .ok (.iload_n 1, 1) := by decide +kernel
theorem dX11_light_5 : decode cX11_light 5 = .ok (.invokevirtual 272, 3) := by decide +kernel
theorem dX11_light_8 : decode cX11_light 8 = .ok (.ifCond .eq 18, 3) := by decide +kernel
theorem dX11_light_11 : decode cX11_light 11 = .ok (.aload_n 0, 1) := by decide +kernel
theorem dX11_light_12 : decode cX11_light 12 = .ok (.getfield 59, 3) := by decide +kernel
theorem dX11_light_15 : decode cX11_light 15 = .ok (.aload_n 0, 1) := by decide +kernel
theorem dX11_light_16 : decode cX11_light 16 = .ok (.getfield 89, 3) := by decide +kernel
theorem dX11_light_19 : decode cX11_light 19 = .ok (.iload_n 1, 1) := by decide +kernel
theorem dX11_light_20 : decode cX11_light 20 = .ok (.invokevirtual 275, 3) := by decide +kernel
theorem dX11_light_23 : decode cX11_light 23 = .ok (.goto 4, 3) := by decide +kernel
theorem dX11_light_26 : decode cX11_light 26 = .ok (.iconst (-1), 1) := by decide +kernel
theorem dX11_light_27 : decode cX11_light 27 = .ok (.ireturn, 1) := by decide +kernel
theorem dX11_coming_0 : decode cX11_coming 0 = .ok (.aload_n 0, 1) := by decide +kernel
theorem dX11_coming_1 : decode cX11_coming 1 = .ok (.invokevirtual 223, 3) := by decide +kernel
theorem dX11_coming_4 : decode cX11_coming 4 = .ok (.ifCond .eq 12, 3) := by decide +kernel
theorem dX11_coming_7 : decode cX11_coming 7 = .ok (.iload_n 1, 1) := by decide +kernel
theorem dX11_coming_8 : decode cX11_coming 8 = .ok (.ifCond .lt 8, 3) := by decide +kernel
theorem dX11_coming_11 : decode cX11_coming 11 = .ok (.iload_n 1, 1) := by decide +kernel
theorem dX11_coming_12 : decode cX11_coming 12 = .ok (.iconst 1, 1) := by decide +kernel
theorem dX11_coming_13 : decode cX11_coming 13 = .ok (.if_icmp .le 5, 3) := by decide +kernel
theorem dX11_coming_16 : decode cX11_coming 16 = .ok (.iconst (-1), 1) := by decide +kernel
theorem dX11_coming_17 : decode cX11_coming 17 = .ok (.ireturn, 1) := by decide +kernel
theorem dX11_coming_18 : decode cX11_coming 18 = .ok (.aload_n 0, 1) := by decide +kernel
theorem dX11_coming_19 : decode cX11_coming 19 = .ok (.getfield 59, 3) := by decide +kernel
theorem dX11_coming_22 : decode cX11_coming 22 = .ok (.aload_n 0, 1) := by decide +kernel
theorem dX11_coming_23 : decode cX11_coming 23 = .ok (.getfield 89, 3) := by decide +kernel
theorem dX11_coming_26 : decode cX11_coming 26 = .ok (.aload_n 0, 1) := by decide +kernel
theorem dX11_coming_27 : decode cX11_coming 27 = .ok (.getfield 89, 3) := by decide +kernel
theorem dX11_coming_30 : decode cX11_coming 30 = .ok (.aload_n 0, 1) := by decide +kernel
theorem dX11_coming_31 : decode cX11_coming 31 = .ok (.getfield 19, 3) := by decide +kernel
theorem dX11_coming_34 : decode cX11_coming 34 = .ok (.invokevirtual 142, 3) := by decide +kernel
theorem dX11_coming_37 : decode cX11_coming 37 = .ok (.invokevirtual 279, 3) := by decide +kernel
theorem dX11_coming_40 : decode cX11_coming 40 = .ok (.invokevirtual 282, 3) := by decide +kernel
theorem dX11_coming_43 : decode cX11_coming 43 = .ok (.istore_n 2, 1) := by decide +kernel
theorem dX11_coming_44 : decode cX11_coming 44 = .ok (.iload_n 1, 1) := by decide +kernel
theorem dX11_coming_45 : decode cX11_coming 45 = .ok (.ifCond .ne 7, 3) := by decide +kernel
theorem dX11_coming_48 : decode cX11_coming 48 = .ok (.iload_n 2, 1) := by decide +kernel
theorem dX11_coming_49 : decode cX11_coming 49 = .ok (.goto 15, 3) := by decide +kernel
theorem dX11_coming_52 : decode cX11_coming 52 = .ok (.aload_n 0, 1) := by decide +kernel
theorem dX11_coming_53 : decode cX11_coming 53 = .ok (.getfield 59, 3) := by decide +kernel
theorem dX11_coming_56 : decode cX11_coming 56 = .ok (.aload_n 0, 1) := by decide +kernel
theorem dX11_coming_57 : decode cX11_coming 57 = .ok (.getfield 89, 3) := by decide +kernel
theorem dX11_coming_60 : decode cX11_coming 60 = .ok (.iload_n 2, 1) := by decide +kernel
theorem dX11_coming_61 : decode cX11_coming 61 = .ok (.invokevirtual 275, 3) := by decide +kernel
theorem dX11_coming_64 : decode cX11_coming 64 = .ok (.ireturn, 1) := by decide +kernel
theorem dX11_may_0 : decode cX11_may 0 = .ok (.aload_n 0, 1) := by decide +kernel
theorem dX11_may_1 : decode cX11_may 1 = .ok (.invokevirtual 223, 3) := by decide +kernel
theorem dX11_may_4 : decode cX11_may 4 = .ok (.ifCond .eq 13, 3) := by decide +kernel
theorem dX11_may_7 : decode cX11_may 7 = .ok (.iload_n 1, 1) := by decide +kernel
theorem dX11_may_8 : decode cX11_may 8 = .ok (.ifCond .lt 9, 3) := by decide +kernel
theorem dX11_may_11 : decode cX11_may 11 = .ok (.iload_n 1, 1) := by decide +kernel
theorem dX11_may_12 : decode cX11_may 12 = .ok (.bipush 20, 2) := by decide +kernel
theorem dX11_may_14 : decode cX11_may 14 = .ok (.if_icmp .le 7, 3) := by decide +kernel
theorem dX11_may_17 : decode cX11_may 17 = .ok (.iconst (-1), 1) := by decide +kernel
theorem dX11_may_18 : decode cX11_may 18 = .ok (.goto 15, 3) := by decide +kernel
theorem dX11_may_21 : decode cX11_may 21 = .ok (.aload_n 0, 1) := by decide +kernel
theorem dX11_may_22 : decode cX11_may 22 = .ok (.getfield 68, 3) := by decide +kernel
theorem dX11_may_25 : decode cX11_may 25 = .ok (.aload_n 0, 1) := by decide +kernel
theorem dX11_may_26 : decode cX11_may 26 = .ok (.getfield 89, 3) := by decide +kernel
theorem dX11_may_29 : decode cX11_may 29 = .ok (.iload_n 1, 1) := by decide +kernel
theorem dX11_may_30 : decode cX11_may 30 = .ok (.invokevirtual 285, 3) := by decide +kernel
theorem dX11_may_33 : decode cX11_may 33 = .ok (.ireturn, 1) := by decide +kernel
theorem dX11_governs_0 : decode cX11_governs 0 = .ok (.aload_n 0, 1) := by decide +kernel
theorem dX11_governs_1 : decode cX11_governs 1 = .ok (.invokevirtual 223, 3) := by decide +kernel
theorem dX11_governs_4 : decode cX11_governs 4 = .ok (.ifCond .eq 13, 3) := by decide +kernel
theorem dX11_governs_7 : decode cX11_governs 7 = .ok (.iload_n 1, 1) := by decide +kernel
theorem dX11_governs_8 : decode cX11_governs 8 = .ok (.ifCond .lt 9, 3) := by decide +kernel
theorem dX11_governs_11 : decode cX11_governs 11 = .ok (.iload_n 1, 1) := by decide +kernel
theorem dX11_governs_12 : decode cX11_governs 12 = .ok (.bipush 60, 2) := by decide +kernel
theorem dX11_governs_14 : decode cX11_governs 14 = .ok (.if_icmp .le 8, 3) := by decide +kernel
theorem dX11_governs_17 : decode cX11_governs 17 = .ok (.ldc 180, 2) := by decide +kernel
theorem dX11_governs_19 : decode cX11_governs 19 = .ok (.goto 15, 3) := by decide +kernel
theorem dX11_governs_22 : decode cX11_governs 22 = .ok (.aload_n 0, 1) := by decide +kernel
theorem dX11_governs_23 : decode cX11_governs 23 = .ok (.getfield 68, 3) := by decide +kernel
theorem dX11_governs_26 : decode cX11_governs 26 = .ok (.aload_n 0, 1) := by decide +kernel
theorem dX11_governs_27 : decode cX11_governs 27 = .ok (.getfield 89, 3) := by decide +kernel
theorem dX11_governs_30 : decode cX11_governs 30 = .ok (.iload_n 1, 1) := by decide +kernel
theorem dX11_governs_31 : decode cX11_governs 31 = .ok (.invokevirtual 288, 3) := by decide +kernel
theorem dX11_governs_34 : decode cX11_governs 34 = .ok (.ireturn, 1) := by decide +kernel
theorem dX11_round_0 : decode cX11_round 0 = .ok (.aload_n 0, 1) := by decide +kernel
theorem dX11_round_1 : decode cX11_round 1 = .ok (.invokevirtual 223, 3) := by decide +kernel
theorem dX11_round_4 : decode cX11_round 4 = .ok (.ifCond .eq 12, 3) := by decide +kernel
theorem dX11_round_7 : decode cX11_round 7 = .ok (.iload_n 1, 1) := by decide +kernel
theorem dX11_round_8 : decode cX11_round 8 = .ok (.ifCond .lt 8, 3) := by decide +kernel
theorem dX11_round_11 : decode cX11_round 11 = .ok (.iload_n 1, 1) := by decide +kernel
theorem dX11_round_12 : decode cX11_round 12 = .ok (.iconst 1, 1) := by decide +kernel
theorem dX11_round_13 : decode cX11_round 13 = .ok (.if_icmp .le 7, 3) := by decide +kernel
theorem dX11_round_16 : decode cX11_round 16 = .ok (.iconst (-1), 1) := by decide +kernel
theorem dX11_round_17 : decode cX11_round 17 = .ok (.goto 15, 3) := by decide +kernel
theorem dX11_round_20 : decode cX11_round 20 = .ok (.aload_n 0, 1) := by decide +kernel
theorem dX11_round_21 : decode cX11_round 21 = .ok (.getfield 68, 3) := by decide +kernel
theorem dX11_round_24 : decode cX11_round 24 = .ok (.aload_n 0, 1) := by decide +kernel
theorem dX11_round_25 : decode cX11_round 25 = .ok (.getfield 89, 3) := by decide +kernel
theorem dX11_round_28 : decode cX11_round 28 = .ok (.iload_n 1, 1) := by decide +kernel
theorem dX11_round_29 : decode cX11_round 29 = .ok (.invokevirtual 291, 3) := by decide +kernel
theorem dX11_round_32 : decode cX11_round 32 = .ok (.ireturn, 1) := by decide +kernel
theorem dX11_swings_0 : decode cX11_swings 0 = .ok (.aload_n 0, 1) := by decide +kernel
theorem dX11_swings_1 : decode cX11_swings 1 = .ok (.getfield 19, 3) := by decide +kernel
theorem dX11_swings_4 : decode cX11_swings 4 = .ok (.iload_n 1, 1) := by decide +kernel
theorem dX11_swings_5 : decode cX11_swings 5 = .ok (.invokevirtual 177, 3) := by decide +kernel
theorem dX11_swings_8 : decode cX11_swings 8 = .ok (.ifCond .eq 18, 3) := by decide +kernel
theorem dX11_swings_11 : decode cX11_swings 11 = .ok (.aload_n 0, 1) := by decide +kernel
theorem dX11_swings_12 : decode cX11_swings 12 = .ok (.getfield 68, 3) := by decide +kernel
theorem dX11_swings_15 : decode cX11_swings 15 = .ok (.aload_n 0, 1) := by decide +kernel
theorem dX11_swings_16 : decode cX11_swings 16 = .ok (.getfield 89, 3) := by decide +kernel
theorem dX11_swings_19 : decode cX11_swings 19 = .ok (.iload_n 1, 1) := by decide +kernel
theorem dX11_swings_20 : decode cX11_swings 20 = .ok (.invokevirtual 294, 3) := by decide +kernel
theorem dX11_swings_23 : decode cX11_swings 23 = .ok (.goto 4, 3) := by decide +kernel
theorem dX11_swings_26 : decode cX11_swings 26 = .ok (.iconst (-1), 1) := by decide +kernel
theorem dX11_swings_27 : decode cX11_swings 27 = .ok (.ireturn, 1) := by decide +kernel
theorem dX11_bedding_0 : decode cX11_bedding 0 = .ok (.aload_n 0, 1) := by decide +kernel
theorem dX11_bedding_1 : decode cX11_bedding 1 = .ok (.getfield 19, 3) := by decide +kernel
theorem dX11_bedding_4 : decode cX11_bedding 4 = .ok (.iload_n 1, 1) := by decide +kernel
theorem dX11_bedding_5 : decode cX11_bedding 5 = .ok (.invokevirtual 177, 3) := by decide +kernel
theorem dX11_bedding_8 : decode cX11_bedding 8 = .ok (.ifCond .eq 18, 3) := by decide +kernel
theorem dX11_bedding_11 : decode cX11_bedding 11 = .ok (.aload_n 0, 1) := by decide +kernel
theorem dX11_bedding_12 : decode cX11_bedding 12 = .ok (.getfield 68, 3) := by decide +kernel
theorem dX11_bedding_15 : decode cX11_bedding 15 = .ok (.aload_n 0, 1) := by decide +kernel
theorem dX11_bedding_16 : decode cX11_bedding 16 = .ok (.getfield 89, 3) := by decide +kernel
theorem dX11_bedding_19 : decode cX11_bedding 19 = .ok (.iload_n 1, 1) := by decide +kernel
theorem dX11_bedding_20 : decode cX11_bedding 20 = .ok (.invokevirtual 297, 3) := by decide +kernel
theorem dX11_bedding_23 : decode cX11_bedding 23 = .ok (.goto 4, 3) := by decide +kernel
theorem dX11_bedding_26 : decode cX11_bedding 26 = .ok (.iconst (-1), 1) := by decide +kernel
theorem dX11_bedding_27 : decode cX11_bedding 27 = .ok (.ireturn, 1) := by decide +kernel
theorem dX11_coins_0 : decode cX11_coins 0 = .ok (.aload_n 0, 1) := by decide +kernel
theorem dX11_coins_1 : decode cX11_coins 1 = .ok (.invokevirtual 223, 3) := by decide +kernel
theorem dX11_coins_4 : decode cX11_coins 4 = .ok (.ifCond .eq 13, 3) := by decide +kernel
theorem dX11_coins_7 : decode cX11_coins 7 = .ok (.iload_n 1, 1) := by decide +kernel
theorem dX11_coins_8 : decode cX11_coins 8 = .ok (.ifCond .lt 9, 3) := by decide +kernel
theorem dX11_coins_11 : decode cX11_coins 11 = .ok (.iload_n 1, 1) := by decide +kernel
theorem dX11_coins_12 : decode cX11_coins 12 = .ok (.bipush 99, 2) := by decide +kernel
theorem dX11_coins_14 : decode cX11_coins 14 = .ok (.if_icmp .le 7, 3) := by decide +kernel
theorem dX11_coins_17 : decode cX11_coins 17 = .ok (.iconst (-1), 1) := by decide +kernel
theorem dX11_coins_18 : decode cX11_coins 18 = .ok (.goto 15, 3) := by decide +kernel
theorem dX11_coins_21 : decode cX11_coins 21 = .ok (.aload_n 0, 1) := by decide +kernel
theorem dX11_coins_22 : decode cX11_coins 22 = .ok (.getfield 68, 3) := by decide +kernel
theorem dX11_coins_25 : decode cX11_coins 25 = .ok (.aload_n 0, 1) := by decide +kernel
theorem dX11_coins_26 : decode cX11_coins 26 = .ok (.getfield 89, 3) := by decide +kernel
theorem dX11_coins_29 : decode cX11_coins 29 = .ok (.iload_n 1, 1) := by decide +kernel
theorem dX11_coins_30 : decode cX11_coins 30 = .ok (.invokevirtual 300, 3) := by decide +kernel
theorem dX11_coins_33 : decode cX11_coins 33 = .ok (.ireturn, 1) := by decide +kernel
theorem dX11_seen_0 : decode cX11_seen 0 = .ok (.aload_n 0, 1) := by decide +kernel
theorem dX11_seen_1 : decode cX11_seen 1 = .ok (.invokevirtual 223, 3) := by decide +kernel
theorem dX11_seen_4 : decode cX11_seen 4 = .ok (.ifCond .eq 35, 3) := by decide +kernel
theorem dX11_seen_7 : decode cX11_seen 7 = .ok (.iload_n 1, 1) := by decide +kernel
theorem dX11_seen_8 : decode cX11_seen 8 = .ok (.iconst 1, 1) := by decide +kernel
theorem dX11_seen_9 : decode cX11_seen 9 = .ok (.if_icmp .lt 30, 3) := by decide +kernel
theorem dX11_seen_12 : decode cX11_seen 12 = .ok (.iload_n 1, 1) := by decide +kernel
theorem dX11_seen_13 : decode cX11_seen 13 = .ok (.bipush 60, 2) := by decide +kernel
theorem dX11_seen_15 : decode cX11_seen 15 = .ok (.if_icmp .gt 24, 3) := by decide +kernel
theorem dX11_seen_18 : decode cX11_seen 18 = .ok (.iload_n 2, 1) := by decide +kernel
theorem dX11_seen_19 : decode cX11_seen 19 = .ok (.ifCond .lt 20, 3) := by decide +kernel
theorem dX11_seen_22 : decode cX11_seen 22 = .ok (.iload_n 2, 1) := by decide +kernel
theorem dX11_seen_23 : decode cX11_seen 23 = .ok (.sipush 999, 3) := by decide +kernel
theorem dX11_seen_26 : decode cX11_seen 26 = .ok (.if_icmp .gt 13, 3) := by decide +kernel
theorem dX11_seen_29 : decode cX11_seen 29 = .ok (.aload_n 0, 1) := by decide +kernel
theorem dX11_seen_30 : decode cX11_seen 30 = .ok (.getfield 75, 3) := by decide +kernel
theorem dX11_seen_33 : decode cX11_seen 33 = .ok (.invokevirtual 303, 3) := by decide +kernel
theorem dX11_seen_36 : decode cX11_seen 36 = .ok (.ifCond .eq 5, 3) := by decide +kernel
theorem dX11_seen_39 : decode cX11_seen 39 = .ok (.iconst (-1), 1) := by decide +kernel
theorem dX11_seen_40 : decode cX11_seen 40 = .ok (.ireturn, 1) := by decide +kernel
theorem dX11_seen_41 : decode cX11_seen 41 = .ok (.aload_n 0, 1) := by decide +kernel
theorem dX11_seen_42 : decode cX11_seen 42 = .ok (.getfield 75, 3) := by decide +kernel
theorem dX11_seen_45 : decode cX11_seen 45 = .ok (.iload_n 1, 1) := by decide +kernel
theorem dX11_seen_46 : decode cX11_seen 46 = .ok (.iload_n 2, 1) := by decide +kernel
theorem dX11_seen_47 : decode cX11_seen 47 = .ok (.iload_n 3, 1) := by decide +kernel
theorem dX11_seen_48 : decode cX11_seen 48 = .ok (.invokevirtual 306, 3) := by decide +kernel
theorem dX11_seen_51 : decode cX11_seen 51 = .ok (.aload_n 0, 1) := by decide +kernel
theorem dX11_seen_52 : decode cX11_seen 52 = .ok (.getfield 75, 3) := by decide +kernel
theorem dX11_seen_55 : decode cX11_seen 55 = .ok (.invokevirtual 310, 3) := by decide +kernel
theorem dX11_seen_58 : decode cX11_seen 58 = .ok (.ireturn, 1) := by decide +kernel
theorem dX11_habits_0 : decode cX11_habits 0 = .ok (.aload_n 0, 1) := by decide +kernel
theorem dX11_habits_1 : decode cX11_habits 1 = .ok (.getfield 19, 3) := by decide +kernel
theorem dX11_habits_4 : decode cX11_habits 4 = .ok (.iload_n 1, 1) := by decide +kernel
theorem dX11_habits_5 : decode cX11_habits 5 = .ok (.invokevirtual 189, 3) := by decide +kernel
theorem dX11_habits_8 : decode cX11_habits 8 = .ok (.ifCond .ne 5, 3) := by decide +kernel
theorem dX11_habits_11 : decode cX11_habits 11 = .ok (.iconst (-1), 1) := by decide +kernel
theorem dX11_habits_12 : decode cX11_habits 12 = .ok (.ireturn, 1) := by decide +kernel
theorem dX11_habits_13 : decode cX11_habits 13 = .ok (.aload_n 0, 1) := by decide +kernel
theorem dX11_habits_14 : decode cX11_habits 14 = .ok (.getfield 75, 3) := by decide +kernel
theorem dX11_habits_17 : decode cX11_habits 17 = .ok (.iload_n 1, 1) := by decide +kernel
theorem dX11_habits_18 : decode cX11_habits 18 = .ok (.invokevirtual 311, 3) := by decide +kernel
theorem dX11_habits_21 : decode cX11_habits 21 = .ok (.istore_n 3, 1) := by decide +kernel
theorem dX11_habits_22 : decode cX11_habits 22 = .ok (.iload_n 2, 1) := by decide +kernel
theorem dX11_habits_23 : decode cX11_habits 23 = .ok (.iconst (-1), 1) := by decide +kernel
theorem dX11_habits_24 : decode cX11_habits 24 = .ok (.if_icmp .ne 10, 3) := by decide +kernel
theorem dX11_habits_27 : decode cX11_habits 27 = .ok (.iload_n 3, 1) := by decide +kernel
theorem dX11_habits_28 : decode cX11_habits 28 = .ok (.invokestatic 314, 3) := by decide +kernel
theorem dX11_habits_31 : decode cX11_habits 31 = .ok (.goto 8, 3) := by decide +kernel
theorem dX11_habits_34 : decode cX11_habits 34 = .ok (.iload_n 3, 1) := by decide +kernel
theorem dX11_habits_35 : decode cX11_habits 35 = .ok (.iload_n 2, 1) := by decide +kernel
theorem dX11_habits_36 : decode cX11_habits 36 = .ok (.invokestatic 319, 3) := by decide +kernel
theorem dX11_habits_39 : decode cX11_habits 39 = .ok (.ireturn, 1) := by decide +kernel
theorem dX11_placeOfBit_0 : decode cX11_placeOfBit 0 = .ok (.iconst 0, 1) := by decide +kernel
theorem dX11_placeOfBit_1 : decode cX11_placeOfBit 1 = .ok (.istore_n 2, 1) := by decide +kernel
theorem dX11_placeOfBit_2 : decode cX11_placeOfBit 2 = .ok (.iconst 0, 1) := by decide +kernel
theorem dX11_placeOfBit_3 : decode cX11_placeOfBit 3 = .ok (.istore_n 3, 1) := by decide +kernel
theorem dX11_placeOfBit_4 : decode cX11_placeOfBit 4 = .ok (.iload_n 3, 1) := by decide +kernel
theorem dX11_placeOfBit_5 : decode cX11_placeOfBit 5 = .ok (.bipush 6, 2) := by decide +kernel
theorem dX11_placeOfBit_7 : decode cX11_placeOfBit 7 = .ok (.if_icmp .ge 27, 3) := by decide +kernel
theorem dX11_placeOfBit_10 : decode cX11_placeOfBit 10 = .ok (.iload_n 0, 1) := by decide +kernel
theorem dX11_placeOfBit_11 : decode cX11_placeOfBit 11 = .ok (.iload_n 3, 1) := by decide +kernel
theorem dX11_placeOfBit_12 : decode cX11_placeOfBit 12 = .ok (.invokestatic 322, 3) := by decide +kernel
theorem dX11_placeOfBit_15 : decode cX11_placeOfBit 15 = .ok (.ifCond .eq 13, 3) := by decide +kernel
theorem dX11_placeOfBit_18 : decode cX11_placeOfBit 18 = .ok (.iload_n 2, 1) := by decide +kernel
theorem dX11_placeOfBit_19 : decode cX11_placeOfBit 19 = .ok (.iload_n 1, 1) := by decide +kernel
theorem dX11_placeOfBit_20 : decode cX11_placeOfBit 20 = .ok (.if_icmp .ne 5, 3) := by decide +kernel
theorem dX11_placeOfBit_23 : decode cX11_placeOfBit 23 = .ok (.iload_n 3, 1) := by decide +kernel
theorem dX11_placeOfBit_24 : decode cX11_placeOfBit 24 = .ok (.ireturn, 1) := by decide +kernel
theorem dX11_placeOfBit_25 : decode cX11_placeOfBit 25 = .ok (.iinc 2 1, 3) := by decide +kernel
theorem dX11_placeOfBit_28 : decode cX11_placeOfBit 28 = .ok (.iinc 3 1, 3) := by decide +kernel
theorem dX11_placeOfBit_31 : decode cX11_placeOfBit 31 = .ok (.goto (-27), 3) := by decide +kernel
theorem dX11_placeOfBit_34 : decode cX11_placeOfBit 34 = .ok (.iconst (-1), 1) := by decide +kernel
theorem dX11_placeOfBit_35 : decode cX11_placeOfBit 35 = .ok (.ireturn, 1) := by decide +kernel
theorem dX11_ask_0 : decode cX11_ask 0 = .ok (.aload_n 0, 1) := by decide +kernel
theorem dX11_ask_1 : decode cX11_ask 1 = .ok (.getfield 19, 3) := by decide +kernel
theorem dX11_ask_4 : decode cX11_ask 4 = .ok (.iload_n 1, 1) := by decide +kernel
theorem dX11_ask_5 : decode cX11_ask 5 = .ok (.invokevirtual 189, 3) := by decide +kernel
theorem dX11_ask_8 : decode cX11_ask 8 = .ok (.ifCond .eq 14, 3) := by decide +kernel
theorem dX11_ask_11 : decode cX11_ask 11 = .ok (.aload_n 0, 1) := by decide +kernel
theorem dX11_ask_12 : decode cX11_ask 12 = .ok (.getfield 75, 3) := by decide +kernel
theorem dX11_ask_15 : decode cX11_ask 15 = .ok (.iload_n 1, 1) := by decide +kernel
theorem dX11_ask_16 : decode cX11_ask 16 = .ok (.invokevirtual 326, 3) := by decide +kernel
theorem dX11_ask_19 : decode cX11_ask 19 = .ok (.goto 4, 3) := by decide +kernel
theorem dX11_ask_22 : decode cX11_ask 22 = .ok (.iconst (-1), 1) := by decide +kernel
theorem dX11_ask_23 : decode cX11_ask 23 = .ok (.ireturn, 1) := by decide +kernel
theorem dX11_game_0 : decode cX11_game 0 = .ok (.aload_n 0, 1) := by decide +kernel
theorem dX11_game_1 : decode cX11_game 1 = .ok (.iload_n 1, 1) := by decide +kernel
theorem dX11_game_2 : decode cX11_game 2 = .ok (.iload_n 2, 1) := by decide +kernel
theorem dX11_game_3 : decode cX11_game 3 = .ok (.invokevirtual 329, 3) := by decide +kernel
theorem dX11_game_6 : decode cX11_game 6 = .ok (.ifCond .eq 37, 3) := by decide +kernel
theorem dX11_game_9 : decode cX11_game 9 = .ok (.aload_n 0, 1) := by decide +kernel
theorem dX11_game_10 : decode cX11_game 10 = .ok (.getfield 19, 3) := by decide +kernel
theorem dX11_game_13 : decode cX11_game 13 = .ok (.iload_n 3, 1) := by decide +kernel
theorem dX11_game_14 : decode cX11_game 14 = .ok (.invokevirtual 177, 3) := by decide +kernel
theorem dX11_game_17 : decode cX11_game 17 = .ok (.ifCond .eq 26, 3) := by decide +kernel
theorem dX11_game_20 : decode cX11_game 20 = .ok (.aload_n 0, 1) := by decide +kernel
theorem dX11_game_21 : decode cX11_game 21 = .ok (.getfield 19, 3) := by decide +kernel
theorem dX11_game_24 : decode cX11_game 24 = .ok (.iload 4, 2) := by decide +kernel
theorem dX11_game_26 : decode cX11_game 26 = .ok (.invokevirtual 177, 3) := by decide +kernel
theorem dX11_game_29 : decode cX11_game 29 = .ok (.ifCond .eq 14, 3) := by decide +kernel
theorem dX11_game_32 : decode cX11_game 32 = .ok (.iload 5, 2) := by decide +kernel
theorem dX11_game_34 : decode cX11_game 34 = .ok (.ifCond .lt 9, 3) := by decide +kernel
theorem dX11_game_37 : decode cX11_game 37 = .ok (.iload 5, 2) := by decide +kernel
theorem dX11_game_39 : decode cX11_game 39 = .ok (.iconst 1, 1) := by decide +kernel
theorem dX11_game_40 : decode cX11_game 40 = .ok (.if_icmp .le 6, 3) := by decide +kernel
theorem dX11_game_43 : decode cX11_game 43 = .ok (.ldc 180, 2) := by decide +kernel
theorem dX11_game_45 : decode cX11_game 45 = .ok (.ireturn, 1) := by decide +kernel
theorem dX11_game_46 : decode cX11_game 46 = .ok (.aload_n 0, 1) := by decide +kernel
theorem dX11_game_47 : decode cX11_game 47 = .ok (.getfield 68, 3) := by decide +kernel
theorem dX11_game_50 : decode cX11_game 50 = .ok (.aload_n 0, 1) := by decide +kernel
theorem dX11_game_51 : decode cX11_game 51 = .ok (.getfield 89, 3) := by decide +kernel
theorem dX11_game_54 : decode cX11_game 54 = .ok (.iload_n 1, 1) := by decide +kernel
theorem dX11_game_55 : decode cX11_game 55 = .ok (.iload_n 2, 1) := by decide +kernel
theorem dX11_game_56 : decode cX11_game 56 = .ok (.iload_n 3, 1) := by decide +kernel
theorem dX11_game_57 : decode cX11_game 57 = .ok (.iload 4, 2) := by decide +kernel
theorem dX11_game_59 : decode cX11_game 59 = .ok (.iload 5, 2) := by decide +kernel
theorem dX11_game_61 : decode cX11_game 61 = .ok (.invokevirtual 332, 3) := by decide +kernel
theorem dX11_game_64 : decode cX11_game 64 = .ok (.ireturn, 1) := by decide +kernel
theorem dX11_rests_0 : decode cX11_rests 0 = .ok (.aload_n 0, 1) := by decide +kernel
theorem dX11_rests_1 : decode cX11_rests 1 = .ok (.iload_n 1, 1) := by decide +kernel
theorem dX11_rests_2 : decode cX11_rests 2 = .ok (.iload_n 2, 1) := by decide +kernel
theorem dX11_rests_3 : decode cX11_rests 3 = .ok (.invokevirtual 329, 3) := by decide +kernel
theorem dX11_rests_6 : decode cX11_rests 6 = .ok (.ifCond .eq 20, 3) := by decide +kernel
theorem dX11_rests_9 : decode cX11_rests 9 = .ok (.aload_n 0, 1) := by decide +kernel
theorem dX11_rests_10 : decode cX11_rests 10 = .ok (.getfield 68, 3) := by decide +kernel
theorem dX11_rests_13 : decode cX11_rests 13 = .ok (.aload_n 0, 1) := by decide +kernel
theorem dX11_rests_14 : decode cX11_rests 14 = .ok (.getfield 89, 3) := by decide +kernel
theorem dX11_rests_17 : decode cX11_rests 17 = .ok (.iload_n 1, 1) := by decide +kernel
theorem dX11_rests_18 : decode cX11_rests 18 = .ok (.iload_n 2, 1) := by decide +kernel
theorem dX11_rests_19 : decode cX11_rests 19 = .ok (.iload_n 3, 1) := by decide +kernel
theorem dX11_rests_20 : decode cX11_rests 20 = .ok (.invokevirtual 336, 3) := by decide +kernel
theorem dX11_rests_23 : decode cX11_rests 23 = .ok (.goto 4, 3) := by decide +kernel
theorem dX11_rests_26 : decode cX11_rests 26 = .ok (.iconst (-1), 1) := by decide +kernel
theorem dX11_rests_27 : decode cX11_rests 27 = .ok (.ireturn, 1) := by decide +kernel
theorem dX11_canPlay_0 : decode cX11_canPlay 0 = .ok (.iload_n 1, 1) := by decide +kernel
theorem dX11_canPlay_1 : decode cX11_canPlay 1 = .ok (.iload_n 2, 1) := by decide +kernel
theorem dX11_canPlay_2 : decode cX11_canPlay 2 = .ok (.if_icmp .eq 51, 3) := by decide +kernel
theorem dX11_canPlay_5 : decode cX11_canPlay 5 = .ok (.aload_n 0, 1) := by decide +kernel
theorem dX11_canPlay_6 : decode cX11_canPlay 6 = .ok (.getfield 19, 3) := by decide +kernel
theorem dX11_canPlay_9 : decode cX11_canPlay 9 = .ok (.iload_n 1, 1) := by decide +kernel
theorem dX11_canPlay_10 : decode cX11_canPlay 10 = .ok (.invokevirtual 189, 3) := by decide +kernel
theorem dX11_canPlay_13 : decode cX11_canPlay 13 = .ok (.ifCond .eq 40, 3) := by decide +kernel
theorem dX11_canPlay_16 : decode cX11_canPlay 16 = .ok (.aload_n 0, 1) := by decide +kernel
theorem dX11_canPlay_17 : decode cX11_canPlay 17 = .ok (.getfield 19, 3) := by decide +kernel
theorem dX11_canPlay_20 : decode cX11_canPlay 20 = .ok (.iload_n 2, 1) := by decide +kernel
theorem dX11_canPlay_21 : decode cX11_canPlay 21 = .ok (.invokevirtual 189, 3) := by decide +kernel
theorem dX11_canPlay_24 : decode cX11_canPlay 24 = .ok (.ifCond .eq 29, 3) := by decide +kernel
theorem dX11_canPlay_27 : decode cX11_canPlay 27 = .ok (.aload_n 0, 1) := by decide +kernel
theorem dX11_canPlay_28 : decode cX11_canPlay 28 = .ok (.getfield 89, 3) := by decide +kernel
theorem dX11_canPlay_31 : decode cX11_canPlay 31 = .ok (.iload_n 1, 1) := by decide +kernel
theorem dX11_canPlay_32 : decode cX11_canPlay 32 = .ok (.invokevirtual 195, 3) := by decide +kernel
theorem dX11_canPlay_35 : decode cX11_canPlay 35 = .ok (.ifCond .ne 18, 3) := by decide +kernel
theorem dX11_canPlay_38 : decode cX11_canPlay 38 = .ok (.aload_n 0, 1) := by decide +kernel
theorem dX11_canPlay_39 : decode cX11_canPlay 39 = .ok (.getfield 89, 3) := by decide +kernel
theorem dX11_canPlay_42 : decode cX11_canPlay 42 = .ok (.iload_n 2, 1) := by decide +kernel
theorem dX11_canPlay_43 : decode cX11_canPlay 43 = .ok (.invokevirtual 195, 3) := by decide +kernel
theorem dX11_canPlay_46 : decode cX11_canPlay 46 = .ok (.ifCond .ne 7, 3) := by decide +kernel
theorem dX11_canPlay_49 : decode cX11_canPlay 49 = .ok (.iconst 1, 1) := by decide +kernel
theorem dX11_canPlay_50 : decode cX11_canPlay 50 = .ok (.goto 4, 3) := by decide +kernel
theorem dX11_canPlay_53 : decode cX11_canPlay 53 = .ok (.iconst 0, 1) := by decide +kernel
theorem dX11_canPlay_54 : decode cX11_canPlay 54 = .ok (.ireturn, 1) := by decide +kernel
theorem dX11_odds_0 : decode cX11_odds 0 = .ok (.aload_n 0, 1) := by decide +kernel
theorem dX11_odds_1 : decode cX11_odds 1 = .ok (.getfield 19, 3) := by decide +kernel
theorem dX11_odds_4 : decode cX11_odds 4 = .ok (.iload_n 1, 1) := by decide +kernel
theorem dX11_odds_5 : decode cX11_odds 5 = .ok (.invokevirtual 272, 3) := by decide +kernel
theorem dX11_odds_8 : decode cX11_odds 8 = .ok (.ifCond .eq 22, 3) := by decide +kernel
theorem dX11_odds_11 : decode cX11_odds 11 = .ok (.iload_n 2, 1) := by decide +kernel
theorem dX11_odds_12 : decode cX11_odds 12 = .ok (.ifCond .lt 18, 3) := by decide +kernel
theorem dX11_odds_15 : decode cX11_odds 15 = .ok (.iload_n 2, 1) := by decide +kernel
theorem dX11_odds_16 : decode cX11_odds 16 = .ok (.bipush 100, 2) := by decide +kernel
theorem dX11_odds_18 : decode cX11_odds 18 = .ok (.if_icmp .gt 12, 3) := by decide +kernel
theorem dX11_odds_21 : decode cX11_odds 21 = .ok (.aload_n 0, 1) := by decide +kernel
theorem dX11_odds_22 : decode cX11_odds 22 = .ok (.invokevirtual 339, 3) := by decide +kernel
theorem dX11_odds_25 : decode cX11_odds 25 = .ok (.bipush 8, 2) := by decide +kernel
theorem dX11_odds_27 : decode cX11_odds 27 = .ok (.if_icmp .le 5, 3) := by decide +kernel
theorem dX11_odds_30 : decode cX11_odds 30 = .ok (.iconst (-1), 1) := by decide +kernel
theorem dX11_odds_31 : decode cX11_odds 31 = .ok (.ireturn, 1) := by decide +kernel
theorem dX11_odds_32 : decode cX11_odds 32 = .ok (.aload_n 0, 1) := by decide +kernel
theorem dX11_odds_33 : decode cX11_odds 33 = .ok (.getfield 68, 3) := by decide +kernel
theorem dX11_odds_36 : decode cX11_odds 36 = .ok (.aload_n 0, 1) := by decide +kernel
theorem dX11_odds_37 : decode cX11_odds 37 = .ok (.getfield 89, 3) := by decide +kernel
theorem dX11_odds_40 : decode cX11_odds 40 = .ok (.iload_n 1, 1) := by decide +kernel
theorem dX11_odds_41 : decode cX11_odds 41 = .ok (.iload_n 2, 1) := by decide +kernel
theorem dX11_odds_42 : decode cX11_odds 42 = .ok (.invokevirtual 342, 3) := by decide +kernel
theorem dX11_odds_45 : decode cX11_odds 45 = .ok (.ireturn, 1) := by decide +kernel
theorem dX11_daysLeft_0 : decode cX11_daysLeft 0 = .ok (.aload_n 0, 1) := by decide +kernel
theorem dX11_daysLeft_1 : decode cX11_daysLeft 1 = .ok (.getfield 19, 3) := by decide +kernel
theorem dX11_daysLeft_4 : decode cX11_daysLeft 4 = .ok (.iconst 0, 1) := by decide +kernel
theorem dX11_daysLeft_5 : decode cX11_daysLeft 5 = .ok (.invokevirtual 181, 3) := by decide +kernel
theorem dX11_daysLeft_8 : decode cX11_daysLeft 8 = .ok (.aload_n 0, 1) := by decide +kernel
theorem dX11_daysLeft_9 : decode cX11_daysLeft 9 = .ok (.getfield 89, 3) := by decide +kernel
theorem dX11_daysLeft_12 : decode cX11_daysLeft 12 = .ok (.sipush 145, 3) := by decide +kernel
theorem dX11_daysLeft_15 : decode cX11_daysLeft 15 = .ok (.invokevirtual 184, 3) := by decide +kernel
theorem dX11_daysLeft_18 : decode cX11_daysLeft 18 = .ok (.isub, 1) := by decide +kernel
theorem dX11_daysLeft_19 : decode cX11_daysLeft 19 = .ok (.ireturn, 1) := by decide +kernel
theorem dX11_shares_0 : decode cX11_shares 0 = .ok (.aload_n 0, 1) := by decide +kernel
theorem dX11_shares_1 : decode cX11_shares 1 = .ok (.getfield 19, 3) := by decide +kernel
theorem dX11_shares_4 : decode cX11_shares 4 = .ok (.iload_n 1, 1) := by decide +kernel
theorem dX11_shares_5 : decode cX11_shares 5 = .ok (.invokevirtual 189, 3) := by decide +kernel
theorem dX11_shares_8 : decode cX11_shares 8 = .ok (.ifCond .eq 14, 3) := by decide +kernel
theorem dX11_shares_11 : decode cX11_shares 11 = .ok (.iload_n 2, 1) := by decide +kernel
theorem dX11_shares_12 : decode cX11_shares 12 = .ok (.ifCond .lt 10, 3) := by decide +kernel
theorem dX11_shares_15 : decode cX11_shares 15 = .ok (.iload_n 2, 1) := by decide +kernel
theorem dX11_shares_16 : decode cX11_shares 16 = .ok (.sipush 999, 3) := by decide +kernel
theorem dX11_shares_19 : decode cX11_shares 19 = .ok (.if_icmp .le 5, 3) := by decide +kernel
theorem dX11_shares_22 : decode cX11_shares 22 = .ok (.iconst (-1), 1) := by decide +kernel
theorem dX11_shares_23 : decode cX11_shares 23 = .ok (.ireturn, 1) := by decide +kernel
theorem dX11_shares_24 : decode cX11_shares 24 = .ok (.iconst 0, 1) := by decide +kernel
theorem dX11_shares_25 : decode cX11_shares 25 = .ok (.istore_n 3, 1) := by decide +kernel
theorem dX11_shares_26 : decode cX11_shares 26 = .ok (.iconst 0, 1) := by decide +kernel
theorem dX11_shares_27 : decode cX11_shares 27 = .ok (.istore 4, 2) := by decide +kernel
theorem dX11_shares_29 : decode cX11_shares 29 = .ok (.iload 4, 2) := by decide +kernel
theorem dX11_shares_31 : decode cX11_shares 31 = .ok (.aload_n 0, 1) := by decide +kernel
theorem dX11_shares_32 : decode cX11_shares 32 = .ok (.getfield 19, 3) := by decide +kernel
theorem dX11_shares_35 : decode cX11_shares 35 = .ok (.invokevirtual 142, 3) := by decide +kernel
theorem dX11_shares_38 : decode cX11_shares 38 = .ok (.if_icmp .ge 24, 3) := by decide +kernel
theorem dX11_shares_41 : decode cX11_shares 41 = .ok (.iload_n 3, 1) := by decide +kernel
theorem dX11_shares_42 : decode cX11_shares 42 = .ok (.aload_n 0, 1) := by decide +kernel
theorem dX11_shares_43 : decode cX11_shares 43 = .ok (.getfield 89, 3) := by decide +kernel
theorem dX11_shares_46 : decode cX11_shares 46 = .ok (.bipush 6, 2) := by decide +kernel
theorem dX11_shares_48 : decode cX11_shares 48 = .ok (.iload 4, 2) := by decide +kernel
theorem dX11_shares_50 : decode cX11_shares 50 = .ok (.iadd, 1) := by decide +kernel
theorem dX11_shares_51 : decode cX11_shares 51 = .ok (.invokevirtual 184, 3) := by decide +kernel
theorem dX11_shares_54 : decode cX11_shares 54 = .ok (.iadd, 1) := by decide +kernel
theorem dX11_shares_55 : decode cX11_shares 55 = .ok (.istore_n 3, 1) := by decide +kernel
theorem dX11_shares_56 : decode cX11_shares 56 = .ok (.iinc 4 1, 3) := by decide +kernel
theorem dX11_shares_59 : decode cX11_shares 59 = .ok (.goto (-30), 3) := by decide +kernel
theorem dX11_shares_62 : decode cX11_shares 62 = .ok (.iload_n 3, 1) := by decide +kernel
theorem dX11_shares_63 : decode cX11_shares 63 = .ok (.ifCond .gt 7, 3) := by decide +kernel
theorem dX11_shares_66 : decode cX11_shares 66 = .ok (.iconst 0, 1) := by decide +kernel
theorem dX11_shares_67 : decode cX11_shares 67 = .ok (.goto 18, 3) := by decide +kernel
theorem dX11_shares_70 : decode cX11_shares 70 = .ok (.iload_n 2, 1) := by decide +kernel
theorem dX11_shares_71 : decode cX11_shares 71 = .ok (.aload_n 0, 1) := by decide +kernel
theorem dX11_shares_72 : decode cX11_shares 72 = .ok (.getfield 89, 3) := by decide +kernel
theorem dX11_shares_75 : decode cX11_shares 75 = .ok (.bipush 6, 2) := by decide +kernel
theorem dX11_shares_77 : decode cX11_shares 77 = .ok (.iload_n 1, 1) := by decide +kernel
theorem dX11_shares_78 : decode cX11_shares 78 = .ok (.iadd, 1) := by decide +kernel
theorem dX11_shares_79 : decode cX11_shares 79 = .ok (.invokevirtual 184, 3) := by decide +kernel
theorem dX11_shares_82 : decode cX11_shares 82 = .ok (.imul, 1) := by decide +kernel
theorem dX11_shares_83 : decode cX11_shares 83 = .ok (.iload_n 3, 1) := by decide +kernel
theorem dX11_shares_84 : decode cX11_shares 84 = .ok (.idiv, 1) := by decide +kernel
theorem dX11_shares_85 : decode cX11_shares 85 = .ok (.ireturn, 1) := by decide +kernel
theorem dX11_did_0 : decode cX11_did 0 = .ok (.aload_n 0, 1) := by decide +kernel
theorem dX11_did_1 : decode cX11_did 1 = .ok (.getfield 19, 3) := by decide +kernel
theorem dX11_did_4 : decode cX11_did 4 = .ok (.iload_n 1, 1) := by decide +kernel
theorem dX11_did_5 : decode cX11_did 5 = .ok (.invokevirtual 272, 3) := by decide +kernel
theorem dX11_did_8 : decode cX11_did 8 = .ok (.ifCond .eq 28, 3) := by decide +kernel
theorem dX11_did_11 : decode cX11_did 11 = .ok (.iload_n 1, 1) := by decide +kernel
theorem dX11_did_12 : decode cX11_did 12 = .ok (.aload_n 0, 1) := by decide +kernel
theorem dX11_did_13 : decode cX11_did 13 = .ok (.getfield 89, 3) := by decide +kernel
theorem dX11_did_16 : decode cX11_did 16 = .ok (.sipush 145, 3) := by decide +kernel
theorem dX11_did_19 : decode cX11_did 19 = .ok (.invokevirtual 184, 3) := by decide +kernel
theorem dX11_did_22 : decode cX11_did 22 = .ok (.if_icmp .ge 14, 3) := by decide +kernel
theorem dX11_did_25 : decode cX11_did 25 = .ok (.aload_n 0, 1) := by decide +kernel
theorem dX11_did_26 : decode cX11_did 26 = .ok (.getfield 19, 3) := by decide +kernel
theorem dX11_did_29 : decode cX11_did 29 = .ok (.iload_n 2, 1) := by decide +kernel
theorem dX11_did_30 : decode cX11_did 30 = .ok (.invokevirtual 177, 3) := by decide +kernel
theorem dX11_did_33 : decode cX11_did 33 = .ok (.ifCond .ne 5, 3) := by decide +kernel
theorem dX11_did_36 : decode cX11_did 36 = .ok (.iconst (-1), 1) := by decide +kernel
theorem dX11_did_37 : decode cX11_did 37 = .ok (.ireturn, 1) := by decide +kernel
theorem dX11_did_38 : decode cX11_did 38 = .ok (.aload_n 0, 1) := by decide +kernel
theorem dX11_did_39 : decode cX11_did 39 = .ok (.getfield 89, 3) := by decide +kernel
theorem dX11_did_42 : decode cX11_did 42 = .ok (.bipush 48, 2) := by decide +kernel
theorem dX11_did_44 : decode cX11_did 44 = .ok (.iload_n 1, 1) := by decide +kernel
theorem dX11_did_45 : decode cX11_did 45 = .ok (.iadd, 1) := by decide +kernel
theorem dX11_did_46 : decode cX11_did 46 = .ok (.invokevirtual 184, 3) := by decide +kernel
theorem dX11_did_49 : decode cX11_did 49 = .ok (.iload_n 2, 1) := by decide +kernel
theorem dX11_did_50 : decode cX11_did 50 = .ok (.invokestatic 346, 3) := by decide +kernel
theorem dX11_did_53 : decode cX11_did 53 = .ok (.ireturn, 1) := by decide +kernel
theorem dX11_all_0 : decode cX11_all 0 = .ok (.aload_n 0, 1) := by decide +kernel
theorem dX11_all_1 : decode cX11_all 1 = .ok (.invokevirtual 223, 3) := by decide +kernel
theorem dX11_all_4 : decode cX11_all 4 = .ok (.ifCond .ne 6, 3) := by decide +kernel
theorem dX11_all_7 : decode cX11_all 7 = .ok (.ldc 180, 2) := by decide +kernel
theorem dX11_all_9 : decode cX11_all 9 = .ok (.ireturn, 1) := by decide +kernel
theorem dX11_all_10 : decode cX11_all 10 = .ok (.iload_n 1, 1) := by decide +kernel
theorem dX11_all_11 : decode cX11_all 11 = .ok (.tableswitch 162 0 8 #[49, 66, 83, 99, 114, 126, 134, 139, 151], 49) := by decide +kernel
theorem dX11_all_60 : decode cX11_all 60 = .ok (.aload_n 0, 1) := by decide +kernel
theorem dX11_all_61 : decode cX11_all 61 = .ok (.getfield 89, 3) := by decide +kernel
theorem dX11_all_64 : decode cX11_all 64 = .ok (.bipush 6, 2) := by decide +kernel
theorem dX11_all_66 : decode cX11_all 66 = .ok (.aload_n 0, 1) := by decide +kernel
theorem dX11_all_67 : decode cX11_all 67 = .ok (.getfield 19, 3) := by decide +kernel
theorem dX11_all_70 : decode cX11_all 70 = .ok (.invokevirtual 142, 3) := by decide +kernel
theorem dX11_all_73 : decode cX11_all 73 = .ok (.invokevirtual 349, 3) := by decide +kernel
theorem dX11_all_76 : decode cX11_all 76 = .ok (.ireturn, 1) := by decide +kernel
theorem dX11_all_77 : decode cX11_all 77 = .ok (.aload_n 0, 1) := by decide +kernel
theorem dX11_all_78 : decode cX11_all 78 = .ok (.getfield 19, 3) := by decide +kernel
theorem dX11_all_81 : decode cX11_all 81 = .ok (.bipush 21, 2) := by decide +kernel
theorem dX11_all_83 : decode cX11_all 83 = .ok (.aload_n 0, 1) := by decide +kernel
theorem dX11_all_84 : decode cX11_all 84 = .ok (.getfield 19, 3) := by decide +kernel
theorem dX11_all_87 : decode cX11_all 87 = .ok (.invokevirtual 142, 3) := by decide +kernel
theorem dX11_all_90 : decode cX11_all 90 = .ok (.invokevirtual 352, 3) := by decide +kernel
theorem dX11_all_93 : decode cX11_all 93 = .ok (.ireturn, 1) := by decide +kernel
theorem dX11_all_94 : decode cX11_all 94 = .ok (.aload_n 0, 1) := by decide +kernel
theorem dX11_all_95 : decode cX11_all 95 = .ok (.getfield 19, 3) := by decide +kernel
theorem dX11_all_98 : decode cX11_all 98 = .ok (.iconst 3, 1) := by decide +kernel
theorem dX11_all_99 : decode cX11_all 99 = .ok (.aload_n 0, 1) := by decide +kernel
theorem dX11_all_100 : decode cX11_all 100 = .ok (.getfield 19, 3) := by decide +kernel
theorem dX11_all_103 : decode cX11_all 103 = .ok (.invokevirtual 353, 3) := by decide +kernel
theorem dX11_all_106 : decode cX11_all 106 = .ok (.invokevirtual 352, 3) := by decide +kernel
theorem dX11_all_109 : decode cX11_all 109 = .ok (.ireturn, 1) := by decide +kernel
theorem dX11_all_110 : decode cX11_all 110 = .ok (.aload_n 0, 1) := by decide +kernel
theorem dX11_all_111 : decode cX11_all 111 = .ok (.getfield 89, 3) := by decide +kernel
theorem dX11_all_114 : decode cX11_all 114 = .ok (.aload_n 0, 1) := by decide +kernel
theorem dX11_all_115 : decode cX11_all 115 = .ok (.getfield 19, 3) := by decide +kernel
theorem dX11_all_118 : decode cX11_all 118 = .ok (.invokevirtual 142, 3) := by decide +kernel
theorem dX11_all_121 : decode cX11_all 121 = .ok (.invokevirtual 356, 3) := by decide +kernel
theorem dX11_all_124 : decode cX11_all 124 = .ok (.ireturn, 1) := by decide +kernel
theorem dX11_all_125 : decode cX11_all 125 = .ok (.aload_n 0, 1) := by decide +kernel
theorem dX11_all_126 : decode cX11_all 126 = .ok (.getfield 59, 3) := by decide +kernel
theorem dX11_all_129 : decode cX11_all 129 = .ok (.aload_n 0, 1) := by decide +kernel
theorem dX11_all_130 : decode cX11_all 130 = .ok (.getfield 89, 3) := by decide +kernel
theorem dX11_all_133 : decode cX11_all 133 = .ok (.invokevirtual 359, 3) := by decide +kernel
theorem dX11_all_136 : decode cX11_all 136 = .ok (.ireturn, 1) := by decide +kernel
theorem dX11_all_137 : decode cX11_all 137 = .ok (.aload_n 0, 1) := by decide +kernel
theorem dX11_all_138 : decode cX11_all 138 = .ok (.getfield 89, 3) := by decide +kernel
theorem dX11_all_141 : decode cX11_all 141 = .ok (.invokevirtual 362, 3) := by decide +kernel
theorem dX11_all_144 : decode cX11_all 144 = .ok (.ireturn, 1) := by decide +kernel
theorem dX11_all_145 : decode cX11_all 145 = .ok (.aload_n 0, 1) := by decide +kernel
theorem dX11_all_146 : decode cX11_all 146 = .ok (.invokevirtual 339, 3) := by decide +kernel
theorem dX11_all_149 : decode cX11_all 149 = .ok (.ireturn, 1) := by decide +kernel
theorem dX11_all_150 : decode cX11_all 150 = .ok (.aload_n 0, 1) := by decide +kernel
theorem dX11_all_151 : decode cX11_all 151 = .ok (.getfield 68, 3) := by decide +kernel
theorem dX11_all_154 : decode cX11_all 154 = .ok (.aload_n 0, 1) := by decide +kernel
theorem dX11_all_155 : decode cX11_all 155 = .ok (.getfield 89, 3) := by decide +kernel
theorem dX11_all_158 : decode cX11_all 158 = .ok (.invokevirtual 365, 3) := by decide +kernel
theorem dX11_all_161 : decode cX11_all 161 = .ok (.ireturn, 1) := by decide +kernel
theorem dX11_all_162 : decode cX11_all 162 = .ok (.aload_n 0, 1) := by decide +kernel
theorem dX11_all_163 : decode cX11_all 163 = .ok (.getfield 89, 3) := by decide +kernel
theorem dX11_all_166 : decode cX11_all 166 = .ok (.sipush 143, 3) := by decide +kernel
theorem dX11_all_169 : decode cX11_all 169 = .ok (.invokevirtual 184, 3) := by decide +kernel
theorem dX11_all_172 : decode cX11_all 172 = .ok (.ireturn, 1) := by decide +kernel
theorem dX11_all_173 : decode cX11_all 173 = .ok (.ldc 180, 2) := by decide +kernel
theorem dX11_all_175 : decode cX11_all 175 = .ok (.ireturn, 1) := by decide +kernel
theorem dX11_image_0 : decode cX11_image 0 = .ok (.aload_n 0, 1) := by decide +kernel
theorem dX11_image_1 : decode cX11_image 1 = .ok (.invokevirtual 223, 3) := by decide +kernel
theorem dX11_image_4 : decode cX11_image 4 = .ok (.ifCond .ne 5, 3) := by decide +kernel
theorem dX11_image_7 : decode cX11_image 7 = .ok (.iconst (-1), 1) := by decide +kernel
theorem dX11_image_8 : decode cX11_image 8 = .ok (.ireturn, 1) := by decide +kernel
theorem dX11_image_9 : decode cX11_image 9 = .ok (.aload_n 0, 1) := by decide +kernel
theorem dX11_image_10 : decode cX11_image 10 = .ok (.getfield 93, 3) := by decide +kernel
theorem dX11_image_13 : decode cX11_image 13 = .ok (.aload_n 0, 1) := by decide +kernel
theorem dX11_image_14 : decode cX11_image 14 = .ok (.getfield 89, 3) := by decide +kernel
theorem dX11_image_17 : decode cX11_image 17 = .ok (.invokevirtual 368, 3) := by decide +kernel
theorem dX11_image_20 : decode cX11_image 20 = .ok (.aload_n 0, 1) := by decide +kernel
theorem dX11_image_21 : decode cX11_image 21 = .ok (.iconst 1, 1) := by decide +kernel
theorem dX11_image_22 : decode cX11_image 22 = .ok (.putfield 96, 3) := by decide +kernel
theorem dX11_image_25 : decode cX11_image 25 = .ok (.aload_n 0, 1) := by decide +kernel
theorem dX11_image_26 : decode cX11_image 26 = .ok (.getfield 89, 3) := by decide +kernel
theorem dX11_image_29 : decode cX11_image 29 = .ok (.sipush 145, 3) := by decide +kernel
theorem dX11_image_32 : decode cX11_image 32 = .ok (.invokevirtual 184, 3) := by decide +kernel
theorem dX11_image_35 : decode cX11_image 35 = .ok (.ireturn, 1) := by decide +kernel
theorem dX11_back_0 : decode cX11_back 0 = .ok (.aload_n 0, 1) := by decide +kernel
theorem dX11_back_1 : decode cX11_back 1 = .ok (.getfield 96, 3) := by decide +kernel
theorem dX11_back_4 : decode cX11_back 4 = .ok (.ifCond .ne 5, 3) := by decide +kernel
theorem dX11_back_7 : decode cX11_back 7 = .ok (.iconst (-1), 1) := by decide +kernel
theorem dX11_back_8 : decode cX11_back 8 = .ok (.ireturn, 1) := by decide +kernel
theorem dX11_back_9 : decode cX11_back 9 = .ok (.aload_n 0, 1) := by decide +kernel
theorem dX11_back_10 : decode cX11_back 10 = .ok (.getfield 89, 3) := by decide +kernel
theorem dX11_back_13 : decode cX11_back 13 = .ok (.aload_n 0, 1) := by decide +kernel
theorem dX11_back_14 : decode cX11_back 14 = .ok (.getfield 93, 3) := by decide +kernel
theorem dX11_back_17 : decode cX11_back 17 = .ok (.invokevirtual 368, 3) := by decide +kernel
theorem dX11_back_20 : decode cX11_back 20 = .ok (.aload_n 0, 1) := by decide +kernel
theorem dX11_back_21 : decode cX11_back 21 = .ok (.getfield 82, 3) := by decide +kernel
theorem dX11_back_24 : decode cX11_back 24 = .ok (.invokevirtual 171, 3) := by decide +kernel
theorem dX11_back_27 : decode cX11_back 27 = .ok (.aload_n 0, 1) := by decide +kernel
theorem dX11_back_28 : decode cX11_back 28 = .ok (.getfield 89, 3) := by decide +kernel
theorem dX11_back_31 : decode cX11_back 31 = .ok (.sipush 145, 3) := by decide +kernel
theorem dX11_back_34 : decode cX11_back 34 = .ok (.invokevirtual 184, 3) := by decide +kernel
theorem dX11_back_37 : decode cX11_back 37 = .ok (.ireturn, 1) := by decide +kernel
theorem dX11_count_0 : decode cX11_count 0 = .ok (.iload_n 1, 1) := by decide +kernel
theorem dX11_count_1 : decode cX11_count 1 = .ok (.tableswitch 226 0 16 #[83, 91, 99, 108, 113, 118, 126, 131, 142, 153, 164, 175, 186, 197, 202, 210, 218], 83) := by decide +kernel
theorem dX11_count_84 : decode cX11_count 84 = .ok (.aload_n 0, 1) := by decide +kernel
theorem dX11_count_85 : decode cX11_count 85 = .ok (.getfield 19, 3) := by decide +kernel
theorem dX11_count_88 : decode cX11_count 88 = .ok (.invokevirtual 142, 3) := by decide +kernel
theorem dX11_count_91 : decode cX11_count 91 = .ok (.ireturn, 1) := by decide +kernel
theorem dX11_count_92 : decode cX11_count 92 = .ok (.aload_n 0, 1) := by decide +kernel
theorem dX11_count_93 : decode cX11_count 93 = .ok (.getfield 19, 3) := by decide +kernel
theorem dX11_count_96 : decode cX11_count 96 = .ok (.invokevirtual 353, 3) := by decide +kernel
theorem dX11_count_99 : decode cX11_count 99 = .ok (.ireturn, 1) := by decide +kernel
theorem dX11_count_100 : decode cX11_count 100 = .ok (.aload_n 0, 1) := by decide +kernel
theorem dX11_count_101 : decode cX11_count 101 = .ok (.getfield 19, 3) := by decide +kernel
theorem dX11_count_104 : decode cX11_count 104 = .ok (.iconst 0, 1) := by decide +kernel
theorem dX11_count_105 : decode cX11_count 105 = .ok (.invokevirtual 181, 3) := by decide +kernel
theorem dX11_count_108 : decode cX11_count 108 = .ok (.ireturn, 1) := by decide +kernel
theorem dX11_count_109 : decode cX11_count 109 = .ok (.aload_n 0, 1) := by decide +kernel
theorem dX11_count_110 : decode cX11_count 110 = .ok (.getfield 100, 3) := by decide +kernel
theorem dX11_count_113 : decode cX11_count 113 = .ok (.ireturn, 1) := by decide +kernel
theorem dX11_count_114 : decode cX11_count 114 = .ok (.aload_n 0, 1) := by decide +kernel
theorem dX11_count_115 : decode cX11_count 115 = .ok (.getfield 104, 3) := by decide +kernel
theorem dX11_count_118 : decode cX11_count 118 = .ok (.ireturn, 1) := by decide +kernel
theorem dX11_count_119 : decode cX11_count 119 = .ok (.aload_n 0, 1) := by decide +kernel
theorem dX11_count_120 : decode cX11_count 120 = .ok (.getfield 10, 3) := by decide +kernel
theorem dX11_count_123 : decode cX11_count 123 = .ok (.invokevirtual 119, 3) := by decide +kernel
theorem dX11_count_126 : decode cX11_count 126 = .ok (.ireturn, 1) := by decide +kernel
theorem dX11_count_127 : decode cX11_count 127 = .ok (.aload_n 0, 1) := by decide +kernel
theorem dX11_count_128 : decode cX11_count 128 = .ok (.getfield 107, 3) := by decide +kernel
theorem dX11_count_131 : decode cX11_count 131 = .ok (.ireturn, 1) := by decide +kernel
theorem dX11_count_132 : decode cX11_count 132 = .ok (.aload_n 0, 1) := by decide +kernel
theorem dX11_count_133 : decode cX11_count 133 = .ok (.getfield 89, 3) := by decide +kernel
theorem dX11_count_136 : decode cX11_count 136 = .ok (.sipush 144, 3) := by decide +kernel
theorem dX11_count_139 : decode cX11_count 139 = .ok (.invokevirtual 184, 3) := by decide +kernel
theorem dX11_count_142 : decode cX11_count 142 = .ok (.ireturn, 1) := by decide +kernel
theorem dX11_count_143 : decode cX11_count 143 = .ok (.aload_n 0, 1) := by decide +kernel
theorem dX11_count_144 : decode cX11_count 144 = .ok (.getfield 89, 3) := by decide +kernel
theorem dX11_count_147 : decode cX11_count 147 = .ok (.sipush 145, 3) := by decide +kernel
theorem dX11_count_150 : decode cX11_count 150 = .ok (.invokevirtual 184, 3) := by decide +kernel
theorem dX11_count_153 : decode cX11_count 153 = .ok (.ireturn, 1) := by decide +kernel
theorem dX11_count_154 : decode cX11_count 154 = .ok (.aload_n 0, 1) := by decide +kernel
theorem dX11_count_155 : decode cX11_count 155 = .ok (.getfield 89, 3) := by decide +kernel
theorem dX11_count_158 : decode cX11_count 158 = .ok (.sipush 142, 3) := by decide +kernel
theorem dX11_count_161 : decode cX11_count 161 = .ok (.invokevirtual 184, 3) := by decide +kernel
theorem dX11_count_164 : decode cX11_count 164 = .ok (.ireturn, 1) := by decide +kernel
theorem dX11_count_165 : decode cX11_count 165 = .ok (.aload_n 0, 1) := by decide +kernel
theorem dX11_count_166 : decode cX11_count 166 = .ok (.getfield 89, 3) := by decide +kernel
theorem dX11_count_169 : decode cX11_count 169 = .ok (.sipush 139, 3) := by decide +kernel
theorem dX11_count_172 : decode cX11_count 172 = .ok (.invokevirtual 184, 3) := by decide +kernel
theorem dX11_count_175 : decode cX11_count 175 = .ok (.ireturn, 1) := by decide +kernel
theorem dX11_count_176 : decode cX11_count 176 = .ok (.aload_n 0, 1) := by decide +kernel
theorem dX11_count_177 : decode cX11_count 177 = .ok (.getfield 89, 3) := by decide +kernel
theorem dX11_count_180 : decode cX11_count 180 = .ok (.sipush 140, 3) := by decide +kernel
theorem dX11_count_183 : decode cX11_count 183 = .ok (.invokevirtual 184, 3) := by decide +kernel
theorem dX11_count_186 : decode cX11_count 186 = .ok (.ireturn, 1) := by decide +kernel
theorem dX11_count_187 : decode cX11_count 187 = .ok (.aload_n 0, 1) := by decide +kernel
theorem dX11_count_188 : decode cX11_count 188 = .ok (.getfield 89, 3) := by decide +kernel
theorem dX11_count_191 : decode cX11_count 191 = .ok (.sipush 141, 3) := by decide +kernel
theorem dX11_count_194 : decode cX11_count 194 = .ok (.invokevirtual 184, 3) := by decide +kernel
theorem dX11_count_197 : decode cX11_count 197 = .ok (.ireturn, 1) := by decide +kernel
theorem dX11_count_198 : decode cX11_count 198 = .ok (.aload_n 0, 1) := by decide +kernel
theorem dX11_count_199 : decode cX11_count 199 = .ok (.getfield 110, 3) := by decide +kernel
theorem dX11_count_202 : decode cX11_count 202 = .ok (.ireturn, 1) := by decide +kernel
theorem dX11_count_203 : decode cX11_count 203 = .ok (.aload_n 0, 1) := by decide +kernel
theorem dX11_count_204 : decode cX11_count 204 = .ok (.getfield 75, 3) := by decide +kernel
theorem dX11_count_207 : decode cX11_count 207 = .ok (.invokevirtual 310, 3) := by decide +kernel
theorem dX11_count_210 : decode cX11_count 210 = .ok (.ireturn, 1) := by decide +kernel
theorem dX11_count_211 : decode cX11_count 211 = .ok (.aload_n 0, 1) := by decide +kernel
theorem dX11_count_212 : decode cX11_count 212 = .ok (.getfield 89, 3) := by decide +kernel
theorem dX11_count_215 : decode cX11_count 215 = .ok (.invokevirtual 249, 3) := by decide +kernel
theorem dX11_count_218 : decode cX11_count 218 = .ok (.ireturn, 1) := by decide +kernel
theorem dX11_count_219 : decode cX11_count 219 = .ok (.aload_n 0, 1) := by decide +kernel
theorem dX11_count_220 : decode cX11_count 220 = .ok (.getfield 82, 3) := by decide +kernel
theorem dX11_count_223 : decode cX11_count 223 = .ok (.invokevirtual 246, 3) := by decide +kernel
theorem dX11_count_226 : decode cX11_count 226 = .ok (.ireturn, 1) := by decide +kernel
theorem dX11_count_227 : decode cX11_count 227 = .ok (.ldc 180, 2) := by decide +kernel
theorem dX11_count_229 : decode cX11_count 229 = .ok (.ireturn, 1) := by decide +kernel
theorem dX11_hasBit_0 : decode cX11_hasBit 0 = .ok (.iload_n 0, 1) := by decide +kernel
theorem dX11_hasBit_1 : decode cX11_hasBit 1 = .ok (.iload_n 1, 1) := by decide +kernel
theorem dX11_hasBit_2 : decode cX11_hasBit 2 = .ok (.ishr, 1) := by decide +kernel
theorem dX11_hasBit_3 : decode cX11_hasBit 3 = .ok (.iconst 1, 1) := by decide +kernel
theorem dX11_hasBit_4 : decode cX11_hasBit 4 = .ok (.iand, 1) := by decide +kernel
theorem dX11_hasBit_5 : decode cX11_hasBit 5 = .ok (.ifCond .eq 7, 3) := by decide +kernel
theorem dX11_hasBit_8 : decode cX11_hasBit 8 = .ok (.iconst 1, 1) := by decide +kernel
theorem dX11_hasBit_9 : decode cX11_hasBit 9 = .ok (.goto 4, 3) := by decide +kernel
theorem dX11_hasBit_12 : decode cX11_hasBit 12 = .ok (.iconst 0, 1) := by decide +kernel
theorem dX11_hasBit_13 : decode cX11_hasBit 13 = .ok (.ireturn, 1) := by decide +kernel
theorem dX11_isDigit_0 : decode cX11_isDigit 0 = .ok (.iload_n 0, 1) := by decide +kernel
theorem dX11_isDigit_1 : decode cX11_isDigit 1 = .ok (.bipush 48, 2) := by decide +kernel
theorem dX11_isDigit_3 : decode cX11_isDigit 3 = .ok (.if_icmp .lt 13, 3) := by decide +kernel
theorem dX11_isDigit_6 : decode cX11_isDigit 6 = .ok (.iload_n 0, 1) := by decide +kernel
theorem dX11_isDigit_7 : decode cX11_isDigit 7 = .ok (.bipush 57, 2) := by decide +kernel
theorem dX11_isDigit_9 : decode cX11_isDigit 9 = .ok (.if_icmp .gt 7, 3) := by decide +kernel
theorem dX11_isDigit_12 : decode cX11_isDigit 12 = .ok (.iconst 1, 1) := by decide +kernel
theorem dX11_isDigit_13 : decode cX11_isDigit 13 = .ok (.goto 4, 3) := by decide +kernel
theorem dX11_isDigit_16 : decode cX11_isDigit 16 = .ok (.iconst 0, 1) := by decide +kernel
theorem dX11_isDigit_17 : decode cX11_isDigit 17 = .ok (.ireturn, 1) := by decide +kernel
theorem dX11_placeIn_0 : decode cX11_placeIn 0 = .ok (.aload_n 0, 1) := by decide +kernel
theorem dX11_placeIn_1 : decode cX11_placeIn 1 = .ok (.ifnonnull 5, 3) := by decide +kernel
theorem dX11_placeIn_4 : decode cX11_placeIn 4 = .ok (.iconst (-1), 1) := by decide +kernel
theorem dX11_placeIn_5 : decode cX11_placeIn 5 = .ok (.ireturn, 1) := by decide +kernel
theorem dX11_placeIn_6 : decode cX11_placeIn 6 = .ok (.iconst 0, 1) := by decide +kernel
theorem dX11_placeIn_7 : decode cX11_placeIn 7 = .ok (.istore_n 2, 1) := by decide +kernel
theorem dX11_placeIn_8 : decode cX11_placeIn 8 = .ok (.iload_n 2, 1) := by decide +kernel
theorem dX11_placeIn_9 : decode cX11_placeIn 9 = .ok (.aload_n 0, 1) := by decide +kernel
theorem dX11_placeIn_10 : decode cX11_placeIn 10 = .ok (.arraylength, 1) := by decide +kernel
theorem dX11_placeIn_11 : decode cX11_placeIn 11 = .ok (.if_icmp .ge 18, 3) := by decide +kernel
theorem dX11_placeIn_14 : decode cX11_placeIn 14 = .ok (.aload_n 0, 1) := by decide +kernel
theorem dX11_placeIn_15 : decode cX11_placeIn 15 = .ok (.iload_n 2, 1) := by decide +kernel
theorem dX11_placeIn_16 : decode cX11_placeIn 16 = .ok (.caload, 1) := by decide +kernel
theorem dX11_placeIn_17 : decode cX11_placeIn 17 = .ok (.iload_n 1, 1) := by decide +kernel
theorem dX11_placeIn_18 : decode cX11_placeIn 18 = .ok (.if_icmp .ne 5, 3) := by decide +kernel
theorem dX11_placeIn_21 : decode cX11_placeIn 21 = .ok (.iload_n 2, 1) := by decide +kernel
theorem dX11_placeIn_22 : decode cX11_placeIn 22 = .ok (.ireturn, 1) := by decide +kernel
theorem dX11_placeIn_23 : decode cX11_placeIn 23 = .ok (.iinc 2 1, 3) := by decide +kernel
theorem dX11_placeIn_26 : decode cX11_placeIn 26 = .ok (.goto (-18), 3) := by decide +kernel
theorem dX11_placeIn_29 : decode cX11_placeIn 29 = .ok (.iconst (-1), 1) := by decide +kernel
theorem dX11_placeIn_30 : decode cX11_placeIn 30 = .ok (.ireturn, 1) := by decide +kernel
theorem dX11_entry_0 : decode cX11_entry 0 = .ok (.aload_n 0, 1) := by decide +kernel
theorem dX11_entry_1 : decode cX11_entry 1 = .ok (.ifnull 19, 3) := by decide +kernel
theorem dX11_entry_4 : decode cX11_entry 4 = .ok (.iload_n 1, 1) := by decide +kernel
theorem dX11_entry_5 : decode cX11_entry 5 = .ok (.ifCond .lt 15, 3) := by decide +kernel
theorem dX11_entry_8 : decode cX11_entry 8 = .ok (.iload_n 1, 1) := by decide +kernel
theorem dX11_entry_9 : decode cX11_entry 9 = .ok (.aload_n 0, 1) := by decide +kernel
theorem dX11_entry_10 : decode cX11_entry 10 = .ok (.arraylength, 1) := by decide +kernel
theorem dX11_entry_11 : decode cX11_entry 11 = .ok (.if_icmp .ge 9, 3) := by decide +kernel
theorem dX11_entry_14 : decode cX11_entry 14 = .ok (.aload_n 0, 1) := by decide +kernel
theorem dX11_entry_15 : decode cX11_entry 15 = .ok (.iload_n 1, 1) := by decide +kernel
theorem dX11_entry_16 : decode cX11_entry 16 = .ok (.iaload, 1) := by decide +kernel
theorem dX11_entry_17 : decode cX11_entry 17 = .ok (.goto 4, 3) := by decide +kernel
theorem dX11_entry_20 : decode cX11_entry 20 = .ok (.iconst 0, 1) := by decide +kernel
theorem dX11_entry_21 : decode cX11_entry 21 = .ok (.ireturn, 1) := by decide +kernel
