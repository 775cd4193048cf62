/-! what each instruction decodes to (written by program) -/
theorem dX0_init_0 : decode M_X0_init.2.2.1 0 = .ok (.aload_n 0, 1) := by decide +kernel
theorem dX0_init_1 : decode M_X0_init.2.2.1 1 = .ok (.invokespecial 3, 3) := by decide +kernel
theorem dX0_init_4 : decode M_X0_init.2.2.1 4 = .ok (.aload_n 0, 1) := by decide +kernel
theorem dX0_init_5 : decode M_X0_init.2.2.1 5 = .ok (.bipush 7, 2) := by decide +kernel
theorem dX0_init_7 : decode M_X0_init.2.2.1 7 = .ok (.newarray .int, 2) := by decide +kernel
theorem dX0_init_9 : decode M_X0_init.2.2.1 9 = .ok (.putfield 9, 3) := by decide +kernel
theorem dX0_init_12 : decode M_X0_init.2.2.1 12 = .ok (.return_, 1) := by decide +kernel
theorem dX0_fact_0 : decode M_X0_fact.2.2.1 0 = .ok (.iload_n 1, 1) := by decide +kernel
theorem dX0_fact_1 : decode M_X0_fact.2.2.1 1 = .ok (.ifCond .lt 21, 3) := by decide +kernel
theorem dX0_fact_4 : decode M_X0_fact.2.2.1 4 = .ok (.iload_n 1, 1) := by decide +kernel
theorem dX0_fact_5 : decode M_X0_fact.2.2.1 5 = .ok (.aload_n 0, 1) := by decide +kernel
theorem dX0_fact_6 : decode M_X0_fact.2.2.1 6 = .ok (.getfield 9, 3) := by decide +kernel
theorem dX0_fact_9 : decode M_X0_fact.2.2.1 9 = .ok (.arraylength, 1) := by decide +kernel
theorem dX0_fact_10 : decode M_X0_fact.2.2.1 10 = .ok (.if_icmp .ge 12, 3) := by decide +kernel
theorem dX0_fact_13 : decode M_X0_fact.2.2.1 13 = .ok (.aload_n 0, 1) := by decide +kernel
theorem dX0_fact_14 : decode M_X0_fact.2.2.1 14 = .ok (.getfield 9, 3) := by decide +kernel
theorem dX0_fact_17 : decode M_X0_fact.2.2.1 17 = .ok (.iload_n 1, 1) := by decide +kernel
theorem dX0_fact_18 : decode M_X0_fact.2.2.1 18 = .ok (.iaload, 1) := by decide +kernel
theorem dX0_fact_19 : decode M_X0_fact.2.2.1 19 = .ok (.goto 4, 3) := by decide +kernel
theorem dX0_fact_22 : decode M_X0_fact.2.2.1 22 = .ok (.iconst 0, 1) := by decide +kernel
theorem dX0_fact_23 : decode M_X0_fact.2.2.1 23 = .ok (.ireturn, 1) := by decide +kernel
theorem dX0_setWhen_0 : decode M_X0_setWhen.2.2.1 0 = .ok (.aload_n 0, 1) := by decide +kernel
theorem dX0_setWhen_1 : decode M_X0_setWhen.2.2.1 1 = .ok (.getfield 9, 3) := by decide +kernel
theorem dX0_setWhen_4 : decode M_X0_setWhen.2.2.1 4 = .ok (.iconst 0, 1) := by decide +kernel
theorem dX0_setWhen_5 : decode M_X0_setWhen.2.2.1 5 = .ok (.iload_n 1, 1) := by decide +kernel
theorem dX0_setWhen_6 : decode M_X0_setWhen.2.2.1 6 = .ok (.iastore, 1) := by decide +kernel
theorem dX0_setWhen_7 : decode M_X0_setWhen.2.2.1 7 = .ok (.aload_n 0, 1) := by decide +kernel
theorem dX0_setWhen_8 : decode M_X0_setWhen.2.2.1 8 = .ok (.getfield 9, 3) := by decide +kernel
theorem dX0_setWhen_11 : decode M_X0_setWhen.2.2.1 11 = .ok (.iconst 1, 1) := by decide +kernel
theorem dX0_setWhen_12 : decode M_X0_setWhen.2.2.1 12 = .ok (.iload_n 2, 1) := by decide +kernel
theorem dX0_setWhen_13 : decode M_X0_setWhen.2.2.1 13 = .ok (.iastore, 1) := by decide +kernel
theorem dX0_setWhen_14 : decode M_X0_setWhen.2.2.1 14 = .ok (.return_, 1) := by decide +kernel
theorem dX0_measure_0 : decode M_X0_measure.2.2.1 0 = .ok (.aload_n 1, 1) := by decide +kernel
theorem dX0_measure_1 : decode M_X0_measure.2.2.1 1 = .ok (.iload_n 2, 1) := by decide +kernel
theorem dX0_measure_2 : decode M_X0_measure.2.2.1 2 = .ok (.iload_n 3, 1) := by decide +kernel
theorem dX0_measure_3 : decode M_X0_measure.2.2.1 3 = .ok (.invokevirtual 15, 3) := by decide +kernel
theorem dX0_measure_6 : decode M_X0_measure.2.2.1 6 = .ok (.ifCond .ne 5, 3) := by decide +kernel
theorem dX0_measure_9 : decode M_X0_measure.2.2.1 9 = .ok (.iconst 0, 1) := by decide +kernel
theorem dX0_measure_10 : decode M_X0_measure.2.2.1 10 = .ok (.ireturn, 1) := by decide +kernel
theorem dX0_measure_11 : decode M_X0_measure.2.2.1 11 = .ok (.iconst (-1), 1) := by decide +kernel
theorem dX0_measure_12 : decode M_X0_measure.2.2.1 12 = .ok (.istore 4, 2) := by decide +kernel
theorem dX0_measure_14 : decode M_X0_measure.2.2.1 14 = .ok (.iconst 0, 1) := by decide +kernel
theorem dX0_measure_15 : decode M_X0_measure.2.2.1 15 = .ok (.istore 5, 2) := by decide +kernel
theorem dX0_measure_17 : decode M_X0_measure.2.2.1 17 = .ok (.iconst 0, 1) := by decide +kernel
theorem dX0_measure_18 : decode M_X0_measure.2.2.1 18 = .ok (.istore 6, 2) := by decide +kernel
theorem dX0_measure_20 : decode M_X0_measure.2.2.1 20 = .ok (.iconst 0, 1) := by decide +kernel
theorem dX0_measure_21 : decode M_X0_measure.2.2.1 21 = .ok (.istore 7, 2) := by decide +kernel
theorem dX0_measure_23 : decode M_X0_measure.2.2.1 23 = .ok (.iload_n 2, 1) := by decide +kernel
theorem dX0_measure_24 : decode M_X0_measure.2.2.1 24 = .ok (.istore 8, 2) := by decide +kernel
theorem dX0_measure_26 : decode M_X0_measure.2.2.1 26 = .ok (.iload 8, 2) := by decide +kernel
theorem dX0_measure_28 : decode M_X0_measure.2.2.1 28 = .ok (.iload_n 3, 1) := by decide +kernel
theorem dX0_measure_29 : decode M_X0_measure.2.2.1 29 = .ok (.if_icmp .gt 77, 3) := by decide +kernel
theorem dX0_measure_32 : decode M_X0_measure.2.2.1 32 = .ok (.aload_n 1, 1) := by decide +kernel
theorem dX0_measure_33 : decode M_X0_measure.2.2.1 33 = .ok (.iload 8, 2) := by decide +kernel
theorem dX0_measure_35 : decode M_X0_measure.2.2.1 35 = .ok (.invokevirtual 21, 3) := by decide +kernel
theorem dX0_measure_38 : decode M_X0_measure.2.2.1 38 = .ok (.istore 9, 2) := by decide +kernel
theorem dX0_measure_40 : decode M_X0_measure.2.2.1 40 = .ok (.iload 9, 2) := by decide +kernel
theorem dX0_measure_42 : decode M_X0_measure.2.2.1 42 = .ok (.invokestatic 25, 3) := by decide +kernel
theorem dX0_measure_45 : decode M_X0_measure.2.2.1 45 = .ok (.iload 4, 2) := by decide +kernel
theorem dX0_measure_47 : decode M_X0_measure.2.2.1 47 = .ok (.if_icmp .le 16, 3) := by decide +kernel
theorem dX0_measure_50 : decode M_X0_measure.2.2.1 50 = .ok (.iload 9, 2) := by decide +kernel
theorem dX0_measure_52 : decode M_X0_measure.2.2.1 52 = .ok (.invokestatic 25, 3) := by decide +kernel
theorem dX0_measure_55 : decode M_X0_measure.2.2.1 55 = .ok (.istore 4, 2) := by decide +kernel
theorem dX0_measure_57 : decode M_X0_measure.2.2.1 57 = .ok (.iload 8, 2) := by decide +kernel
theorem dX0_measure_59 : decode M_X0_measure.2.2.1 59 = .ok (.iload_n 2, 1) := by decide +kernel
theorem dX0_measure_60 : decode M_X0_measure.2.2.1 60 = .ok (.isub, 1) := by decide +kernel
theorem dX0_measure_61 : decode M_X0_measure.2.2.1 61 = .ok (.istore 5, 2) := by decide +kernel
theorem dX0_measure_63 : decode M_X0_measure.2.2.1 63 = .ok (.iload 8, 2) := by decide +kernel
theorem dX0_measure_65 : decode M_X0_measure.2.2.1 65 = .ok (.iload_n 2, 1) := by decide +kernel
theorem dX0_measure_66 : decode M_X0_measure.2.2.1 66 = .ok (.if_icmp .le 22, 3) := by decide +kernel
theorem dX0_measure_69 : decode M_X0_measure.2.2.1 69 = .ok (.aload_n 1, 1) := by decide +kernel
theorem dX0_measure_70 : decode M_X0_measure.2.2.1 70 = .ok (.iload 8, 2) := by decide +kernel
theorem dX0_measure_72 : decode M_X0_measure.2.2.1 72 = .ok (.iconst 1, 1) := by decide +kernel
theorem dX0_measure_73 : decode M_X0_measure.2.2.1 73 = .ok (.isub, 1) := by decide +kernel
theorem dX0_measure_74 : decode M_X0_measure.2.2.1 74 = .ok (.invokevirtual 21, 3) := by decide +kernel
theorem dX0_measure_77 : decode M_X0_measure.2.2.1 77 = .ok (.iload 9, 2) := by decide +kernel
theorem dX0_measure_79 : decode M_X0_measure.2.2.1 79 = .ok (.invokestatic 30, 3) := by decide +kernel
theorem dX0_measure_82 : decode M_X0_measure.2.2.1 82 = .ok (.ifCond .eq 6, 3) := by decide +kernel
theorem dX0_measure_85 : decode M_X0_measure.2.2.1 85 = .ok (.iinc 6 1, 3) := by decide +kernel
theorem dX0_measure_88 : decode M_X0_measure.2.2.1 88 = .ok (.aload_n 1, 1) := by decide +kernel
theorem dX0_measure_89 : decode M_X0_measure.2.2.1 89 = .ok (.iload 8, 2) := by decide +kernel
theorem dX0_measure_91 : decode M_X0_measure.2.2.1 91 = .ok (.invokevirtual 33, 3) := by decide +kernel
theorem dX0_measure_94 : decode M_X0_measure.2.2.1 94 = .ok (.ifCond .eq 6, 3) := by decide +kernel
theorem dX0_measure_97 : decode M_X0_measure.2.2.1 97 = .ok (.iinc 7 1, 3) := by decide +kernel
theorem dX0_measure_100 : decode M_X0_measure.2.2.1 100 = .ok (.iinc 8 1, 3) := by decide +kernel
theorem dX0_measure_103 : decode M_X0_measure.2.2.1 103 = .ok (.goto (-77), 3) := by decide +kernel
theorem dX0_measure_106 : decode M_X0_measure.2.2.1 106 = .ok (.aload_n 0, 1) := by decide +kernel
theorem dX0_measure_107 : decode M_X0_measure.2.2.1 107 = .ok (.getfield 9, 3) := by decide +kernel
theorem dX0_measure_110 : decode M_X0_measure.2.2.1 110 = .ok (.iconst 2, 1) := by decide +kernel
theorem dX0_measure_111 : decode M_X0_measure.2.2.1 111 = .ok (.iload 4, 2) := by decide +kernel
theorem dX0_measure_113 : decode M_X0_measure.2.2.1 113 = .ok (.iastore, 1) := by decide +kernel
theorem dX0_measure_114 : decode M_X0_measure.2.2.1 114 = .ok (.aload_n 0, 1) := by decide +kernel
theorem dX0_measure_115 : decode M_X0_measure.2.2.1 115 = .ok (.getfield 9, 3) := by decide +kernel
theorem dX0_measure_118 : decode M_X0_measure.2.2.1 118 = .ok (.iconst 3, 1) := by decide +kernel
theorem dX0_measure_119 : decode M_X0_measure.2.2.1 119 = .ok (.iload_n 3, 1) := by decide +kernel
theorem dX0_measure_120 : decode M_X0_measure.2.2.1 120 = .ok (.iload_n 2, 1) := by decide +kernel
theorem dX0_measure_121 : decode M_X0_measure.2.2.1 121 = .ok (.isub, 1) := by decide +kernel
theorem dX0_measure_122 : decode M_X0_measure.2.2.1 122 = .ok (.iconst 1, 1) := by decide +kernel
theorem dX0_measure_123 : decode M_X0_measure.2.2.1 123 = .ok (.iadd, 1) := by decide +kernel
theorem dX0_measure_124 : decode M_X0_measure.2.2.1 124 = .ok (.iastore, 1) := by decide +kernel
theorem dX0_measure_125 : decode M_X0_measure.2.2.1 125 = .ok (.aload_n 0, 1) := by decide +kernel
theorem dX0_measure_126 : decode M_X0_measure.2.2.1 126 = .ok (.getfield 9, 3) := by decide +kernel
theorem dX0_measure_129 : decode M_X0_measure.2.2.1 129 = .ok (.iconst 4, 1) := by decide +kernel
theorem dX0_measure_130 : decode M_X0_measure.2.2.1 130 = .ok (.iload 6, 2) := by decide +kernel
theorem dX0_measure_132 : decode M_X0_measure.2.2.1 132 = .ok (.iastore, 1) := by decide +kernel
theorem dX0_measure_133 : decode M_X0_measure.2.2.1 133 = .ok (.aload_n 0, 1) := by decide +kernel
theorem dX0_measure_134 : decode M_X0_measure.2.2.1 134 = .ok (.getfield 9, 3) := by decide +kernel
theorem dX0_measure_137 : decode M_X0_measure.2.2.1 137 = .ok (.iconst 5, 1) := by decide +kernel
theorem dX0_measure_138 : decode M_X0_measure.2.2.1 138 = .ok (.iload 5, 2) := by decide +kernel
theorem dX0_measure_140 : decode M_X0_measure.2.2.1 140 = .ok (.iastore, 1) := by decide +kernel
theorem dX0_measure_141 : decode M_X0_measure.2.2.1 141 = .ok (.aload_n 0, 1) := by decide +kernel
theorem dX0_measure_142 : decode M_X0_measure.2.2.1 142 = .ok (.getfield 9, 3) := by decide +kernel
theorem dX0_measure_145 : decode M_X0_measure.2.2.1 145 = .ok (.bipush 6, 2) := by decide +kernel
theorem dX0_measure_147 : decode M_X0_measure.2.2.1 147 = .ok (.iload 7, 2) := by decide +kernel
theorem dX0_measure_149 : decode M_X0_measure.2.2.1 149 = .ok (.iastore, 1) := by decide +kernel
theorem dX0_measure_150 : decode M_X0_measure.2.2.1 150 = .ok (.iconst 1, 1) := by decide +kernel
theorem dX0_measure_151 : decode M_X0_measure.2.2.1 151 = .ok (.ireturn, 1) := by decide +kernel
theorem dX0_isCrossing_0 : decode M_X0_isCrossing.2.2.1 0 = .ok (.iload_n 0, 1) := by decide +kernel
theorem dX0_isCrossing_1 : decode M_X0_isCrossing.2.2.1 1 = .ok (.ifCond .le 7, 3) := by decide +kernel
theorem dX0_isCrossing_4 : decode M_X0_isCrossing.2.2.1 4 = .ok (.iload_n 1, 1) := by decide +kernel
theorem dX0_isCrossing_5 : decode M_X0_isCrossing.2.2.1 5 = .ok (.ifCond .lt 11, 3) := by decide +kernel
theorem dX0_isCrossing_8 : decode M_X0_isCrossing.2.2.1 8 = .ok (.iload_n 0, 1) := by decide +kernel
theorem dX0_isCrossing_9 : decode M_X0_isCrossing.2.2.1 9 = .ok (.ifCond .ge 11, 3) := by decide +kernel
theorem dX0_isCrossing_12 : decode M_X0_isCrossing.2.2.1 12 = .ok (.iload_n 1, 1) := by decide +kernel
theorem dX0_isCrossing_13 : decode M_X0_isCrossing.2.2.1 13 = .ok (.ifCond .le 7, 3) := by decide +kernel
theorem dX0_isCrossing_16 : decode M_X0_isCrossing.2.2.1 16 = .ok (.iconst 1, 1) := by decide +kernel
theorem dX0_isCrossing_17 : decode M_X0_isCrossing.2.2.1 17 = .ok (.goto 4, 3) := by decide +kernel
theorem dX0_isCrossing_20 : decode M_X0_isCrossing.2.2.1 20 = .ok (.iconst 0, 1) := by decide +kernel
theorem dX0_isCrossing_21 : decode M_X0_isCrossing.2.2.1 21 = .ok (.ireturn, 1) := by decide +kernel
theorem dX1_init_0 : decode M_X1_init.2.2.1 0 = .ok (.aload_n 0, 1) := by decide +kernel
theorem dX1_init_1 : decode M_X1_init.2.2.1 1 = .ok (.invokespecial 3, 3) := by decide +kernel
theorem dX1_init_4 : decode M_X1_init.2.2.1 4 = .ok (.aload_n 0, 1) := by decide +kernel
theorem dX1_init_5 : decode M_X1_init.2.2.1 5 = .ok (.bipush 100, 2) := by decide +kernel
theorem dX1_init_7 : decode M_X1_init.2.2.1 7 = .ok (.newarray .int, 2) := by decide +kernel
theorem dX1_init_9 : decode M_X1_init.2.2.1 9 = .ok (.putfield 9, 3) := by decide +kernel
theorem dX1_init_12 : decode M_X1_init.2.2.1 12 = .ok (.aload_n 0, 1) := by decide +kernel
theorem dX1_init_13 : decode M_X1_init.2.2.1 13 = .ok (.bipush 100, 2) := by decide +kernel
theorem dX1_init_15 : decode M_X1_init.2.2.1 15 = .ok (.newarray .int, 2) := by decide +kernel
theorem dX1_init_17 : decode M_X1_init.2.2.1 17 = .ok (.putfield 15, 3) := by decide +kernel
theorem dX1_init_20 : decode M_X1_init.2.2.1 20 = .ok (.aload_n 0, 1) := by decide +kernel
theorem dX1_init_21 : decode M_X1_init.2.2.1 21 = .ok (.bipush 100, 2) := by decide +kernel
theorem dX1_init_23 : decode M_X1_init.2.2.1 23 = .ok (.newarray .int, 2) := by decide +kernel
theorem dX1_init_25 : decode M_X1_init.2.2.1 25 = .ok (.putfield 18, 3) := by decide +kernel
theorem dX1_init_28 : decode M_X1_init.2.2.1 28 = .ok (.aload_n 0, 1) := by decide +kernel
theorem dX1_init_29 : decode M_X1_init.2.2.1 29 = .ok (.bipush 100, 2) := by decide +kernel
theorem dX1_init_31 : decode M_X1_init.2.2.1 31 = .ok (.newarray .int, 2) := by decide +kernel
theorem dX1_init_33 : decode M_X1_init.2.2.1 33 = .ok (.putfield 21, 3) := by decide +kernel
theorem dX1_init_36 : decode M_X1_init.2.2.1 36 = .ok (.aload_n 0, 1) := by decide +kernel
theorem dX1_init_37 : decode M_X1_init.2.2.1 37 = .ok (.bipush 100, 2) := by decide +kernel
theorem dX1_init_39 : decode M_X1_init.2.2.1 39 = .ok (.newarray .boolean, 2) := by decide +kernel
theorem dX1_init_41 : decode M_X1_init.2.2.1 41 = .ok (.putfield 24, 3) := by decide +kernel
theorem dX1_init_44 : decode M_X1_init.2.2.1 44 = .ok (.return_, 1) := by decide +kernel
theorem dX1_append_0 : decode M_X1_append.2.2.1 0 = .ok (.aload_n 0, 1) := by decide +kernel
theorem dX1_append_1 : decode M_X1_append.2.2.1 1 = .ok (.getfield 28, 3) := by decide +kernel
theorem dX1_append_4 : decode M_X1_append.2.2.1 4 = .ok (.bipush 100, 2) := by decide +kernel
theorem dX1_append_6 : decode M_X1_append.2.2.1 6 = .ok (.if_icmp .lt 5, 3) := by decide +kernel
theorem dX1_append_9 : decode M_X1_append.2.2.1 9 = .ok (.iconst (-1), 1) := by decide +kernel
theorem dX1_append_10 : decode M_X1_append.2.2.1 10 = .ok (.ireturn, 1) := by decide +kernel
theorem dX1_append_11 : decode M_X1_append.2.2.1 11 = .ok (.aload_n 0, 1) := by decide +kernel
theorem dX1_append_12 : decode M_X1_append.2.2.1 12 = .ok (.getfield 9, 3) := by decide +kernel
theorem dX1_append_15 : decode M_X1_append.2.2.1 15 = .ok (.aload_n 0, 1) := by decide +kernel
theorem dX1_append_16 : decode M_X1_append.2.2.1 16 = .ok (.getfield 28, 3) := by decide +kernel
theorem dX1_append_19 : decode M_X1_append.2.2.1 19 = .ok (.iload_n 1, 1) := by decide +kernel
theorem dX1_append_20 : decode M_X1_append.2.2.1 20 = .ok (.iastore, 1) := by decide +kernel
theorem dX1_append_21 : decode M_X1_append.2.2.1 21 = .ok (.aload_n 0, 1) := by decide +kernel
theorem dX1_append_22 : decode M_X1_append.2.2.1 22 = .ok (.getfield 15, 3) := by decide +kernel
theorem dX1_append_25 : decode M_X1_append.2.2.1 25 = .ok (.aload_n 0, 1) := by decide +kernel
theorem dX1_append_26 : decode M_X1_append.2.2.1 26 = .ok (.getfield 28, 3) := by decide +kernel
theorem dX1_append_29 : decode M_X1_append.2.2.1 29 = .ok (.iload_n 2, 1) := by decide +kernel
theorem dX1_append_30 : decode M_X1_append.2.2.1 30 = .ok (.bipush 40, 2) := by decide +kernel
theorem dX1_append_32 : decode M_X1_append.2.2.1 32 = .ok (.irem, 1) := by decide +kernel
theorem dX1_append_33 : decode M_X1_append.2.2.1 33 = .ok (.iastore, 1) := by decide +kernel
theorem dX1_append_34 : decode M_X1_append.2.2.1 34 = .ok (.aload_n 0, 1) := by decide +kernel
theorem dX1_append_35 : decode M_X1_append.2.2.1 35 = .ok (.getfield 18, 3) := by decide +kernel
theorem dX1_append_38 : decode M_X1_append.2.2.1 38 = .ok (.aload_n 0, 1) := by decide +kernel
theorem dX1_append_39 : decode M_X1_append.2.2.1 39 = .ok (.getfield 28, 3) := by decide +kernel
theorem dX1_append_42 : decode M_X1_append.2.2.1 42 = .ok (.iload_n 2, 1) := by decide +kernel
theorem dX1_append_43 : decode M_X1_append.2.2.1 43 = .ok (.bipush 40, 2) := by decide +kernel
theorem dX1_append_45 : decode M_X1_append.2.2.1 45 = .ok (.idiv, 1) := by decide +kernel
theorem dX1_append_46 : decode M_X1_append.2.2.1 46 = .ok (.iastore, 1) := by decide +kernel
theorem dX1_append_47 : decode M_X1_append.2.2.1 47 = .ok (.aload_n 0, 1) := by decide +kernel
theorem dX1_append_48 : decode M_X1_append.2.2.1 48 = .ok (.getfield 21, 3) := by decide +kernel
theorem dX1_append_51 : decode M_X1_append.2.2.1 51 = .ok (.aload_n 0, 1) := by decide +kernel
theorem dX1_append_52 : decode M_X1_append.2.2.1 52 = .ok (.getfield 28, 3) := by decide +kernel
theorem dX1_append_55 : decode M_X1_append.2.2.1 55 = .ok (.iload_n 3, 1) := by decide +kernel
theorem dX1_append_56 : decode M_X1_append.2.2.1 56 = .ok (.iastore, 1) := by decide +kernel
theorem dX1_append_57 : decode M_X1_append.2.2.1 57 = .ok (.aload_n 0, 1) := by decide +kernel
theorem dX1_append_58 : decode M_X1_append.2.2.1 58 = .ok (.dup, 1) := by decide +kernel
theorem dX1_append_59 : decode M_X1_append.2.2.1 59 = .ok (.getfield 28, 3) := by decide +kernel
theorem dX1_append_62 : decode M_X1_append.2.2.1 62 = .ok (.iconst 1, 1) := by decide +kernel
theorem dX1_append_63 : decode M_X1_append.2.2.1 63 = .ok (.iadd, 1) := by decide +kernel
theorem dX1_append_64 : decode M_X1_append.2.2.1 64 = .ok (.putfield 28, 3) := by decide +kernel
theorem dX1_append_67 : decode M_X1_append.2.2.1 67 = .ok (.aload_n 0, 1) := by decide +kernel
theorem dX1_append_68 : decode M_X1_append.2.2.1 68 = .ok (.getfield 28, 3) := by decide +kernel
theorem dX1_append_71 : decode M_X1_append.2.2.1 71 = .ok (.iconst 1, 1) := by decide +kernel
theorem dX1_append_72 : decode M_X1_append.2.2.1 72 = .ok (.isub, 1) := by decide +kernel
theorem dX1_append_73 : decode M_X1_append.2.2.1 73 = .ok (.ireturn, 1) := by decide +kernel
theorem dX1_freeAll_0 : decode M_X1_freeAll.2.2.1 0 = .ok (.iconst 0, 1) := by decide +kernel
theorem dX1_freeAll_1 : decode M_X1_freeAll.2.2.1 1 = .ok (.istore_n 1, 1) := by decide +kernel
theorem dX1_freeAll_2 : decode M_X1_freeAll.2.2.1 2 = .ok (.iload_n 1, 1) := by decide +kernel
theorem dX1_freeAll_3 : decode M_X1_freeAll.2.2.1 3 = .ok (.aload_n 0, 1) := by decide +kernel
theorem dX1_freeAll_4 : decode M_X1_freeAll.2.2.1 4 = .ok (.getfield 28, 3) := by decide +kernel
theorem dX1_freeAll_7 : decode M_X1_freeAll.2.2.1 7 = .ok (.if_icmp .ge 16, 3) := by decide +kernel
theorem dX1_freeAll_10 : decode M_X1_freeAll.2.2.1 10 = .ok (.aload_n 0, 1) := by decide +kernel
theorem dX1_freeAll_11 : decode M_X1_freeAll.2.2.1 11 = .ok (.getfield 24, 3) := by decide +kernel
theorem dX1_freeAll_14 : decode M_X1_freeAll.2.2.1 14 = .ok (.iload_n 1, 1) := by decide +kernel
theorem dX1_freeAll_15 : decode M_X1_freeAll.2.2.1 15 = .ok (.iconst 0, 1) := by decide +kernel
theorem dX1_freeAll_16 : decode M_X1_freeAll.2.2.1 16 = .ok (.bastore, 1) := by decide +kernel
theorem dX1_freeAll_17 : decode M_X1_freeAll.2.2.1 17 = .ok (.iinc 1 1, 3) := by decide +kernel
theorem dX1_freeAll_20 : decode M_X1_freeAll.2.2.1 20 = .ok (.goto (-18), 3) := by decide +kernel
theorem dX1_freeAll_23 : decode M_X1_freeAll.2.2.1 23 = .ok (.return_, 1) := by decide +kernel
theorem dX1_isAtWork_0 : decode M_X1_isAtWork.2.2.1 0 = .ok (.aload_n 0, 1) := by decide +kernel
theorem dX1_isAtWork_1 : decode M_X1_isAtWork.2.2.1 1 = .ok (.getfield 9, 3) := by decide +kernel
theorem dX1_isAtWork_4 : decode M_X1_isAtWork.2.2.1 4 = .ok (.iload_n 1, 1) := by decide +kernel
theorem dX1_isAtWork_5 : decode M_X1_isAtWork.2.2.1 5 = .ok (.iaload, 1) := by decide +kernel
theorem dX1_isAtWork_6 : decode M_X1_isAtWork.2.2.1 6 = .ok (.bipush 24, 2) := by decide +kernel
theorem dX1_isAtWork_8 : decode M_X1_isAtWork.2.2.1 8 = .ok (.irem, 1) := by decide +kernel
theorem dX1_isAtWork_9 : decode M_X1_isAtWork.2.2.1 9 = .ok (.istore_n 2, 1) := by decide +kernel
theorem dX1_isAtWork_10 : decode M_X1_isAtWork.2.2.1 10 = .ok (.aload_n 0, 1) := by decide +kernel
theorem dX1_isAtWork_11 : decode M_X1_isAtWork.2.2.1 11 = .ok (.getfield 9, 3) := by decide +kernel
theorem dX1_isAtWork_14 : decode M_X1_isAtWork.2.2.1 14 = .ok (.iload_n 1, 1) := by decide +kernel
theorem dX1_isAtWork_15 : decode M_X1_isAtWork.2.2.1 15 = .ok (.iaload, 1) := by decide +kernel
theorem dX1_isAtWork_16 : decode M_X1_isAtWork.2.2.1 16 = .ok (.bipush 24, 2) := by decide +kernel
theorem dX1_isAtWork_18 : decode M_X1_isAtWork.2.2.1 18 = .ok (.idiv, 1) := by decide +kernel
theorem dX1_isAtWork_19 : decode M_X1_isAtWork.2.2.1 19 = .ok (.istore_n 3, 1) := by decide +kernel
theorem dX1_isAtWork_20 : decode M_X1_isAtWork.2.2.1 20 = .ok (.iload_n 2, 1) := by decide +kernel
theorem dX1_isAtWork_21 : decode M_X1_isAtWork.2.2.1 21 = .ok (.bipush 8, 2) := by decide +kernel
theorem dX1_isAtWork_23 : decode M_X1_isAtWork.2.2.1 23 = .ok (.if_icmp .lt 22, 3) := by decide +kernel
theorem dX1_isAtWork_26 : decode M_X1_isAtWork.2.2.1 26 = .ok (.iload_n 2, 1) := by decide +kernel
theorem dX1_isAtWork_27 : decode M_X1_isAtWork.2.2.1 27 = .ok (.bipush 17, 2) := by decide +kernel
theorem dX1_isAtWork_29 : decode M_X1_isAtWork.2.2.1 29 = .ok (.if_icmp .gt 16, 3) := by decide +kernel
theorem dX1_isAtWork_32 : decode M_X1_isAtWork.2.2.1 32 = .ok (.iload_n 3, 1) := by decide +kernel
theorem dX1_isAtWork_33 : decode M_X1_isAtWork.2.2.1 33 = .ok (.bipush 7, 2) := by decide +kernel
theorem dX1_isAtWork_35 : decode M_X1_isAtWork.2.2.1 35 = .ok (.irem, 1) := by decide +kernel
theorem dX1_isAtWork_36 : decode M_X1_isAtWork.2.2.1 36 = .ok (.bipush 6, 2) := by decide +kernel
theorem dX1_isAtWork_38 : decode M_X1_isAtWork.2.2.1 38 = .ok (.if_icmp .eq 7, 3) := by decide +kernel
theorem dX1_isAtWork_41 : decode M_X1_isAtWork.2.2.1 41 = .ok (.iconst 1, 1) := by decide +kernel
theorem dX1_isAtWork_42 : decode M_X1_isAtWork.2.2.1 42 = .ok (.goto 4, 3) := by decide +kernel
theorem dX1_isAtWork_45 : decode M_X1_isAtWork.2.2.1 45 = .ok (.iconst 0, 1) := by decide +kernel
theorem dX1_isAtWork_46 : decode M_X1_isAtWork.2.2.1 46 = .ok (.ireturn, 1) := by decide +kernel
theorem dX2_init_0 : decode M_X2_init.2.2.1 0 = .ok (.aload_n 0, 1) := by decide +kernel
theorem dX2_init_1 : decode M_X2_init.2.2.1 1 = .ok (.invokespecial 3, 3) := by decide +kernel
theorem dX2_init_4 : decode M_X2_init.2.2.1 4 = .ok (.aload_n 0, 1) := by decide +kernel
theorem dX2_init_5 : decode M_X2_init.2.2.1 5 = .ok (.iload_n 1, 1) := by decide +kernel
theorem dX2_init_6 : decode M_X2_init.2.2.1 6 = .ok (.putfield 9, 3) := by decide +kernel
theorem dX2_init_9 : decode M_X2_init.2.2.1 9 = .ok (.aload_n 0, 1) := by decide +kernel
theorem dX2_init_10 : decode M_X2_init.2.2.1 10 = .ok (.iload_n 2, 1) := by decide +kernel
theorem dX2_init_11 : decode M_X2_init.2.2.1 11 = .ok (.putfield 15, 3) := by decide +kernel
theorem dX2_init_14 : decode M_X2_init.2.2.1 14 = .ok (.aload_n 0, 1) := by decide +kernel
theorem dX2_init_15 : decode M_X2_init.2.2.1 15 = .ok (.bipush 8, 2) := by decide +kernel
theorem dX2_init_17 : decode M_X2_init.2.2.1 17 = .ok (.putfield 18, 3) := by decide +kernel
theorem dX2_init_20 : decode M_X2_init.2.2.1 20 = .ok (.aload_n 0, 1) := by decide +kernel
theorem dX2_init_21 : decode M_X2_init.2.2.1 21 = .ok (.bipush 16, 2) := by decide +kernel
theorem dX2_init_23 : decode M_X2_init.2.2.1 23 = .ok (.putfield 21, 3) := by decide +kernel
theorem dX2_init_26 : decode M_X2_init.2.2.1 26 = .ok (.aload_n 0, 1) := by decide +kernel
theorem dX2_init_27 : decode M_X2_init.2.2.1 27 = .ok (.bipush 99, 2) := by decide +kernel
theorem dX2_init_29 : decode M_X2_init.2.2.1 29 = .ok (.putfield 24, 3) := by decide +kernel
theorem dX2_init_32 : decode M_X2_init.2.2.1 32 = .ok (.aload_n 0, 1) := by decide +kernel
theorem dX2_init_33 : decode M_X2_init.2.2.1 33 = .ok (.sipush 200, 3) := by decide +kernel
theorem dX2_init_36 : decode M_X2_init.2.2.1 36 = .ok (.newarray .int, 2) := by decide +kernel
theorem dX2_init_38 : decode M_X2_init.2.2.1 38 = .ok (.putfield 27, 3) := by decide +kernel
theorem dX2_init_41 : decode M_X2_init.2.2.1 41 = .ok (.aload_n 0, 1) := by decide +kernel
theorem dX2_init_42 : decode M_X2_init.2.2.1 42 = .ok (.bipush 40, 2) := by decide +kernel
theorem dX2_init_44 : decode M_X2_init.2.2.1 44 = .ok (.newarray .int, 2) := by decide +kernel
theorem dX2_init_46 : decode M_X2_init.2.2.1 46 = .ok (.putfield 31, 3) := by decide +kernel
theorem dX2_init_49 : decode M_X2_init.2.2.1 49 = .ok (.aload_n 0, 1) := by decide +kernel
theorem dX2_init_50 : decode M_X2_init.2.2.1 50 = .ok (.bipush 40, 2) := by decide +kernel
theorem dX2_init_52 : decode M_X2_init.2.2.1 52 = .ok (.newarray .int, 2) := by decide +kernel
theorem dX2_init_54 : decode M_X2_init.2.2.1 54 = .ok (.putfield 34, 3) := by decide +kernel
theorem dX2_init_57 : decode M_X2_init.2.2.1 57 = .ok (.aload_n 0, 1) := by decide +kernel
theorem dX2_init_58 : decode M_X2_init.2.2.1 58 = .ok (.sipush 600, 3) := by decide +kernel
theorem dX2_init_61 : decode M_X2_init.2.2.1 61 = .ok (.putfield 37, 3) := by decide +kernel
theorem dX2_init_64 : decode M_X2_init.2.2.1 64 = .ok (.aload_n 0, 1) := by decide +kernel
theorem dX2_init_65 : decode M_X2_init.2.2.1 65 = .ok (.sipush 600, 3) := by decide +kernel
theorem dX2_init_68 : decode M_X2_init.2.2.1 68 = .ok (.putfield 40, 3) := by decide +kernel
theorem dX2_init_71 : decode M_X2_init.2.2.1 71 = .ok (.return_, 1) := by decide +kernel
theorem dX2_step_0 : decode M_X2_step.2.2.1 0 = .ok (.aload_n 0, 1) := by decide +kernel
theorem dX2_step_1 : decode M_X2_step.2.2.1 1 = .ok (.getfield 18, 3) := by decide +kernel
theorem dX2_step_4 : decode M_X2_step.2.2.1 4 = .ok (.aload_n 0, 1) := by decide +kernel
theorem dX2_step_5 : decode M_X2_step.2.2.1 5 = .ok (.getfield 43, 3) := by decide +kernel
theorem dX2_step_8 : decode M_X2_step.2.2.1 8 = .ok (.imul, 1) := by decide +kernel
theorem dX2_step_9 : decode M_X2_step.2.2.1 9 = .ok (.aload_n 0, 1) := by decide +kernel
theorem dX2_step_10 : decode M_X2_step.2.2.1 10 = .ok (.getfield 21, 3) := by decide +kernel
theorem dX2_step_13 : decode M_X2_step.2.2.1 13 = .ok (.aload_n 0, 1) := by decide +kernel
theorem dX2_step_14 : decode M_X2_step.2.2.1 14 = .ok (.getfield 46, 3) := by decide +kernel
theorem dX2_step_17 : decode M_X2_step.2.2.1 17 = .ok (.imul, 1) := by decide +kernel
theorem dX2_step_18 : decode M_X2_step.2.2.1 18 = .ok (.iadd, 1) := by decide +kernel
theorem dX2_step_19 : decode M_X2_step.2.2.1 19 = .ok (.bipush 64, 2) := by decide +kernel
theorem dX2_step_21 : decode M_X2_step.2.2.1 21 = .ok (.idiv, 1) := by decide +kernel
theorem dX2_step_22 : decode M_X2_step.2.2.1 22 = .ok (.istore_n 2, 1) := by decide +kernel
theorem dX2_step_23 : decode M_X2_step.2.2.1 23 = .ok (.aload_n 0, 1) := by decide +kernel
theorem dX2_step_24 : decode M_X2_step.2.2.1 24 = .ok (.aload_n 0, 1) := by decide +kernel
theorem dX2_step_25 : decode M_X2_step.2.2.1 25 = .ok (.getfield 43, 3) := by decide +kernel
theorem dX2_step_28 : decode M_X2_step.2.2.1 28 = .ok (.iload_n 1, 1) := by decide +kernel
theorem dX2_step_29 : decode M_X2_step.2.2.1 29 = .ok (.iadd, 1) := by decide +kernel
theorem dX2_step_30 : decode M_X2_step.2.2.1 30 = .ok (.iload_n 2, 1) := by decide +kernel
theorem dX2_step_31 : decode M_X2_step.2.2.1 31 = .ok (.isub, 1) := by decide +kernel
theorem dX2_step_32 : decode M_X2_step.2.2.1 32 = .ok (.putfield 43, 3) := by decide +kernel
theorem dX2_step_35 : decode M_X2_step.2.2.1 35 = .ok (.aload_n 0, 1) := by decide +kernel
theorem dX2_step_36 : decode M_X2_step.2.2.1 36 = .ok (.aload_n 0, 1) := by decide +kernel
theorem dX2_step_37 : decode M_X2_step.2.2.1 37 = .ok (.getfield 46, 3) := by decide +kernel
theorem dX2_step_40 : decode M_X2_step.2.2.1 40 = .ok (.aload_n 0, 1) := by decide +kernel
theorem dX2_step_41 : decode M_X2_step.2.2.1 41 = .ok (.getfield 43, 3) := by decide +kernel
theorem dX2_step_44 : decode M_X2_step.2.2.1 44 = .ok (.iadd, 1) := by decide +kernel
theorem dX2_step_45 : decode M_X2_step.2.2.1 45 = .ok (.putfield 46, 3) := by decide +kernel
theorem dX2_step_48 : decode M_X2_step.2.2.1 48 = .ok (.aload_n 0, 1) := by decide +kernel
theorem dX2_step_49 : decode M_X2_step.2.2.1 49 = .ok (.getfield 24, 3) := by decide +kernel
theorem dX2_step_52 : decode M_X2_step.2.2.1 52 = .ok (.ineg, 1) := by decide +kernel
theorem dX2_step_53 : decode M_X2_step.2.2.1 53 = .ok (.aload_n 0, 1) := by decide +kernel
theorem dX2_step_54 : decode M_X2_step.2.2.1 54 = .ok (.getfield 24, 3) := by decide +kernel
theorem dX2_step_57 : decode M_X2_step.2.2.1 57 = .ok (.aload_n 0, 1) := by decide +kernel
theorem dX2_step_58 : decode M_X2_step.2.2.1 58 = .ok (.getfield 46, 3) := by decide +kernel
theorem dX2_step_61 : decode M_X2_step.2.2.1 61 = .ok (.invokestatic 49, 3) := by decide +kernel
theorem dX2_step_64 : decode M_X2_step.2.2.1 64 = .ok (.invokestatic 55, 3) := by decide +kernel
theorem dX2_step_67 : decode M_X2_step.2.2.1 67 = .ok (.ireturn, 1) := by decide +kernel
theorem dX2_tell_0 : decode M_X2_tell.2.2.1 0 = .ok (.iload_n 1, 1) := by decide +kernel
theorem dX2_tell_1 : decode M_X2_tell.2.2.1 1 = .ok (.ifCond .lt 20, 3) := by decide +kernel
theorem dX2_tell_4 : decode M_X2_tell.2.2.1 4 = .ok (.iload_n 1, 1) := by decide +kernel
theorem dX2_tell_5 : decode M_X2_tell.2.2.1 5 = .ok (.aload_n 0, 1) := by decide +kernel
theorem dX2_tell_6 : decode M_X2_tell.2.2.1 6 = .ok (.getfield 58, 3) := by decide +kernel
theorem dX2_tell_9 : decode M_X2_tell.2.2.1 9 = .ok (.if_icmp .gt 12, 3) := by decide +kernel
theorem dX2_tell_12 : decode M_X2_tell.2.2.1 12 = .ok (.iload_n 1, 1) := by decide +kernel
theorem dX2_tell_13 : decode M_X2_tell.2.2.1 13 = .ok (.aload_n 0, 1) := by decide +kernel
theorem dX2_tell_14 : decode M_X2_tell.2.2.1 14 = .ok (.getfield 27, 3) := by decide +kernel
theorem dX2_tell_17 : decode M_X2_tell.2.2.1 17 = .ok (.arraylength, 1) := by decide +kernel
theorem dX2_tell_18 : decode M_X2_tell.2.2.1 18 = .ok (.if_icmp .lt 5, 3) := by decide +kernel
theorem dX2_tell_21 : decode M_X2_tell.2.2.1 21 = .ok (.iconst 0, 1) := by decide +kernel
theorem dX2_tell_22 : decode M_X2_tell.2.2.1 22 = .ok (.ireturn, 1) := by decide +kernel
theorem dX2_tell_23 : decode M_X2_tell.2.2.1 23 = .ok (.aload_n 0, 1) := by decide +kernel
theorem dX2_tell_24 : decode M_X2_tell.2.2.1 24 = .ok (.getfield 27, 3) := by decide +kernel
theorem dX2_tell_27 : decode M_X2_tell.2.2.1 27 = .ok (.iload_n 1, 1) := by decide +kernel
theorem dX2_tell_28 : decode M_X2_tell.2.2.1 28 = .ok (.iload_n 2, 1) := by decide +kernel
theorem dX2_tell_29 : decode M_X2_tell.2.2.1 29 = .ok (.iastore, 1) := by decide +kernel
theorem dX2_tell_30 : decode M_X2_tell.2.2.1 30 = .ok (.aload_n 0, 1) := by decide +kernel
theorem dX2_tell_31 : decode M_X2_tell.2.2.1 31 = .ok (.aload_n 0, 1) := by decide +kernel
theorem dX2_tell_32 : decode M_X2_tell.2.2.1 32 = .ok (.getfield 58, 3) := by decide +kernel
theorem dX2_tell_35 : decode M_X2_tell.2.2.1 35 = .ok (.iload_n 1, 1) := by decide +kernel
theorem dX2_tell_36 : decode M_X2_tell.2.2.1 36 = .ok (.iconst 1, 1) := by decide +kernel
theorem dX2_tell_37 : decode M_X2_tell.2.2.1 37 = .ok (.iadd, 1) := by decide +kernel
theorem dX2_tell_38 : decode M_X2_tell.2.2.1 38 = .ok (.invokestatic 55, 3) := by decide +kernel
theorem dX2_tell_41 : decode M_X2_tell.2.2.1 41 = .ok (.putfield 58, 3) := by decide +kernel
theorem dX2_tell_44 : decode M_X2_tell.2.2.1 44 = .ok (.iconst 1, 1) := by decide +kernel
theorem dX2_tell_45 : decode M_X2_tell.2.2.1 45 = .ok (.ireturn, 1) := by decide +kernel
theorem dX2_newPaper_0 : decode M_X2_newPaper.2.2.1 0 = .ok (.aload_n 0, 1) := by decide +kernel
theorem dX2_newPaper_1 : decode M_X2_newPaper.2.2.1 1 = .ok (.getfield 58, 3) := by decide +kernel
theorem dX2_newPaper_4 : decode M_X2_newPaper.2.2.1 4 = .ok (.istore_n 1, 1) := by decide +kernel
theorem dX2_newPaper_5 : decode M_X2_newPaper.2.2.1 5 = .ok (.aload_n 0, 1) := by decide +kernel
theorem dX2_newPaper_6 : decode M_X2_newPaper.2.2.1 6 = .ok (.iconst 0, 1) := by decide +kernel
theorem dX2_newPaper_7 : decode M_X2_newPaper.2.2.1 7 = .ok (.putfield 58, 3) := by decide +kernel
theorem dX2_newPaper_10 : decode M_X2_newPaper.2.2.1 10 = .ok (.aload_n 0, 1) := by decide +kernel
theorem dX2_newPaper_11 : decode M_X2_newPaper.2.2.1 11 = .ok (.iconst 0, 1) := by decide +kernel
theorem dX2_newPaper_12 : decode M_X2_newPaper.2.2.1 12 = .ok (.putfield 61, 3) := by decide +kernel
theorem dX2_newPaper_15 : decode M_X2_newPaper.2.2.1 15 = .ok (.iload_n 1, 1) := by decide +kernel
theorem dX2_newPaper_16 : decode M_X2_newPaper.2.2.1 16 = .ok (.ireturn, 1) := by decide +kernel
theorem dX2_hasSample_0 : decode M_X2_hasSample.2.2.1 0 = .ok (.iload_n 1, 1) := by decide +kernel
theorem dX2_hasSample_1 : decode M_X2_hasSample.2.2.1 1 = .ok (.ifCond .lt 15, 3) := by decide +kernel
theorem dX2_hasSample_4 : decode M_X2_hasSample.2.2.1 4 = .ok (.iload_n 1, 1) := by decide +kernel
theorem dX2_hasSample_5 : decode M_X2_hasSample.2.2.1 5 = .ok (.aload_n 0, 1) := by decide +kernel
theorem dX2_hasSample_6 : decode M_X2_hasSample.2.2.1 6 = .ok (.getfield 58, 3) := by decide +kernel
theorem dX2_hasSample_9 : decode M_X2_hasSample.2.2.1 9 = .ok (.if_icmp .ge 7, 3) := by decide +kernel
theorem dX2_hasSample_12 : decode M_X2_hasSample.2.2.1 12 = .ok (.iconst 1, 1) := by decide +kernel
theorem dX2_hasSample_13 : decode M_X2_hasSample.2.2.1 13 = .ok (.goto 4, 3) := by decide +kernel
theorem dX2_hasSample_16 : decode M_X2_hasSample.2.2.1 16 = .ok (.iconst 0, 1) := by decide +kernel
theorem dX2_hasSample_17 : decode M_X2_hasSample.2.2.1 17 = .ok (.ireturn, 1) := by decide +kernel
theorem dX2_isMissing_0 : decode M_X2_isMissing.2.2.1 0 = .ok (.aload_n 0, 1) := by decide +kernel
theorem dX2_isMissing_1 : decode M_X2_isMissing.2.2.1 1 = .ok (.iload_n 1, 1) := by decide +kernel
theorem dX2_isMissing_2 : decode M_X2_isMissing.2.2.1 2 = .ok (.invokevirtual 64, 3) := by decide +kernel
theorem dX2_isMissing_5 : decode M_X2_isMissing.2.2.1 5 = .ok (.ldc 68, 2) := by decide +kernel
theorem dX2_isMissing_7 : decode M_X2_isMissing.2.2.1 7 = .ok (.if_icmp .ne 7, 3) := by decide +kernel
theorem dX2_isMissing_10 : decode M_X2_isMissing.2.2.1 10 = .ok (.iconst 1, 1) := by decide +kernel
theorem dX2_isMissing_11 : decode M_X2_isMissing.2.2.1 11 = .ok (.goto 4, 3) := by decide +kernel
theorem dX2_isMissing_14 : decode M_X2_isMissing.2.2.1 14 = .ok (.iconst 0, 1) := by decide +kernel
theorem dX2_isMissing_15 : decode M_X2_isMissing.2.2.1 15 = .ok (.ireturn, 1) := by decide +kernel
theorem dX2_isClipped_0 : decode M_X2_isClipped.2.2.1 0 = .ok (.aload_n 0, 1) := by decide +kernel
theorem dX2_isClipped_1 : decode M_X2_isClipped.2.2.1 1 = .ok (.iload_n 1, 1) := by decide +kernel
theorem dX2_isClipped_2 : decode M_X2_isClipped.2.2.1 2 = .ok (.invokevirtual 64, 3) := by decide +kernel
theorem dX2_isClipped_5 : decode M_X2_isClipped.2.2.1 5 = .ok (.istore_n 2, 1) := by decide +kernel
theorem dX2_isClipped_6 : decode M_X2_isClipped.2.2.1 6 = .ok (.iload_n 2, 1) := by decide +kernel
theorem dX2_isClipped_7 : decode M_X2_isClipped.2.2.1 7 = .ok (.ldc 68, 2) := by decide +kernel
theorem dX2_isClipped_9 : decode M_X2_isClipped.2.2.1 9 = .ok (.if_icmp .eq 18, 3) := by decide +kernel
theorem dX2_isClipped_12 : decode M_X2_isClipped.2.2.1 12 = .ok (.iload_n 2, 1) := by decide +kernel
theorem dX2_isClipped_13 : decode M_X2_isClipped.2.2.1 13 = .ok (.invokestatic 69, 3) := by decide +kernel
theorem dX2_isClipped_16 : decode M_X2_isClipped.2.2.1 16 = .ok (.aload_n 0, 1) := by decide +kernel
theorem dX2_isClipped_17 : decode M_X2_isClipped.2.2.1 17 = .ok (.getfield 24, 3) := by decide +kernel
theorem dX2_isClipped_20 : decode M_X2_isClipped.2.2.1 20 = .ok (.if_icmp .lt 7, 3) := by decide +kernel
theorem dX2_isClipped_23 : decode M_X2_isClipped.2.2.1 23 = .ok (.iconst 1, 1) := by decide +kernel
theorem dX2_isClipped_24 : decode M_X2_isClipped.2.2.1 24 = .ok (.goto 4, 3) := by decide +kernel
theorem dX2_isClipped_27 : decode M_X2_isClipped.2.2.1 27 = .ok (.iconst 0, 1) := by decide +kernel
theorem dX2_isClipped_28 : decode M_X2_isClipped.2.2.1 28 = .ok (.ireturn, 1) := by decide +kernel
theorem dX2_clippedCount_0 : decode M_X2_clippedCount.2.2.1 0 = .ok (.iconst 0, 1) := by decide +kernel
theorem dX2_clippedCount_1 : decode M_X2_clippedCount.2.2.1 1 = .ok (.istore_n 1, 1) := by decide +kernel
theorem dX2_clippedCount_2 : decode M_X2_clippedCount.2.2.1 2 = .ok (.iconst 0, 1) := by decide +kernel
theorem dX2_clippedCount_3 : decode M_X2_clippedCount.2.2.1 3 = .ok (.istore_n 2, 1) := by decide +kernel
theorem dX2_clippedCount_4 : decode M_X2_clippedCount.2.2.1 4 = .ok (.iload_n 2, 1) := by decide +kernel
theorem dX2_clippedCount_5 : decode M_X2_clippedCount.2.2.1 5 = .ok (.aload_n 0, 1) := by decide +kernel
theorem dX2_clippedCount_6 : decode M_X2_clippedCount.2.2.1 6 = .ok (.getfield 58, 3) := by decide +kernel
theorem dX2_clippedCount_9 : decode M_X2_clippedCount.2.2.1 9 = .ok (.if_icmp .ge 20, 3) := by decide +kernel
theorem dX2_clippedCount_12 : decode M_X2_clippedCount.2.2.1 12 = .ok (.aload_n 0, 1) := by decide +kernel
theorem dX2_clippedCount_13 : decode M_X2_clippedCount.2.2.1 13 = .ok (.iload_n 2, 1) := by decide +kernel
theorem dX2_clippedCount_14 : decode M_X2_clippedCount.2.2.1 14 = .ok (.invokevirtual 72, 3) := by decide +kernel
theorem dX2_clippedCount_17 : decode M_X2_clippedCount.2.2.1 17 = .ok (.ifCond .eq 6, 3) := by decide +kernel
theorem dX2_clippedCount_20 : decode M_X2_clippedCount.2.2.1 20 = .ok (.iinc 1 1, 3) := by decide +kernel
theorem dX2_clippedCount_23 : decode M_X2_clippedCount.2.2.1 23 = .ok (.iinc 2 1, 3) := by decide +kernel
theorem dX2_clippedCount_26 : decode M_X2_clippedCount.2.2.1 26 = .ok (.goto (-22), 3) := by decide +kernel
theorem dX2_clippedCount_29 : decode M_X2_clippedCount.2.2.1 29 = .ok (.iload_n 1, 1) := by decide +kernel
theorem dX2_clippedCount_30 : decode M_X2_clippedCount.2.2.1 30 = .ok (.ireturn, 1) := by decide +kernel
theorem dX2_missingCount_0 : decode M_X2_missingCount.2.2.1 0 = .ok (.iconst 0, 1) := by decide +kernel
theorem dX2_missingCount_1 : decode M_X2_missingCount.2.2.1 1 = .ok (.istore_n 1, 1) := by decide +kernel
theorem dX2_missingCount_2 : decode M_X2_missingCount.2.2.1 2 = .ok (.iconst 0, 1) := by decide +kernel
theorem dX2_missingCount_3 : decode M_X2_missingCount.2.2.1 3 = .ok (.istore_n 2, 1) := by decide +kernel
theorem dX2_missingCount_4 : decode M_X2_missingCount.2.2.1 4 = .ok (.iload_n 2, 1) := by decide +kernel
theorem dX2_missingCount_5 : decode M_X2_missingCount.2.2.1 5 = .ok (.aload_n 0, 1) := by decide +kernel
theorem dX2_missingCount_6 : decode M_X2_missingCount.2.2.1 6 = .ok (.getfield 58, 3) := by decide +kernel
theorem dX2_missingCount_9 : decode M_X2_missingCount.2.2.1 9 = .ok (.if_icmp .ge 20, 3) := by decide +kernel
theorem dX2_missingCount_12 : decode M_X2_missingCount.2.2.1 12 = .ok (.aload_n 0, 1) := by decide +kernel
theorem dX2_missingCount_13 : decode M_X2_missingCount.2.2.1 13 = .ok (.iload_n 2, 1) := by decide +kernel
theorem dX2_missingCount_14 : decode M_X2_missingCount.2.2.1 14 = .ok (.invokevirtual 76, 3) := by decide +kernel
theorem dX2_missingCount_17 : decode M_X2_missingCount.2.2.1 17 = .ok (.ifCond .eq 6, 3) := by decide +kernel
theorem dX2_missingCount_20 : decode M_X2_missingCount.2.2.1 20 = .ok (.iinc 1 1, 3) := by decide +kernel
theorem dX2_missingCount_23 : decode M_X2_missingCount.2.2.1 23 = .ok (.iinc 2 1, 3) := by decide +kernel
theorem dX2_missingCount_26 : decode M_X2_missingCount.2.2.1 26 = .ok (.goto (-22), 3) := by decide +kernel
theorem dX2_missingCount_29 : decode M_X2_missingCount.2.2.1 29 = .ok (.iload_n 1, 1) := by decide +kernel
theorem dX2_missingCount_30 : decode M_X2_missingCount.2.2.1 30 = .ok (.ireturn, 1) := by decide +kernel
theorem dX2_isWhole_0 : decode M_X2_isWhole.2.2.1 0 = .ok (.iload_n 1, 1) := by decide +kernel
theorem dX2_isWhole_1 : decode M_X2_isWhole.2.2.1 1 = .ok (.iload_n 2, 1) := by decide +kernel
theorem dX2_isWhole_2 : decode M_X2_isWhole.2.2.1 2 = .ok (.if_icmp .gt 19, 3) := by decide +kernel
theorem dX2_isWhole_5 : decode M_X2_isWhole.2.2.1 5 = .ok (.aload_n 0, 1) := by decide +kernel
theorem dX2_isWhole_6 : decode M_X2_isWhole.2.2.1 6 = .ok (.iload_n 1, 1) := by decide +kernel
theorem dX2_isWhole_7 : decode M_X2_isWhole.2.2.1 7 = .ok (.invokevirtual 79, 3) := by decide +kernel
theorem dX2_isWhole_10 : decode M_X2_isWhole.2.2.1 10 = .ok (.ifCond .eq 11, 3) := by decide +kernel
theorem dX2_isWhole_13 : decode M_X2_isWhole.2.2.1 13 = .ok (.aload_n 0, 1) := by decide +kernel
theorem dX2_isWhole_14 : decode M_X2_isWhole.2.2.1 14 = .ok (.iload_n 2, 1) := by decide +kernel
theorem dX2_isWhole_15 : decode M_X2_isWhole.2.2.1 15 = .ok (.invokevirtual 79, 3) := by decide +kernel
theorem dX2_isWhole_18 : decode M_X2_isWhole.2.2.1 18 = .ok (.ifCond .ne 5, 3) := by decide +kernel
theorem dX2_isWhole_21 : decode M_X2_isWhole.2.2.1 21 = .ok (.iconst 0, 1) := by decide +kernel
theorem dX2_isWhole_22 : decode M_X2_isWhole.2.2.1 22 = .ok (.ireturn, 1) := by decide +kernel
theorem dX2_isWhole_23 : decode M_X2_isWhole.2.2.1 23 = .ok (.iload_n 1, 1) := by decide +kernel
theorem dX2_isWhole_24 : decode M_X2_isWhole.2.2.1 24 = .ok (.istore_n 3, 1) := by decide +kernel
theorem dX2_isWhole_25 : decode M_X2_isWhole.2.2.1 25 = .ok (.iload_n 3, 1) := by decide +kernel
theorem dX2_isWhole_26 : decode M_X2_isWhole.2.2.1 26 = .ok (.iload_n 2, 1) := by decide +kernel
theorem dX2_isWhole_27 : decode M_X2_isWhole.2.2.1 27 = .ok (.if_icmp .gt 19, 3) := by decide +kernel
theorem dX2_isWhole_30 : decode M_X2_isWhole.2.2.1 30 = .ok (.aload_n 0, 1) := by decide +kernel
theorem dX2_isWhole_31 : decode M_X2_isWhole.2.2.1 31 = .ok (.iload_n 3, 1) := by decide +kernel
theorem dX2_isWhole_32 : decode M_X2_isWhole.2.2.1 32 = .ok (.invokevirtual 76, 3) := by decide +kernel
theorem dX2_isWhole_35 : decode M_X2_isWhole.2.2.1 35 = .ok (.ifCond .eq 5, 3) := by decide +kernel
theorem dX2_isWhole_38 : decode M_X2_isWhole.2.2.1 38 = .ok (.iconst 0, 1) := by decide +kernel
theorem dX2_isWhole_39 : decode M_X2_isWhole.2.2.1 39 = .ok (.ireturn, 1) := by decide +kernel
theorem dX2_isWhole_40 : decode M_X2_isWhole.2.2.1 40 = .ok (.iinc 3 1, 3) := by decide +kernel
theorem dX2_isWhole_43 : decode M_X2_isWhole.2.2.1 43 = .ok (.goto (-18), 3) := by decide +kernel
theorem dX2_isWhole_46 : decode M_X2_isWhole.2.2.1 46 = .ok (.iconst 1, 1) := by decide +kernel
theorem dX2_isWhole_47 : decode M_X2_isWhole.2.2.1 47 = .ok (.ireturn, 1) := by decide +kernel
theorem dX2_isReadable_0 : decode M_X2_isReadable.2.2.1 0 = .ok (.aload_n 0, 1) := by decide +kernel
theorem dX2_isReadable_1 : decode M_X2_isReadable.2.2.1 1 = .ok (.iload_n 1, 1) := by decide +kernel
theorem dX2_isReadable_2 : decode M_X2_isReadable.2.2.1 2 = .ok (.iload_n 2, 1) := by decide +kernel
theorem dX2_isReadable_3 : decode M_X2_isReadable.2.2.1 3 = .ok (.invokevirtual 82, 3) := by decide +kernel
theorem dX2_isReadable_6 : decode M_X2_isReadable.2.2.1 6 = .ok (.ifCond .ne 5, 3) := by decide +kernel
theorem dX2_isReadable_9 : decode M_X2_isReadable.2.2.1 9 = .ok (.iconst 0, 1) := by decide +kernel
theorem dX2_isReadable_10 : decode M_X2_isReadable.2.2.1 10 = .ok (.ireturn, 1) := by decide +kernel
theorem dX2_isReadable_11 : decode M_X2_isReadable.2.2.1 11 = .ok (.iload_n 1, 1) := by decide +kernel
theorem dX2_isReadable_12 : decode M_X2_isReadable.2.2.1 12 = .ok (.istore_n 3, 1) := by decide +kernel
theorem dX2_isReadable_13 : decode M_X2_isReadable.2.2.1 13 = .ok (.iload_n 3, 1) := by decide +kernel
theorem dX2_isReadable_14 : decode M_X2_isReadable.2.2.1 14 = .ok (.iload_n 2, 1) := by decide +kernel
theorem dX2_isReadable_15 : decode M_X2_isReadable.2.2.1 15 = .ok (.if_icmp .gt 19, 3) := by decide +kernel
theorem dX2_isReadable_18 : decode M_X2_isReadable.2.2.1 18 = .ok (.aload_n 0, 1) := by decide +kernel
theorem dX2_isReadable_19 : decode M_X2_isReadable.2.2.1 19 = .ok (.iload_n 3, 1) := by decide +kernel
theorem dX2_isReadable_20 : decode M_X2_isReadable.2.2.1 20 = .ok (.invokevirtual 72, 3) := by decide +kernel
theorem dX2_isReadable_23 : decode M_X2_isReadable.2.2.1 23 = .ok (.ifCond .eq 5, 3) := by decide +kernel
theorem dX2_isReadable_26 : decode M_X2_isReadable.2.2.1 26 = .ok (.iconst 0, 1) := by decide +kernel
theorem dX2_isReadable_27 : decode M_X2_isReadable.2.2.1 27 = .ok (.ireturn, 1) := by decide +kernel
theorem dX2_isReadable_28 : decode M_X2_isReadable.2.2.1 28 = .ok (.iinc 3 1, 3) := by decide +kernel
theorem dX2_isReadable_31 : decode M_X2_isReadable.2.2.1 31 = .ok (.goto (-18), 3) := by decide +kernel
theorem dX2_isReadable_34 : decode M_X2_isReadable.2.2.1 34 = .ok (.iconst 1, 1) := by decide +kernel
theorem dX2_isReadable_35 : decode M_X2_isReadable.2.2.1 35 = .ok (.ireturn, 1) := by decide +kernel
theorem dX2_sampleAt_0 : decode M_X2_sampleAt.2.2.1 0 = .ok (.iload_n 1, 1) := by decide +kernel
theorem dX2_sampleAt_1 : decode M_X2_sampleAt.2.2.1 1 = .ok (.ifCond .lt 20, 3) := by decide +kernel
theorem dX2_sampleAt_4 : decode M_X2_sampleAt.2.2.1 4 = .ok (.iload_n 1, 1) := by decide +kernel
theorem dX2_sampleAt_5 : decode M_X2_sampleAt.2.2.1 5 = .ok (.aload_n 0, 1) := by decide +kernel
theorem dX2_sampleAt_6 : decode M_X2_sampleAt.2.2.1 6 = .ok (.getfield 58, 3) := by decide +kernel
theorem dX2_sampleAt_9 : decode M_X2_sampleAt.2.2.1 9 = .ok (.if_icmp .ge 12, 3) := by decide +kernel
theorem dX2_sampleAt_12 : decode M_X2_sampleAt.2.2.1 12 = .ok (.aload_n 0, 1) := by decide +kernel
theorem dX2_sampleAt_13 : decode M_X2_sampleAt.2.2.1 13 = .ok (.getfield 27, 3) := by decide +kernel
theorem dX2_sampleAt_16 : decode M_X2_sampleAt.2.2.1 16 = .ok (.iload_n 1, 1) := by decide +kernel
theorem dX2_sampleAt_17 : decode M_X2_sampleAt.2.2.1 17 = .ok (.iaload, 1) := by decide +kernel
theorem dX2_sampleAt_18 : decode M_X2_sampleAt.2.2.1 18 = .ok (.goto 5, 3) := by decide +kernel
theorem dX2_sampleAt_21 : decode M_X2_sampleAt.2.2.1 21 = .ok (.ldc 68, 2) := by decide +kernel
theorem dX2_sampleAt_23 : decode M_X2_sampleAt.2.2.1 23 = .ok (.ireturn, 1) := by decide +kernel
theorem dX2_speedAt_0 : decode M_X2_speedAt.2.2.1 0 = .ok (.aload_n 0, 1) := by decide +kernel
theorem dX2_speedAt_1 : decode M_X2_speedAt.2.2.1 1 = .ok (.iload_n 1, 1) := by decide +kernel
theorem dX2_speedAt_2 : decode M_X2_speedAt.2.2.1 2 = .ok (.invokevirtual 64, 3) := by decide +kernel
theorem dX2_speedAt_5 : decode M_X2_speedAt.2.2.1 5 = .ok (.aload_n 0, 1) := by decide +kernel
theorem dX2_speedAt_6 : decode M_X2_speedAt.2.2.1 6 = .ok (.iload_n 1, 1) := by decide +kernel
theorem dX2_speedAt_7 : decode M_X2_speedAt.2.2.1 7 = .ok (.iconst 1, 1) := by decide +kernel
theorem dX2_speedAt_8 : decode M_X2_speedAt.2.2.1 8 = .ok (.isub, 1) := by decide +kernel
theorem dX2_speedAt_9 : decode M_X2_speedAt.2.2.1 9 = .ok (.invokevirtual 64, 3) := by decide +kernel
theorem dX2_speedAt_12 : decode M_X2_speedAt.2.2.1 12 = .ok (.isub, 1) := by decide +kernel
theorem dX2_speedAt_13 : decode M_X2_speedAt.2.2.1 13 = .ok (.ireturn, 1) := by decide +kernel
theorem dX2_readBack_0 : decode M_X2_readBack.2.2.1 0 = .ok (.aload_n 0, 1) := by decide +kernel
theorem dX2_readBack_1 : decode M_X2_readBack.2.2.1 1 = .ok (.getfield 18, 3) := by decide +kernel
theorem dX2_readBack_4 : decode M_X2_readBack.2.2.1 4 = .ok (.aload_n 0, 1) := by decide +kernel
theorem dX2_readBack_5 : decode M_X2_readBack.2.2.1 5 = .ok (.iload_n 1, 1) := by decide +kernel
theorem dX2_readBack_6 : decode M_X2_readBack.2.2.1 6 = .ok (.iconst 1, 1) := by decide +kernel
theorem dX2_readBack_7 : decode M_X2_readBack.2.2.1 7 = .ok (.isub, 1) := by decide +kernel
theorem dX2_readBack_8 : decode M_X2_readBack.2.2.1 8 = .ok (.invokevirtual 86, 3) := by decide +kernel
theorem dX2_readBack_11 : decode M_X2_readBack.2.2.1 11 = .ok (.imul, 1) := by decide +kernel
theorem dX2_readBack_12 : decode M_X2_readBack.2.2.1 12 = .ok (.aload_n 0, 1) := by decide +kernel
theorem dX2_readBack_13 : decode M_X2_readBack.2.2.1 13 = .ok (.getfield 21, 3) := by decide +kernel
theorem dX2_readBack_16 : decode M_X2_readBack.2.2.1 16 = .ok (.aload_n 0, 1) := by decide +kernel
theorem dX2_readBack_17 : decode M_X2_readBack.2.2.1 17 = .ok (.iload_n 1, 1) := by decide +kernel
theorem dX2_readBack_18 : decode M_X2_readBack.2.2.1 18 = .ok (.iconst 1, 1) := by decide +kernel
theorem dX2_readBack_19 : decode M_X2_readBack.2.2.1 19 = .ok (.isub, 1) := by decide +kernel
theorem dX2_readBack_20 : decode M_X2_readBack.2.2.1 20 = .ok (.invokevirtual 64, 3) := by decide +kernel
theorem dX2_readBack_23 : decode M_X2_readBack.2.2.1 23 = .ok (.imul, 1) := by decide +kernel
theorem dX2_readBack_24 : decode M_X2_readBack.2.2.1 24 = .ok (.iadd, 1) := by decide +kernel
theorem dX2_readBack_25 : decode M_X2_readBack.2.2.1 25 = .ok (.bipush 64, 2) := by decide +kernel
theorem dX2_readBack_27 : decode M_X2_readBack.2.2.1 27 = .ok (.idiv, 1) := by decide +kernel
theorem dX2_readBack_28 : decode M_X2_readBack.2.2.1 28 = .ok (.istore_n 2, 1) := by decide +kernel
theorem dX2_readBack_29 : decode M_X2_readBack.2.2.1 29 = .ok (.aload_n 0, 1) := by decide +kernel
theorem dX2_readBack_30 : decode M_X2_readBack.2.2.1 30 = .ok (.iload_n 1, 1) := by decide +kernel
theorem dX2_readBack_31 : decode M_X2_readBack.2.2.1 31 = .ok (.invokevirtual 86, 3) := by decide +kernel
theorem dX2_readBack_34 : decode M_X2_readBack.2.2.1 34 = .ok (.aload_n 0, 1) := by decide +kernel
theorem dX2_readBack_35 : decode M_X2_readBack.2.2.1 35 = .ok (.iload_n 1, 1) := by decide +kernel
theorem dX2_readBack_36 : decode M_X2_readBack.2.2.1 36 = .ok (.iconst 1, 1) := by decide +kernel
theorem dX2_readBack_37 : decode M_X2_readBack.2.2.1 37 = .ok (.isub, 1) := by decide +kernel
theorem dX2_readBack_38 : decode M_X2_readBack.2.2.1 38 = .ok (.invokevirtual 86, 3) := by decide +kernel
theorem dX2_readBack_41 : decode M_X2_readBack.2.2.1 41 = .ok (.isub, 1) := by decide +kernel
theorem dX2_readBack_42 : decode M_X2_readBack.2.2.1 42 = .ok (.iload_n 2, 1) := by decide +kernel
theorem dX2_readBack_43 : decode M_X2_readBack.2.2.1 43 = .ok (.iadd, 1) := by decide +kernel
theorem dX2_readBack_44 : decode M_X2_readBack.2.2.1 44 = .ok (.ireturn, 1) := by decide +kernel
theorem dX2_press_0 : decode M_X2_press.2.2.1 0 = .ok (.aload_n 0, 1) := by decide +kernel
theorem dX2_press_1 : decode M_X2_press.2.2.1 1 = .ok (.iload_n 1, 1) := by decide +kernel
theorem dX2_press_2 : decode M_X2_press.2.2.1 2 = .ok (.invokevirtual 79, 3) := by decide +kernel
theorem dX2_press_5 : decode M_X2_press.2.2.1 5 = .ok (.ifCond .eq 12, 3) := by decide +kernel
theorem dX2_press_8 : decode M_X2_press.2.2.1 8 = .ok (.aload_n 0, 1) := by decide +kernel
theorem dX2_press_9 : decode M_X2_press.2.2.1 9 = .ok (.getfield 61, 3) := by decide +kernel
theorem dX2_press_12 : decode M_X2_press.2.2.1 12 = .ok (.bipush 40, 2) := by decide +kernel
theorem dX2_press_14 : decode M_X2_press.2.2.1 14 = .ok (.if_icmp .lt 5, 3) := by decide +kernel
theorem dX2_press_17 : decode M_X2_press.2.2.1 17 = .ok (.iconst 0, 1) := by decide +kernel
theorem dX2_press_18 : decode M_X2_press.2.2.1 18 = .ok (.ireturn, 1) := by decide +kernel
theorem dX2_press_19 : decode M_X2_press.2.2.1 19 = .ok (.aload_n 0, 1) := by decide +kernel
theorem dX2_press_20 : decode M_X2_press.2.2.1 20 = .ok (.getfield 61, 3) := by decide +kernel
theorem dX2_press_23 : decode M_X2_press.2.2.1 23 = .ok (.iconst 1, 1) := by decide +kernel
theorem dX2_press_24 : decode M_X2_press.2.2.1 24 = .ok (.isub, 1) := by decide +kernel
theorem dX2_press_25 : decode M_X2_press.2.2.1 25 = .ok (.istore_n 3, 1) := by decide +kernel
theorem dX2_press_26 : decode M_X2_press.2.2.1 26 = .ok (.iload_n 3, 1) := by decide +kernel
theorem dX2_press_27 : decode M_X2_press.2.2.1 27 = .ok (.ifCond .lt 25, 3) := by decide +kernel
theorem dX2_press_30 : decode M_X2_press.2.2.1 30 = .ok (.iload_n 1, 1) := by decide +kernel
theorem dX2_press_31 : decode M_X2_press.2.2.1 31 = .ok (.aload_n 0, 1) := by decide +kernel
theorem dX2_press_32 : decode M_X2_press.2.2.1 32 = .ok (.getfield 31, 3) := by decide +kernel
theorem dX2_press_35 : decode M_X2_press.2.2.1 35 = .ok (.iload_n 3, 1) := by decide +kernel
theorem dX2_press_36 : decode M_X2_press.2.2.1 36 = .ok (.iaload, 1) := by decide +kernel
theorem dX2_press_37 : decode M_X2_press.2.2.1 37 = .ok (.if_icmp .le 13, 3) := by decide +kernel
theorem dX2_press_40 : decode M_X2_press.2.2.1 40 = .ok (.iload_n 2, 1) := by decide +kernel
theorem dX2_press_41 : decode M_X2_press.2.2.1 41 = .ok (.aload_n 0, 1) := by decide +kernel
theorem dX2_press_42 : decode M_X2_press.2.2.1 42 = .ok (.getfield 34, 3) := by decide +kernel
theorem dX2_press_45 : decode M_X2_press.2.2.1 45 = .ok (.iload_n 3, 1) := by decide +kernel
theorem dX2_press_46 : decode M_X2_press.2.2.1 46 = .ok (.iaload, 1) := by decide +kernel
theorem dX2_press_47 : decode M_X2_press.2.2.1 47 = .ok (.if_icmp .gt 5, 3) := by decide +kernel
theorem dX2_press_50 : decode M_X2_press.2.2.1 50 = .ok (.iconst 0, 1) := by decide +kernel
theorem dX2_press_51 : decode M_X2_press.2.2.1 51 = .ok (.ireturn, 1) := by decide +kernel
theorem dX2_press_52 : decode M_X2_press.2.2.1 52 = .ok (.aload_n 0, 1) := by decide +kernel
theorem dX2_press_53 : decode M_X2_press.2.2.1 53 = .ok (.getfield 31, 3) := by decide +kernel
theorem dX2_press_56 : decode M_X2_press.2.2.1 56 = .ok (.aload_n 0, 1) := by decide +kernel
theorem dX2_press_57 : decode M_X2_press.2.2.1 57 = .ok (.getfield 61, 3) := by decide +kernel
theorem dX2_press_60 : decode M_X2_press.2.2.1 60 = .ok (.iload_n 1, 1) := by decide +kernel
theorem dX2_press_61 : decode M_X2_press.2.2.1 61 = .ok (.iastore, 1) := by decide +kernel
theorem dX2_press_62 : decode M_X2_press.2.2.1 62 = .ok (.aload_n 0, 1) := by decide +kernel
theorem dX2_press_63 : decode M_X2_press.2.2.1 63 = .ok (.getfield 34, 3) := by decide +kernel
theorem dX2_press_66 : decode M_X2_press.2.2.1 66 = .ok (.aload_n 0, 1) := by decide +kernel
theorem dX2_press_67 : decode M_X2_press.2.2.1 67 = .ok (.getfield 61, 3) := by decide +kernel
theorem dX2_press_70 : decode M_X2_press.2.2.1 70 = .ok (.iload_n 2, 1) := by decide +kernel
theorem dX2_press_71 : decode M_X2_press.2.2.1 71 = .ok (.iastore, 1) := by decide +kernel
theorem dX2_press_72 : decode M_X2_press.2.2.1 72 = .ok (.aload_n 0, 1) := by decide +kernel
theorem dX2_press_73 : decode M_X2_press.2.2.1 73 = .ok (.dup, 1) := by decide +kernel
theorem dX2_press_74 : decode M_X2_press.2.2.1 74 = .ok (.getfield 61, 3) := by decide +kernel
theorem dX2_press_77 : decode M_X2_press.2.2.1 77 = .ok (.iconst 1, 1) := by decide +kernel
theorem dX2_press_78 : decode M_X2_press.2.2.1 78 = .ok (.iadd, 1) := by decide +kernel
theorem dX2_press_79 : decode M_X2_press.2.2.1 79 = .ok (.putfield 61, 3) := by decide +kernel
theorem dX2_press_82 : decode M_X2_press.2.2.1 82 = .ok (.iconst 1, 1) := by decide +kernel
theorem dX2_press_83 : decode M_X2_press.2.2.1 83 = .ok (.ireturn, 1) := by decide +kernel
theorem dX2_clockSeconds_0 : decode M_X2_clockSeconds.2.2.1 0 = .ok (.iconst 0, 1) := by decide +kernel
theorem dX2_clockSeconds_1 : decode M_X2_clockSeconds.2.2.1 1 = .ok (.istore_n 2, 1) := by decide +kernel
theorem dX2_clockSeconds_2 : decode M_X2_clockSeconds.2.2.1 2 = .ok (.iload_n 2, 1) := by decide +kernel
theorem dX2_clockSeconds_3 : decode M_X2_clockSeconds.2.2.1 3 = .ok (.iconst 1, 1) := by decide +kernel
theorem dX2_clockSeconds_4 : decode M_X2_clockSeconds.2.2.1 4 = .ok (.iadd, 1) := by decide +kernel
theorem dX2_clockSeconds_5 : decode M_X2_clockSeconds.2.2.1 5 = .ok (.aload_n 0, 1) := by decide +kernel
theorem dX2_clockSeconds_6 : decode M_X2_clockSeconds.2.2.1 6 = .ok (.getfield 61, 3) := by decide +kernel
theorem dX2_clockSeconds_9 : decode M_X2_clockSeconds.2.2.1 9 = .ok (.if_icmp .ge 97, 3) := by decide +kernel
theorem dX2_clockSeconds_12 : decode M_X2_clockSeconds.2.2.1 12 = .ok (.aload_n 0, 1) := by decide +kernel
theorem dX2_clockSeconds_13 : decode M_X2_clockSeconds.2.2.1 13 = .ok (.getfield 31, 3) := by decide +kernel
theorem dX2_clockSeconds_16 : decode M_X2_clockSeconds.2.2.1 16 = .ok (.iload_n 2, 1) := by decide +kernel
theorem dX2_clockSeconds_17 : decode M_X2_clockSeconds.2.2.1 17 = .ok (.iconst 1, 1) := by decide +kernel
theorem dX2_clockSeconds_18 : decode M_X2_clockSeconds.2.2.1 18 = .ok (.iadd, 1) := by decide +kernel
theorem dX2_clockSeconds_19 : decode M_X2_clockSeconds.2.2.1 19 = .ok (.iaload, 1) := by decide +kernel
theorem dX2_clockSeconds_20 : decode M_X2_clockSeconds.2.2.1 20 = .ok (.aload_n 0, 1) := by decide +kernel
theorem dX2_clockSeconds_21 : decode M_X2_clockSeconds.2.2.1 21 = .ok (.getfield 31, 3) := by decide +kernel
theorem dX2_clockSeconds_24 : decode M_X2_clockSeconds.2.2.1 24 = .ok (.iload_n 2, 1) := by decide +kernel
theorem dX2_clockSeconds_25 : decode M_X2_clockSeconds.2.2.1 25 = .ok (.iaload, 1) := by decide +kernel
theorem dX2_clockSeconds_26 : decode M_X2_clockSeconds.2.2.1 26 = .ok (.isub, 1) := by decide +kernel
theorem dX2_clockSeconds_27 : decode M_X2_clockSeconds.2.2.1 27 = .ok (.istore_n 3, 1) := by decide +kernel
theorem dX2_clockSeconds_28 : decode M_X2_clockSeconds.2.2.1 28 = .ok (.iload_n 3, 1) := by decide +kernel
theorem dX2_clockSeconds_29 : decode M_X2_clockSeconds.2.2.1 29 = .ok (.ifCond .le 71, 3) := by decide +kernel
theorem dX2_clockSeconds_32 : decode M_X2_clockSeconds.2.2.1 32 = .ok (.iload_n 1, 1) := by decide +kernel
theorem dX2_clockSeconds_33 : decode M_X2_clockSeconds.2.2.1 33 = .ok (.aload_n 0, 1) := by decide +kernel
theorem dX2_clockSeconds_34 : decode M_X2_clockSeconds.2.2.1 34 = .ok (.getfield 31, 3) := by decide +kernel
theorem dX2_clockSeconds_37 : decode M_X2_clockSeconds.2.2.1 37 = .ok (.iload_n 2, 1) := by decide +kernel
theorem dX2_clockSeconds_38 : decode M_X2_clockSeconds.2.2.1 38 = .ok (.iaload, 1) := by decide +kernel
theorem dX2_clockSeconds_39 : decode M_X2_clockSeconds.2.2.1 39 = .ok (.if_icmp .lt 61, 3) := by decide +kernel
theorem dX2_clockSeconds_42 : decode M_X2_clockSeconds.2.2.1 42 = .ok (.iload_n 1, 1) := by decide +kernel
theorem dX2_clockSeconds_43 : decode M_X2_clockSeconds.2.2.1 43 = .ok (.aload_n 0, 1) := by decide +kernel
theorem dX2_clockSeconds_44 : decode M_X2_clockSeconds.2.2.1 44 = .ok (.getfield 31, 3) := by decide +kernel
theorem dX2_clockSeconds_47 : decode M_X2_clockSeconds.2.2.1 47 = .ok (.iload_n 2, 1) := by decide +kernel
theorem dX2_clockSeconds_48 : decode M_X2_clockSeconds.2.2.1 48 = .ok (.iconst 1, 1) := by decide +kernel
theorem dX2_clockSeconds_49 : decode M_X2_clockSeconds.2.2.1 49 = .ok (.iadd, 1) := by decide +kernel
theorem dX2_clockSeconds_50 : decode M_X2_clockSeconds.2.2.1 50 = .ok (.iaload, 1) := by decide +kernel
theorem dX2_clockSeconds_51 : decode M_X2_clockSeconds.2.2.1 51 = .ok (.if_icmp .ge 49, 3) := by decide +kernel
theorem dX2_clockSeconds_54 : decode M_X2_clockSeconds.2.2.1 54 = .ok (.aload_n 0, 1) := by decide +kernel
theorem dX2_clockSeconds_55 : decode M_X2_clockSeconds.2.2.1 55 = .ok (.getfield 34, 3) := by decide +kernel
theorem dX2_clockSeconds_58 : decode M_X2_clockSeconds.2.2.1 58 = .ok (.iload_n 2, 1) := by decide +kernel
theorem dX2_clockSeconds_59 : decode M_X2_clockSeconds.2.2.1 59 = .ok (.iconst 1, 1) := by decide +kernel
theorem dX2_clockSeconds_60 : decode M_X2_clockSeconds.2.2.1 60 = .ok (.iadd, 1) := by decide +kernel
theorem dX2_clockSeconds_61 : decode M_X2_clockSeconds.2.2.1 61 = .ok (.iaload, 1) := by decide +kernel
theorem dX2_clockSeconds_62 : decode M_X2_clockSeconds.2.2.1 62 = .ok (.aload_n 0, 1) := by decide +kernel
theorem dX2_clockSeconds_63 : decode M_X2_clockSeconds.2.2.1 63 = .ok (.getfield 34, 3) := by decide +kernel
theorem dX2_clockSeconds_66 : decode M_X2_clockSeconds.2.2.1 66 = .ok (.iload_n 2, 1) := by decide +kernel
theorem dX2_clockSeconds_67 : decode M_X2_clockSeconds.2.2.1 67 = .ok (.iaload, 1) := by decide +kernel
theorem dX2_clockSeconds_68 : decode M_X2_clockSeconds.2.2.1 68 = .ok (.isub, 1) := by decide +kernel
theorem dX2_clockSeconds_69 : decode M_X2_clockSeconds.2.2.1 69 = .ok (.istore 4, 2) := by decide +kernel
theorem dX2_clockSeconds_71 : decode M_X2_clockSeconds.2.2.1 71 = .ok (.bipush 60, 2) := by decide +kernel
theorem dX2_clockSeconds_73 : decode M_X2_clockSeconds.2.2.1 73 = .ok (.aload_n 0, 1) := by decide +kernel
theorem dX2_clockSeconds_74 : decode M_X2_clockSeconds.2.2.1 74 = .ok (.getfield 34, 3) := by decide +kernel
theorem dX2_clockSeconds_77 : decode M_X2_clockSeconds.2.2.1 77 = .ok (.iload_n 2, 1) := by decide +kernel
theorem dX2_clockSeconds_78 : decode M_X2_clockSeconds.2.2.1 78 = .ok (.iaload, 1) := by decide +kernel
theorem dX2_clockSeconds_79 : decode M_X2_clockSeconds.2.2.1 79 = .ok (.imul, 1) := by decide +kernel
theorem dX2_clockSeconds_80 : decode M_X2_clockSeconds.2.2.1 80 = .ok (.iload_n 1, 1) := by decide +kernel
theorem dX2_clockSeconds_81 : decode M_X2_clockSeconds.2.2.1 81 = .ok (.aload_n 0, 1) := by decide +kernel
theorem dX2_clockSeconds_82 : decode M_X2_clockSeconds.2.2.1 82 = .ok (.getfield 31, 3) := by decide +kernel
theorem dX2_clockSeconds_85 : decode M_X2_clockSeconds.2.2.1 85 = .ok (.iload_n 2, 1) := by decide +kernel
theorem dX2_clockSeconds_86 : decode M_X2_clockSeconds.2.2.1 86 = .ok (.iaload, 1) := by decide +kernel
theorem dX2_clockSeconds_87 : decode M_X2_clockSeconds.2.2.1 87 = .ok (.isub, 1) := by decide +kernel
theorem dX2_clockSeconds_88 : decode M_X2_clockSeconds.2.2.1 88 = .ok (.bipush 60, 2) := by decide +kernel
theorem dX2_clockSeconds_90 : decode M_X2_clockSeconds.2.2.1 90 = .ok (.imul, 1) := by decide +kernel
theorem dX2_clockSeconds_91 : decode M_X2_clockSeconds.2.2.1 91 = .ok (.iload 4, 2) := by decide +kernel
theorem dX2_clockSeconds_93 : decode M_X2_clockSeconds.2.2.1 93 = .ok (.imul, 1) := by decide +kernel
theorem dX2_clockSeconds_94 : decode M_X2_clockSeconds.2.2.1 94 = .ok (.iload_n 3, 1) := by decide +kernel
theorem dX2_clockSeconds_95 : decode M_X2_clockSeconds.2.2.1 95 = .ok (.invokestatic 89, 3) := by decide +kernel
theorem dX2_clockSeconds_98 : decode M_X2_clockSeconds.2.2.1 98 = .ok (.iadd, 1) := by decide +kernel
theorem dX2_clockSeconds_99 : decode M_X2_clockSeconds.2.2.1 99 = .ok (.ireturn, 1) := by decide +kernel
theorem dX2_clockSeconds_100 : decode M_X2_clockSeconds.2.2.1 100 = .ok (.iinc 2 1, 3) := by decide +kernel
theorem dX2_clockSeconds_103 : decode M_X2_clockSeconds.2.2.1 103 = .ok (.goto (-101), 3) := by decide +kernel
theorem dX2_clockSeconds_106 : decode M_X2_clockSeconds.2.2.1 106 = .ok (.iconst (-1), 1) := by decide +kernel
theorem dX2_clockSeconds_107 : decode M_X2_clockSeconds.2.2.1 107 = .ok (.ireturn, 1) := by decide +kernel
theorem dX2_firstBeyond_0 : decode M_X2_firstBeyond.2.2.1 0 = .ok (.iconst 0, 1) := by decide +kernel
theorem dX2_firstBeyond_1 : decode M_X2_firstBeyond.2.2.1 1 = .ok (.istore_n 2, 1) := by decide +kernel
theorem dX2_firstBeyond_2 : decode M_X2_firstBeyond.2.2.1 2 = .ok (.iload_n 2, 1) := by decide +kernel
theorem dX2_firstBeyond_3 : decode M_X2_firstBeyond.2.2.1 3 = .ok (.aload_n 0, 1) := by decide +kernel
theorem dX2_firstBeyond_4 : decode M_X2_firstBeyond.2.2.1 4 = .ok (.getfield 58, 3) := by decide +kernel
theorem dX2_firstBeyond_7 : decode M_X2_firstBeyond.2.2.1 7 = .ok (.if_icmp .ge 31, 3) := by decide +kernel
theorem dX2_firstBeyond_10 : decode M_X2_firstBeyond.2.2.1 10 = .ok (.aload_n 0, 1) := by decide +kernel
theorem dX2_firstBeyond_11 : decode M_X2_firstBeyond.2.2.1 11 = .ok (.iload_n 2, 1) := by decide +kernel
theorem dX2_firstBeyond_12 : decode M_X2_firstBeyond.2.2.1 12 = .ok (.invokevirtual 76, 3) := by decide +kernel
theorem dX2_firstBeyond_15 : decode M_X2_firstBeyond.2.2.1 15 = .ok (.ifCond .ne 17, 3) := by decide +kernel
theorem dX2_firstBeyond_18 : decode M_X2_firstBeyond.2.2.1 18 = .ok (.aload_n 0, 1) := by decide +kernel
theorem dX2_firstBeyond_19 : decode M_X2_firstBeyond.2.2.1 19 = .ok (.iload_n 2, 1) := by decide +kernel
theorem dX2_firstBeyond_20 : decode M_X2_firstBeyond.2.2.1 20 = .ok (.invokevirtual 64, 3) := by decide +kernel
theorem dX2_firstBeyond_23 : decode M_X2_firstBeyond.2.2.1 23 = .ok (.invokestatic 69, 3) := by decide +kernel
theorem dX2_firstBeyond_26 : decode M_X2_firstBeyond.2.2.1 26 = .ok (.iload_n 1, 1) := by decide +kernel
theorem dX2_firstBeyond_27 : decode M_X2_firstBeyond.2.2.1 27 = .ok (.if_icmp .le 5, 3) := by decide +kernel
theorem dX2_firstBeyond_30 : decode M_X2_firstBeyond.2.2.1 30 = .ok (.iload_n 2, 1) := by decide +kernel
theorem dX2_firstBeyond_31 : decode M_X2_firstBeyond.2.2.1 31 = .ok (.ireturn, 1) := by decide +kernel
theorem dX2_firstBeyond_32 : decode M_X2_firstBeyond.2.2.1 32 = .ok (.iinc 2 1, 3) := by decide +kernel
theorem dX2_firstBeyond_35 : decode M_X2_firstBeyond.2.2.1 35 = .ok (.goto (-33), 3) := by decide +kernel
theorem dX2_firstBeyond_38 : decode M_X2_firstBeyond.2.2.1 38 = .ok (.iconst (-1), 1) := by decide +kernel
theorem dX2_firstBeyond_39 : decode M_X2_firstBeyond.2.2.1 39 = .ok (.ireturn, 1) := by decide +kernel
theorem dX3_init_0 : decode M_X3_init.2.2.1 0 = .ok (.aload_n 0, 1) := by decide +kernel
theorem dX3_init_1 : decode M_X3_init.2.2.1 1 = .ok (.invokespecial 3, 3) := by decide +kernel
theorem dX3_init_4 : decode M_X3_init.2.2.1 4 = .ok (.aload_n 0, 1) := by decide +kernel
theorem dX3_init_5 : decode M_X3_init.2.2.1 5 = .ok (.sipush 1600, 3) := by decide +kernel
theorem dX3_init_8 : decode M_X3_init.2.2.1 8 = .ok (.newarray .int, 2) := by decide +kernel
theorem dX3_init_10 : decode M_X3_init.2.2.1 10 = .ok (.putfield 9, 3) := by decide +kernel
theorem dX3_init_13 : decode M_X3_init.2.2.1 13 = .ok (.iconst 0, 1) := by decide +kernel
theorem dX3_init_14 : decode M_X3_init.2.2.1 14 = .ok (.istore_n 1, 1) := by decide +kernel
theorem dX3_init_15 : decode M_X3_init.2.2.1 15 = .ok (.iload_n 1, 1) := by decide +kernel
theorem dX3_init_16 : decode M_X3_init.2.2.1 16 = .ok (.bipush 40, 2) := by decide +kernel
theorem dX3_init_18 : decode M_X3_init.2.2.1 18 = .ok (.if_icmp .ge 57, 3) := by decide +kernel
theorem dX3_init_21 : decode M_X3_init.2.2.1 21 = .ok (.iload_n 1, 1) := by decide +kernel
theorem dX3_init_22 : decode M_X3_init.2.2.1 22 = .ok (.istore_n 2, 1) := by decide +kernel
theorem dX3_init_23 : decode M_X3_init.2.2.1 23 = .ok (.iconst 0, 1) := by decide +kernel
theorem dX3_init_24 : decode M_X3_init.2.2.1 24 = .ok (.istore_n 3, 1) := by decide +kernel
theorem dX3_init_25 : decode M_X3_init.2.2.1 25 = .ok (.iload_n 3, 1) := by decide +kernel
theorem dX3_init_26 : decode M_X3_init.2.2.1 26 = .ok (.bipush 40, 2) := by decide +kernel
theorem dX3_init_28 : decode M_X3_init.2.2.1 28 = .ok (.if_icmp .ge 41, 3) := by decide +kernel
theorem dX3_init_31 : decode M_X3_init.2.2.1 31 = .ok (.iload_n 2, 1) := by decide +kernel
theorem dX3_init_32 : decode M_X3_init.2.2.1 32 = .ok (.iconst 1, 1) := by decide +kernel
theorem dX3_init_33 : decode M_X3_init.2.2.1 33 = .ok (.iadd, 1) := by decide +kernel
theorem dX3_init_34 : decode M_X3_init.2.2.1 34 = .ok (.iload_n 2, 1) := by decide +kernel
theorem dX3_init_35 : decode M_X3_init.2.2.1 35 = .ok (.iconst 1, 1) := by decide +kernel
theorem dX3_init_36 : decode M_X3_init.2.2.1 36 = .ok (.iadd, 1) := by decide +kernel
theorem dX3_init_37 : decode M_X3_init.2.2.1 37 = .ok (.imul, 1) := by decide +kernel
theorem dX3_init_38 : decode M_X3_init.2.2.1 38 = .ok (.iload_n 3, 1) := by decide +kernel
theorem dX3_init_39 : decode M_X3_init.2.2.1 39 = .ok (.iload_n 3, 1) := by decide +kernel
theorem dX3_init_40 : decode M_X3_init.2.2.1 40 = .ok (.imul, 1) := by decide +kernel
theorem dX3_init_41 : decode M_X3_init.2.2.1 41 = .ok (.iload_n 1, 1) := by decide +kernel
theorem dX3_init_42 : decode M_X3_init.2.2.1 42 = .ok (.iload_n 1, 1) := by decide +kernel
theorem dX3_init_43 : decode M_X3_init.2.2.1 43 = .ok (.imul, 1) := by decide +kernel
theorem dX3_init_44 : decode M_X3_init.2.2.1 44 = .ok (.iadd, 1) := by decide +kernel
theorem dX3_init_45 : decode M_X3_init.2.2.1 45 = .ok (.if_icmp .gt 6, 3) := by decide +kernel
theorem dX3_init_48 : decode M_X3_init.2.2.1 48 = .ok (.iinc 2 1, 3) := by decide +kernel
theorem dX3_init_51 : decode M_X3_init.2.2.1 51 = .ok (.aload_n 0, 1) := by decide +kernel
theorem dX3_init_52 : decode M_X3_init.2.2.1 52 = .ok (.getfield 9, 3) := by decide +kernel
theorem dX3_init_55 : decode M_X3_init.2.2.1 55 = .ok (.bipush 40, 2) := by decide +kernel
theorem dX3_init_57 : decode M_X3_init.2.2.1 57 = .ok (.iload_n 1, 1) := by decide +kernel
theorem dX3_init_58 : decode M_X3_init.2.2.1 58 = .ok (.imul, 1) := by decide +kernel
theorem dX3_init_59 : decode M_X3_init.2.2.1 59 = .ok (.iload_n 3, 1) := by decide +kernel
theorem dX3_init_60 : decode M_X3_init.2.2.1 60 = .ok (.iadd, 1) := by decide +kernel
theorem dX3_init_61 : decode M_X3_init.2.2.1 61 = .ok (.iload_n 2, 1) := by decide +kernel
theorem dX3_init_62 : decode M_X3_init.2.2.1 62 = .ok (.iastore, 1) := by decide +kernel
theorem dX3_init_63 : decode M_X3_init.2.2.1 63 = .ok (.iinc 3 1, 3) := by decide +kernel
theorem dX3_init_66 : decode M_X3_init.2.2.1 66 = .ok (.goto (-41), 3) := by decide +kernel
theorem dX3_init_69 : decode M_X3_init.2.2.1 69 = .ok (.iinc 1 1, 3) := by decide +kernel
theorem dX3_init_72 : decode M_X3_init.2.2.1 72 = .ok (.goto (-57), 3) := by decide +kernel
theorem dX3_init_75 : decode M_X3_init.2.2.1 75 = .ok (.return_, 1) := by decide +kernel
theorem dX3_distance_0 : decode M_X3_distance.2.2.1 0 = .ok (.iload_n 1, 1) := by decide +kernel
theorem dX3_distance_1 : decode M_X3_distance.2.2.1 1 = .ok (.iload_n 3, 1) := by decide +kernel
theorem dX3_distance_2 : decode M_X3_distance.2.2.1 2 = .ok (.isub, 1) := by decide +kernel
theorem dX3_distance_3 : decode M_X3_distance.2.2.1 3 = .ok (.invokestatic 15, 3) := by decide +kernel
theorem dX3_distance_6 : decode M_X3_distance.2.2.1 6 = .ok (.istore 5, 2) := by decide +kernel
theorem dX3_distance_8 : decode M_X3_distance.2.2.1 8 = .ok (.iload_n 2, 1) := by decide +kernel
theorem dX3_distance_9 : decode M_X3_distance.2.2.1 9 = .ok (.iload 4, 2) := by decide +kernel
theorem dX3_distance_11 : decode M_X3_distance.2.2.1 11 = .ok (.isub, 1) := by decide +kernel
theorem dX3_distance_12 : decode M_X3_distance.2.2.1 12 = .ok (.invokestatic 15, 3) := by decide +kernel
theorem dX3_distance_15 : decode M_X3_distance.2.2.1 15 = .ok (.istore 6, 2) := by decide +kernel
theorem dX3_distance_17 : decode M_X3_distance.2.2.1 17 = .ok (.bipush 40, 2) := by decide +kernel
theorem dX3_distance_19 : decode M_X3_distance.2.2.1 19 = .ok (.iload 6, 2) := by decide +kernel
theorem dX3_distance_21 : decode M_X3_distance.2.2.1 21 = .ok (.imul, 1) := by decide +kernel
theorem dX3_distance_22 : decode M_X3_distance.2.2.1 22 = .ok (.iload 5, 2) := by decide +kernel
theorem dX3_distance_24 : decode M_X3_distance.2.2.1 24 = .ok (.iadd, 1) := by decide +kernel
theorem dX3_distance_25 : decode M_X3_distance.2.2.1 25 = .ok (.istore 7, 2) := by decide +kernel
theorem dX3_distance_27 : decode M_X3_distance.2.2.1 27 = .ok (.iload 7, 2) := by decide +kernel
theorem dX3_distance_29 : decode M_X3_distance.2.2.1 29 = .ok (.ifCond .lt 23, 3) := by decide +kernel
theorem dX3_distance_32 : decode M_X3_distance.2.2.1 32 = .ok (.iload 7, 2) := by decide +kernel
theorem dX3_distance_34 : decode M_X3_distance.2.2.1 34 = .ok (.aload_n 0, 1) := by decide +kernel
theorem dX3_distance_35 : decode M_X3_distance.2.2.1 35 = .ok (.getfield 9, 3) := by decide +kernel
theorem dX3_distance_38 : decode M_X3_distance.2.2.1 38 = .ok (.arraylength, 1) := by decide +kernel
theorem dX3_distance_39 : decode M_X3_distance.2.2.1 39 = .ok (.if_icmp .ge 13, 3) := by decide +kernel
theorem dX3_distance_42 : decode M_X3_distance.2.2.1 42 = .ok (.aload_n 0, 1) := by decide +kernel
theorem dX3_distance_43 : decode M_X3_distance.2.2.1 43 = .ok (.getfield 9, 3) := by decide +kernel
theorem dX3_distance_46 : decode M_X3_distance.2.2.1 46 = .ok (.iload 7, 2) := by decide +kernel
theorem dX3_distance_48 : decode M_X3_distance.2.2.1 48 = .ok (.iaload, 1) := by decide +kernel
theorem dX3_distance_49 : decode M_X3_distance.2.2.1 49 = .ok (.goto 4, 3) := by decide +kernel
theorem dX3_distance_52 : decode M_X3_distance.2.2.1 52 = .ok (.iconst 0, 1) := by decide +kernel
theorem dX3_distance_53 : decode M_X3_distance.2.2.1 53 = .ok (.ireturn, 1) := by decide +kernel
theorem dX4_init_0 : decode M_X4_init.2.2.1 0 = .ok (.aload_n 0, 1) := by decide +kernel
theorem dX4_init_1 : decode M_X4_init.2.2.1 1 = .ok (.invokespecial 3, 3) := by decide +kernel
theorem dX4_init_4 : decode M_X4_init.2.2.1 4 = .ok (.aload_n 0, 1) := by decide +kernel
theorem dX4_init_5 : decode M_X4_init.2.2.1 5 = .ok (.bipush 100, 2) := by decide +kernel
theorem dX4_init_7 : decode M_X4_init.2.2.1 7 = .ok (.newarray .int, 2) := by decide +kernel
theorem dX4_init_9 : decode M_X4_init.2.2.1 9 = .ok (.putfield 9, 3) := by decide +kernel
theorem dX4_init_12 : decode M_X4_init.2.2.1 12 = .ok (.aload_n 0, 1) := by decide +kernel
theorem dX4_init_13 : decode M_X4_init.2.2.1 13 = .ok (.bipush 100, 2) := by decide +kernel
theorem dX4_init_15 : decode M_X4_init.2.2.1 15 = .ok (.newarray .int, 2) := by decide +kernel
theorem dX4_init_17 : decode M_X4_init.2.2.1 17 = .ok (.putfield 15, 3) := by decide +kernel
theorem dX4_init_20 : decode M_X4_init.2.2.1 20 = .ok (.aload_n 0, 1) := by decide +kernel
theorem dX4_init_21 : decode M_X4_init.2.2.1 21 = .ok (.bipush 100, 2) := by decide +kernel
theorem dX4_init_23 : decode M_X4_init.2.2.1 23 = .ok (.newarray .int, 2) := by decide +kernel
theorem dX4_init_25 : decode M_X4_init.2.2.1 25 = .ok (.putfield 18, 3) := by decide +kernel
theorem dX4_init_28 : decode M_X4_init.2.2.1 28 = .ok (.return_, 1) := by decide +kernel
theorem dX4_append_0 : decode M_X4_append.2.2.1 0 = .ok (.aload_n 0, 1) := by decide +kernel
theorem dX4_append_1 : decode M_X4_append.2.2.1 1 = .ok (.getfield 21, 3) := by decide +kernel
theorem dX4_append_4 : decode M_X4_append.2.2.1 4 = .ok (.bipush 100, 2) := by decide +kernel
theorem dX4_append_6 : decode M_X4_append.2.2.1 6 = .ok (.if_icmp .lt 5, 3) := by decide +kernel
theorem dX4_append_9 : decode M_X4_append.2.2.1 9 = .ok (.iconst 0, 1) := by decide +kernel
theorem dX4_append_10 : decode M_X4_append.2.2.1 10 = .ok (.ireturn, 1) := by decide +kernel
theorem dX4_append_11 : decode M_X4_append.2.2.1 11 = .ok (.aload_n 0, 1) := by decide +kernel
theorem dX4_append_12 : decode M_X4_append.2.2.1 12 = .ok (.getfield 9, 3) := by decide +kernel
theorem dX4_append_15 : decode M_X4_append.2.2.1 15 = .ok (.aload_n 0, 1) := by decide +kernel
theorem dX4_append_16 : decode M_X4_append.2.2.1 16 = .ok (.getfield 21, 3) := by decide +kernel
theorem dX4_append_19 : decode M_X4_append.2.2.1 19 = .ok (.iload_n 1, 1) := by decide +kernel
theorem dX4_append_20 : decode M_X4_append.2.2.1 20 = .ok (.iastore, 1) := by decide +kernel
theorem dX4_append_21 : decode M_X4_append.2.2.1 21 = .ok (.aload_n 0, 1) := by decide +kernel
theorem dX4_append_22 : decode M_X4_append.2.2.1 22 = .ok (.getfield 15, 3) := by decide +kernel
theorem dX4_append_25 : decode M_X4_append.2.2.1 25 = .ok (.aload_n 0, 1) := by decide +kernel
theorem dX4_append_26 : decode M_X4_append.2.2.1 26 = .ok (.getfield 21, 3) := by decide +kernel
theorem dX4_append_29 : decode M_X4_append.2.2.1 29 = .ok (.iload_n 2, 1) := by decide +kernel
theorem dX4_append_30 : decode M_X4_append.2.2.1 30 = .ok (.iastore, 1) := by decide +kernel
theorem dX4_append_31 : decode M_X4_append.2.2.1 31 = .ok (.aload_n 0, 1) := by decide +kernel
theorem dX4_append_32 : decode M_X4_append.2.2.1 32 = .ok (.getfield 18, 3) := by decide +kernel
theorem dX4_append_35 : decode M_X4_append.2.2.1 35 = .ok (.aload_n 0, 1) := by decide +kernel
theorem dX4_append_36 : decode M_X4_append.2.2.1 36 = .ok (.getfield 21, 3) := by decide +kernel
theorem dX4_append_39 : decode M_X4_append.2.2.1 39 = .ok (.iload_n 3, 1) := by decide +kernel
theorem dX4_append_40 : decode M_X4_append.2.2.1 40 = .ok (.iastore, 1) := by decide +kernel
theorem dX4_append_41 : decode M_X4_append.2.2.1 41 = .ok (.aload_n 0, 1) := by decide +kernel
theorem dX4_append_42 : decode M_X4_append.2.2.1 42 = .ok (.dup, 1) := by decide +kernel
theorem dX4_append_43 : decode M_X4_append.2.2.1 43 = .ok (.getfield 21, 3) := by decide +kernel
theorem dX4_append_46 : decode M_X4_append.2.2.1 46 = .ok (.iconst 1, 1) := by decide +kernel
theorem dX4_append_47 : decode M_X4_append.2.2.1 47 = .ok (.iadd, 1) := by decide +kernel
theorem dX4_append_48 : decode M_X4_append.2.2.1 48 = .ok (.putfield 21, 3) := by decide +kernel
theorem dX4_append_51 : decode M_X4_append.2.2.1 51 = .ok (.iconst 1, 1) := by decide +kernel
theorem dX4_append_52 : decode M_X4_append.2.2.1 52 = .ok (.ireturn, 1) := by decide +kernel
theorem dX5_init_0 : decode M_X5_init.2.2.1 0 = .ok (.aload_n 0, 1) := by decide +kernel
theorem dX5_init_1 : decode M_X5_init.2.2.1 1 = .ok (.invokespecial 3, 3) := by decide +kernel
theorem dX5_init_4 : decode M_X5_init.2.2.1 4 = .ok (.aload_n 0, 1) := by decide +kernel
theorem dX5_init_5 : decode M_X5_init.2.2.1 5 = .ok (.bipush 6, 2) := by decide +kernel
theorem dX5_init_7 : decode M_X5_init.2.2.1 7 = .ok (.anewarray 9, 3) := by decide +kernel
theorem dX5_init_10 : decode M_X5_init.2.2.1 10 = .ok (.putfield 11, 3) := by decide +kernel
theorem dX5_init_13 : decode M_X5_init.2.2.1 13 = .ok (.aload_n 0, 1) := by decide +kernel
theorem dX5_init_14 : decode M_X5_init.2.2.1 14 = .ok (.iconst (-1), 1) := by decide +kernel
theorem dX5_init_15 : decode M_X5_init.2.2.1 15 = .ok (.putfield 17, 3) := by decide +kernel
theorem dX5_init_18 : decode M_X5_init.2.2.1 18 = .ok (.aload_n 0, 1) := by decide +kernel
theorem dX5_init_19 : decode M_X5_init.2.2.1 19 = .ok (.iconst (-1), 1) := by decide +kernel
theorem dX5_init_20 : decode M_X5_init.2.2.1 20 = .ok (.putfield 21, 3) := by decide +kernel
theorem dX5_init_23 : decode M_X5_init.2.2.1 23 = .ok (.return_, 1) := by decide +kernel
theorem dX5_reading_0 : decode M_X5_reading.2.2.1 0 = .ok (.iload_n 1, 1) := by decide +kernel
theorem dX5_reading_1 : decode M_X5_reading.2.2.1 1 = .ok (.ifCond .lt 21, 3) := by decide +kernel
theorem dX5_reading_4 : decode M_X5_reading.2.2.1 4 = .ok (.iload_n 1, 1) := by decide +kernel
theorem dX5_reading_5 : decode M_X5_reading.2.2.1 5 = .ok (.aload_n 0, 1) := by decide +kernel
theorem dX5_reading_6 : decode M_X5_reading.2.2.1 6 = .ok (.getfield 11, 3) := by decide +kernel
theorem dX5_reading_9 : decode M_X5_reading.2.2.1 9 = .ok (.arraylength, 1) := by decide +kernel
theorem dX5_reading_10 : decode M_X5_reading.2.2.1 10 = .ok (.if_icmp .ge 12, 3) := by decide +kernel
theorem dX5_reading_13 : decode M_X5_reading.2.2.1 13 = .ok (.aload_n 0, 1) := by decide +kernel
theorem dX5_reading_14 : decode M_X5_reading.2.2.1 14 = .ok (.getfield 11, 3) := by decide +kernel
theorem dX5_reading_17 : decode M_X5_reading.2.2.1 17 = .ok (.iload_n 1, 1) := by decide +kernel
theorem dX5_reading_18 : decode M_X5_reading.2.2.1 18 = .ok (.aaload, 1) := by decide +kernel
theorem dX5_reading_19 : decode M_X5_reading.2.2.1 19 = .ok (.goto 4, 3) := by decide +kernel
theorem dX5_reading_22 : decode M_X5_reading.2.2.1 22 = .ok (.aconst_null, 1) := by decide +kernel
theorem dX5_reading_23 : decode M_X5_reading.2.2.1 23 = .ok (.areturn, 1) := by decide +kernel
theorem dX5_readAnew_0 : decode M_X5_readAnew.2.2.1 0 = .ok (.iload_n 1, 1) := by decide +kernel
theorem dX5_readAnew_1 : decode M_X5_readAnew.2.2.1 1 = .ok (.ifCond .lt 12, 3) := by decide +kernel
theorem dX5_readAnew_4 : decode M_X5_readAnew.2.2.1 4 = .ok (.iload_n 1, 1) := by decide +kernel
theorem dX5_readAnew_5 : decode M_X5_readAnew.2.2.1 5 = .ok (.aload_n 0, 1) := by decide +kernel
theorem dX5_readAnew_6 : decode M_X5_readAnew.2.2.1 6 = .ok (.getfield 11, 3) := by decide +kernel
theorem dX5_readAnew_9 : decode M_X5_readAnew.2.2.1 9 = .ok (.arraylength, 1) := by decide +kernel
theorem dX5_readAnew_10 : decode M_X5_readAnew.2.2.1 10 = .ok (.if_icmp .lt 4, 3) := by decide +kernel
theorem dX5_readAnew_13 : decode M_X5_readAnew.2.2.1 13 = .ok (.return_, 1) := by decide +kernel
theorem dX5_readAnew_14 : decode M_X5_readAnew.2.2.1 14 = .ok (.aload_n 0, 1) := by decide +kernel
theorem dX5_readAnew_15 : decode M_X5_readAnew.2.2.1 15 = .ok (.getfield 11, 3) := by decide +kernel
theorem dX5_readAnew_18 : decode M_X5_readAnew.2.2.1 18 = .ok (.iload_n 1, 1) := by decide +kernel
theorem dX5_readAnew_19 : decode M_X5_readAnew.2.2.1 19 = .ok (.aaload, 1) := by decide +kernel
theorem dX5_readAnew_20 : decode M_X5_readAnew.2.2.1 20 = .ok (.astore 4, 2) := by decide +kernel
theorem dX5_readAnew_22 : decode M_X5_readAnew.2.2.1 22 = .ok (.aload 4, 2) := by decide +kernel
theorem dX5_readAnew_24 : decode M_X5_readAnew.2.2.1 24 = .ok (.ifnonnull 20, 3) := by decide +kernel
theorem dX5_readAnew_27 : decode M_X5_readAnew.2.2.1 27 = .ok (.new 9, 3) := by decide +kernel
theorem dX5_readAnew_30 : decode M_X5_readAnew.2.2.1 30 = .ok (.dup, 1) := by decide +kernel
theorem dX5_readAnew_31 : decode M_X5_readAnew.2.2.1 31 = .ok (.invokespecial 24, 3) := by decide +kernel
theorem dX5_readAnew_34 : decode M_X5_readAnew.2.2.1 34 = .ok (.astore 4, 2) := by decide +kernel
theorem dX5_readAnew_36 : decode M_X5_readAnew.2.2.1 36 = .ok (.aload_n 0, 1) := by decide +kernel
theorem dX5_readAnew_37 : decode M_X5_readAnew.2.2.1 37 = .ok (.getfield 11, 3) := by decide +kernel
theorem dX5_readAnew_40 : decode M_X5_readAnew.2.2.1 40 = .ok (.iload_n 1, 1) := by decide +kernel
theorem dX5_readAnew_41 : decode M_X5_readAnew.2.2.1 41 = .ok (.aload 4, 2) := by decide +kernel
theorem dX5_readAnew_43 : decode M_X5_readAnew.2.2.1 43 = .ok (.aastore, 1) := by decide +kernel
theorem dX5_readAnew_44 : decode M_X5_readAnew.2.2.1 44 = .ok (.aload 4, 2) := by decide +kernel
theorem dX5_readAnew_46 : decode M_X5_readAnew.2.2.1 46 = .ok (.iload_n 2, 1) := by decide +kernel
theorem dX5_readAnew_47 : decode M_X5_readAnew.2.2.1 47 = .ok (.putfield 25, 3) := by decide +kernel
theorem dX5_readAnew_50 : decode M_X5_readAnew.2.2.1 50 = .ok (.aload 4, 2) := by decide +kernel
theorem dX5_readAnew_52 : decode M_X5_readAnew.2.2.1 52 = .ok (.iload_n 3, 1) := by decide +kernel
theorem dX5_readAnew_53 : decode M_X5_readAnew.2.2.1 53 = .ok (.putfield 28, 3) := by decide +kernel
theorem dX5_readAnew_56 : decode M_X5_readAnew.2.2.1 56 = .ok (.aload 4, 2) := by decide +kernel
theorem dX5_readAnew_58 : decode M_X5_readAnew.2.2.1 58 = .ok (.iconst (-1), 1) := by decide +kernel
theorem dX5_readAnew_59 : decode M_X5_readAnew.2.2.1 59 = .ok (.putfield 31, 3) := by decide +kernel
theorem dX5_readAnew_62 : decode M_X5_readAnew.2.2.1 62 = .ok (.aload 4, 2) := by decide +kernel
theorem dX5_readAnew_64 : decode M_X5_readAnew.2.2.1 64 = .ok (.iconst (-1), 1) := by decide +kernel
theorem dX5_readAnew_65 : decode M_X5_readAnew.2.2.1 65 = .ok (.putfield 34, 3) := by decide +kernel
theorem dX5_readAnew_68 : decode M_X5_readAnew.2.2.1 68 = .ok (.aload 4, 2) := by decide +kernel
theorem dX5_readAnew_70 : decode M_X5_readAnew.2.2.1 70 = .ok (.iconst 0, 1) := by decide +kernel
theorem dX5_readAnew_71 : decode M_X5_readAnew.2.2.1 71 = .ok (.putfield 37, 3) := by decide +kernel
theorem dX5_readAnew_74 : decode M_X5_readAnew.2.2.1 74 = .ok (.aload 4, 2) := by decide +kernel
theorem dX5_readAnew_76 : decode M_X5_readAnew.2.2.1 76 = .ok (.iconst 0, 1) := by decide +kernel
theorem dX5_readAnew_77 : decode M_X5_readAnew.2.2.1 77 = .ok (.putfield 40, 3) := by decide +kernel
theorem dX5_readAnew_80 : decode M_X5_readAnew.2.2.1 80 = .ok (.return_, 1) := by decide +kernel
theorem dX6_init_0 : decode M_X6_init.2.2.1 0 = .ok (.aload_n 0, 1) := by decide +kernel
theorem dX6_init_1 : decode M_X6_init.2.2.1 1 = .ok (.invokespecial 3, 3) := by decide +kernel
theorem dX6_init_4 : decode M_X6_init.2.2.1 4 = .ok (.return_, 1) := by decide +kernel
theorem dX6_earliest_0 : decode M_X6_earliest.2.2.1 0 = .ok (.aload_n 0, 1) := by decide +kernel
theorem dX6_earliest_1 : decode M_X6_earliest.2.2.1 1 = .ok (.getfield 9, 3) := by decide +kernel
theorem dX6_earliest_4 : decode M_X6_earliest.2.2.1 4 = .ok (.iconst (-1), 1) := by decide +kernel
theorem dX6_earliest_5 : decode M_X6_earliest.2.2.1 5 = .ok (.if_icmp .ne 12, 3) := by decide +kernel
theorem dX6_earliest_8 : decode M_X6_earliest.2.2.1 8 = .ok (.aload_n 0, 1) := by decide +kernel
theorem dX6_earliest_9 : decode M_X6_earliest.2.2.1 9 = .ok (.getfield 15, 3) := by decide +kernel
theorem dX6_earliest_12 : decode M_X6_earliest.2.2.1 12 = .ok (.iload_n 1, 1) := by decide +kernel
theorem dX6_earliest_13 : decode M_X6_earliest.2.2.1 13 = .ok (.isub, 1) := by decide +kernel
theorem dX6_earliest_14 : decode M_X6_earliest.2.2.1 14 = .ok (.goto 18, 3) := by decide +kernel
theorem dX6_earliest_17 : decode M_X6_earliest.2.2.1 17 = .ok (.aload_n 0, 1) := by decide +kernel
theorem dX6_earliest_18 : decode M_X6_earliest.2.2.1 18 = .ok (.getfield 15, 3) := by decide +kernel
theorem dX6_earliest_21 : decode M_X6_earliest.2.2.1 21 = .ok (.iload_n 1, 1) := by decide +kernel
theorem dX6_earliest_22 : decode M_X6_earliest.2.2.1 22 = .ok (.isub, 1) := by decide +kernel
theorem dX6_earliest_23 : decode M_X6_earliest.2.2.1 23 = .ok (.aload_n 0, 1) := by decide +kernel
theorem dX6_earliest_24 : decode M_X6_earliest.2.2.1 24 = .ok (.getfield 9, 3) := by decide +kernel
theorem dX6_earliest_27 : decode M_X6_earliest.2.2.1 27 = .ok (.iload_n 2, 1) := by decide +kernel
theorem dX6_earliest_28 : decode M_X6_earliest.2.2.1 28 = .ok (.isub, 1) := by decide +kernel
theorem dX6_earliest_29 : decode M_X6_earliest.2.2.1 29 = .ok (.invokestatic 18, 3) := by decide +kernel
theorem dX6_earliest_32 : decode M_X6_earliest.2.2.1 32 = .ok (.ireturn, 1) := by decide +kernel
theorem dX6_latest_0 : decode M_X6_latest.2.2.1 0 = .ok (.aload_n 0, 1) := by decide +kernel
theorem dX6_latest_1 : decode M_X6_latest.2.2.1 1 = .ok (.getfield 9, 3) := by decide +kernel
theorem dX6_latest_4 : decode M_X6_latest.2.2.1 4 = .ok (.iconst (-1), 1) := by decide +kernel
theorem dX6_latest_5 : decode M_X6_latest.2.2.1 5 = .ok (.if_icmp .ne 12, 3) := by decide +kernel
theorem dX6_latest_8 : decode M_X6_latest.2.2.1 8 = .ok (.aload_n 0, 1) := by decide +kernel
theorem dX6_latest_9 : decode M_X6_latest.2.2.1 9 = .ok (.getfield 24, 3) := by decide +kernel
theorem dX6_latest_12 : decode M_X6_latest.2.2.1 12 = .ok (.iload_n 1, 1) := by decide +kernel
theorem dX6_latest_13 : decode M_X6_latest.2.2.1 13 = .ok (.isub, 1) := by decide +kernel
theorem dX6_latest_14 : decode M_X6_latest.2.2.1 14 = .ok (.goto 18, 3) := by decide +kernel
theorem dX6_latest_17 : decode M_X6_latest.2.2.1 17 = .ok (.aload_n 0, 1) := by decide +kernel
theorem dX6_latest_18 : decode M_X6_latest.2.2.1 18 = .ok (.getfield 24, 3) := by decide +kernel
theorem dX6_latest_21 : decode M_X6_latest.2.2.1 21 = .ok (.iload_n 1, 1) := by decide +kernel
theorem dX6_latest_22 : decode M_X6_latest.2.2.1 22 = .ok (.isub, 1) := by decide +kernel
theorem dX6_latest_23 : decode M_X6_latest.2.2.1 23 = .ok (.aload_n 0, 1) := by decide +kernel
theorem dX6_latest_24 : decode M_X6_latest.2.2.1 24 = .ok (.getfield 27, 3) := by decide +kernel
theorem dX6_latest_27 : decode M_X6_latest.2.2.1 27 = .ok (.iload_n 2, 1) := by decide +kernel
theorem dX6_latest_28 : decode M_X6_latest.2.2.1 28 = .ok (.isub, 1) := by decide +kernel
theorem dX6_latest_29 : decode M_X6_latest.2.2.1 29 = .ok (.invokestatic 30, 3) := by decide +kernel
theorem dX6_latest_32 : decode M_X6_latest.2.2.1 32 = .ok (.ireturn, 1) := by decide +kernel
theorem dX7_init_0 : decode M_X7_init.2.2.1 0 = .ok (.aload_n 0, 1) := by decide +kernel
theorem dX7_init_1 : decode M_X7_init.2.2.1 1 = .ok (.invokespecial 3, 3) := by decide +kernel
theorem dX7_init_4 : decode M_X7_init.2.2.1 4 = .ok (.return_, 1) := by decide +kernel
theorem dX7_search_0 : decode M_X7_search.2.2.1 0 = .ok (.aload_n 0, 1) := by decide +kernel
theorem dX7_search_1 : decode M_X7_search.2.2.1 1 = .ok (.iconst 0, 1) := by decide +kernel
theorem dX7_search_2 : decode M_X7_search.2.2.1 2 = .ok (.putfield 9, 3) := by decide +kernel
theorem dX7_search_5 : decode M_X7_search.2.2.1 5 = .ok (.aload_n 0, 1) := by decide +kernel
theorem dX7_search_6 : decode M_X7_search.2.2.1 6 = .ok (.iconst (-1), 1) := by decide +kernel
theorem dX7_search_7 : decode M_X7_search.2.2.1 7 = .ok (.putfield 15, 3) := by decide +kernel
theorem dX7_search_10 : decode M_X7_search.2.2.1 10 = .ok (.aload_n 0, 1) := by decide +kernel
theorem dX7_search_11 : decode M_X7_search.2.2.1 11 = .ok (.iconst (-1), 1) := by decide +kernel
theorem dX7_search_12 : decode M_X7_search.2.2.1 12 = .ok (.putfield 18, 3) := by decide +kernel
theorem dX7_search_15 : decode M_X7_search.2.2.1 15 = .ok (.iconst 0, 1) := by decide +kernel
theorem dX7_search_16 : decode M_X7_search.2.2.1 16 = .ok (.istore 4, 2) := by decide +kernel
theorem dX7_search_18 : decode M_X7_search.2.2.1 18 = .ok (.iload 4, 2) := by decide +kernel
theorem dX7_search_20 : decode M_X7_search.2.2.1 20 = .ok (.bipush 64, 2) := by decide +kernel
theorem dX7_search_22 : decode M_X7_search.2.2.1 22 = .ok (.if_icmp .ge 101, 3) := by decide +kernel
theorem dX7_search_25 : decode M_X7_search.2.2.1 25 = .ok (.aload_n 0, 1) := by decide +kernel
theorem dX7_search_26 : decode M_X7_search.2.2.1 26 = .ok (.iconst 0, 1) := by decide +kernel
theorem dX7_search_27 : decode M_X7_search.2.2.1 27 = .ok (.putfield 21, 3) := by decide +kernel
theorem dX7_search_30 : decode M_X7_search.2.2.1 30 = .ok (.aload_n 0, 1) := by decide +kernel
theorem dX7_search_31 : decode M_X7_search.2.2.1 31 = .ok (.bipush 63, 2) := by decide +kernel
theorem dX7_search_33 : decode M_X7_search.2.2.1 33 = .ok (.putfield 24, 3) := by decide +kernel
theorem dX7_search_36 : decode M_X7_search.2.2.1 36 = .ok (.iload_n 2, 1) := by decide +kernel
theorem dX7_search_37 : decode M_X7_search.2.2.1 37 = .ok (.iconst 2, 1) := by decide +kernel
theorem dX7_search_38 : decode M_X7_search.2.2.1 38 = .ok (.iadd, 1) := by decide +kernel
theorem dX7_search_39 : decode M_X7_search.2.2.1 39 = .ok (.istore 5, 2) := by decide +kernel
theorem dX7_search_41 : decode M_X7_search.2.2.1 41 = .ok (.iload 5, 2) := by decide +kernel
theorem dX7_search_43 : decode M_X7_search.2.2.1 43 = .ok (.iload_n 3, 1) := by decide +kernel
theorem dX7_search_44 : decode M_X7_search.2.2.1 44 = .ok (.if_icmp .gt 56, 3) := by decide +kernel
theorem dX7_search_47 : decode M_X7_search.2.2.1 47 = .ok (.aload_n 0, 1) := by decide +kernel
theorem dX7_search_48 : decode M_X7_search.2.2.1 48 = .ok (.getfield 21, 3) := by decide +kernel
theorem dX7_search_51 : decode M_X7_search.2.2.1 51 = .ok (.aload_n 0, 1) := by decide +kernel
theorem dX7_search_52 : decode M_X7_search.2.2.1 52 = .ok (.getfield 24, 3) := by decide +kernel
theorem dX7_search_55 : decode M_X7_search.2.2.1 55 = .ok (.if_icmp .gt 45, 3) := by decide +kernel
theorem dX7_search_58 : decode M_X7_search.2.2.1 58 = .ok (.aload_n 1, 1) := by decide +kernel
theorem dX7_search_59 : decode M_X7_search.2.2.1 59 = .ok (.iload 5, 2) := by decide +kernel
theorem dX7_search_61 : decode M_X7_search.2.2.1 61 = .ok (.iconst 1, 1) := by decide +kernel
theorem dX7_search_62 : decode M_X7_search.2.2.1 62 = .ok (.isub, 1) := by decide +kernel
theorem dX7_search_63 : decode M_X7_search.2.2.1 63 = .ok (.invokevirtual 27, 3) := by decide +kernel
theorem dX7_search_66 : decode M_X7_search.2.2.1 66 = .ok (.istore 6, 2) := by decide +kernel
theorem dX7_search_68 : decode M_X7_search.2.2.1 68 = .ok (.aload_n 0, 1) := by decide +kernel
theorem dX7_search_69 : decode M_X7_search.2.2.1 69 = .ok (.iload 6, 2) := by decide +kernel
theorem dX7_search_71 : decode M_X7_search.2.2.1 71 = .ok (.aload_n 1, 1) := by decide +kernel
theorem dX7_search_72 : decode M_X7_search.2.2.1 72 = .ok (.iload 5, 2) := by decide +kernel
theorem dX7_search_74 : decode M_X7_search.2.2.1 74 = .ok (.invokevirtual 27, 3) := by decide +kernel
theorem dX7_search_77 : decode M_X7_search.2.2.1 77 = .ok (.isub, 1) := by decide +kernel
theorem dX7_search_78 : decode M_X7_search.2.2.1 78 = .ok (.iload 4, 2) := by decide +kernel
theorem dX7_search_80 : decode M_X7_search.2.2.1 80 = .ok (.iload 6, 2) := by decide +kernel
theorem dX7_search_82 : decode M_X7_search.2.2.1 82 = .ok (.imul, 1) := by decide +kernel
theorem dX7_search_83 : decode M_X7_search.2.2.1 83 = .ok (.aload_n 1, 1) := by decide +kernel
theorem dX7_search_84 : decode M_X7_search.2.2.1 84 = .ok (.iload 5, 2) := by decide +kernel
theorem dX7_search_86 : decode M_X7_search.2.2.1 86 = .ok (.iconst 1, 1) := by decide +kernel
theorem dX7_search_87 : decode M_X7_search.2.2.1 87 = .ok (.isub, 1) := by decide +kernel
theorem dX7_search_88 : decode M_X7_search.2.2.1 88 = .ok (.invokevirtual 33, 3) := by decide +kernel
theorem dX7_search_91 : decode M_X7_search.2.2.1 91 = .ok (.invokevirtual 36, 3) := by decide +kernel
theorem dX7_search_94 : decode M_X7_search.2.2.1 94 = .ok (.iinc 5 1, 3) := by decide +kernel
theorem dX7_search_97 : decode M_X7_search.2.2.1 97 = .ok (.goto (-56), 3) := by decide +kernel
theorem dX7_search_100 : decode M_X7_search.2.2.1 100 = .ok (.aload_n 0, 1) := by decide +kernel
theorem dX7_search_101 : decode M_X7_search.2.2.1 101 = .ok (.getfield 21, 3) := by decide +kernel
theorem dX7_search_104 : decode M_X7_search.2.2.1 104 = .ok (.aload_n 0, 1) := by decide +kernel
theorem dX7_search_105 : decode M_X7_search.2.2.1 105 = .ok (.getfield 24, 3) := by decide +kernel
theorem dX7_search_108 : decode M_X7_search.2.2.1 108 = .ok (.if_icmp .gt 9, 3) := by decide +kernel
theorem dX7_search_111 : decode M_X7_search.2.2.1 111 = .ok (.aload_n 0, 1) := by decide +kernel
theorem dX7_search_112 : decode M_X7_search.2.2.1 112 = .ok (.iload 4, 2) := by decide +kernel
theorem dX7_search_114 : decode M_X7_search.2.2.1 114 = .ok (.invokevirtual 40, 3) := by decide +kernel
theorem dX7_search_117 : decode M_X7_search.2.2.1 117 = .ok (.iinc 4 1, 3) := by decide +kernel
theorem dX7_search_120 : decode M_X7_search.2.2.1 120 = .ok (.goto (-102), 3) := by decide +kernel
theorem dX7_search_123 : decode M_X7_search.2.2.1 123 = .ok (.return_, 1) := by decide +kernel
theorem dX7_keep_0 : decode M_X7_keep.2.2.1 0 = .ok (.aload_n 0, 1) := by decide +kernel
theorem dX7_keep_1 : decode M_X7_keep.2.2.1 1 = .ok (.getfield 9, 3) := by decide +kernel
theorem dX7_keep_4 : decode M_X7_keep.2.2.1 4 = .ok (.ifCond .ne 16, 3) := by decide +kernel
theorem dX7_keep_7 : decode M_X7_keep.2.2.1 7 = .ok (.aload_n 0, 1) := by decide +kernel
theorem dX7_keep_8 : decode M_X7_keep.2.2.1 8 = .ok (.iload_n 1, 1) := by decide +kernel
theorem dX7_keep_9 : decode M_X7_keep.2.2.1 9 = .ok (.putfield 15, 3) := by decide +kernel
theorem dX7_keep_12 : decode M_X7_keep.2.2.1 12 = .ok (.aload_n 0, 1) := by decide +kernel
theorem dX7_keep_13 : decode M_X7_keep.2.2.1 13 = .ok (.aload_n 0, 1) := by decide +kernel
theorem dX7_keep_14 : decode M_X7_keep.2.2.1 14 = .ok (.getfield 21, 3) := by decide +kernel
theorem dX7_keep_17 : decode M_X7_keep.2.2.1 17 = .ok (.putfield 18, 3) := by decide +kernel
theorem dX7_keep_20 : decode M_X7_keep.2.2.1 20 = .ok (.aload_n 0, 1) := by decide +kernel
theorem dX7_keep_21 : decode M_X7_keep.2.2.1 21 = .ok (.dup, 1) := by decide +kernel
theorem dX7_keep_22 : decode M_X7_keep.2.2.1 22 = .ok (.getfield 9, 3) := by decide +kernel
theorem dX7_keep_25 : decode M_X7_keep.2.2.1 25 = .ok (.aload_n 0, 1) := by decide +kernel
theorem dX7_keep_26 : decode M_X7_keep.2.2.1 26 = .ok (.getfield 24, 3) := by decide +kernel
theorem dX7_keep_29 : decode M_X7_keep.2.2.1 29 = .ok (.aload_n 0, 1) := by decide +kernel
theorem dX7_keep_30 : decode M_X7_keep.2.2.1 30 = .ok (.getfield 21, 3) := by decide +kernel
theorem dX7_keep_33 : decode M_X7_keep.2.2.1 33 = .ok (.isub, 1) := by decide +kernel
theorem dX7_keep_34 : decode M_X7_keep.2.2.1 34 = .ok (.iconst 1, 1) := by decide +kernel
theorem dX7_keep_35 : decode M_X7_keep.2.2.1 35 = .ok (.iadd, 1) := by decide +kernel
theorem dX7_keep_36 : decode M_X7_keep.2.2.1 36 = .ok (.iadd, 1) := by decide +kernel
theorem dX7_keep_37 : decode M_X7_keep.2.2.1 37 = .ok (.putfield 9, 3) := by decide +kernel
theorem dX7_keep_40 : decode M_X7_keep.2.2.1 40 = .ok (.return_, 1) := by decide +kernel
theorem dX7_narrow_0 : decode M_X7_narrow.2.2.1 0 = .ok (.iload_n 1, 1) := by decide +kernel
theorem dX7_narrow_1 : decode M_X7_narrow.2.2.1 1 = .ok (.ifCond .le 10, 3) := by decide +kernel
theorem dX7_narrow_4 : decode M_X7_narrow.2.2.1 4 = .ok (.bipush 64, 2) := by decide +kernel
theorem dX7_narrow_6 : decode M_X7_narrow.2.2.1 6 = .ok (.iload_n 1, 1) := by decide +kernel
theorem dX7_narrow_7 : decode M_X7_narrow.2.2.1 7 = .ok (.imul, 1) := by decide +kernel
theorem dX7_narrow_8 : decode M_X7_narrow.2.2.1 8 = .ok (.goto 10, 3) := by decide +kernel
theorem dX7_narrow_11 : decode M_X7_narrow.2.2.1 11 = .ok (.bipush 64, 2) := by decide +kernel
theorem dX7_narrow_13 : decode M_X7_narrow.2.2.1 13 = .ok (.iload_n 1, 1) := by decide +kernel
theorem dX7_narrow_14 : decode M_X7_narrow.2.2.1 14 = .ok (.imul, 1) := by decide +kernel
theorem dX7_narrow_15 : decode M_X7_narrow.2.2.1 15 = .ok (.bipush 63, 2) := by decide +kernel
theorem dX7_narrow_17 : decode M_X7_narrow.2.2.1 17 = .ok (.isub, 1) := by decide +kernel
theorem dX7_narrow_18 : decode M_X7_narrow.2.2.1 18 = .ok (.iload_n 2, 1) := by decide +kernel
theorem dX7_narrow_19 : decode M_X7_narrow.2.2.1 19 = .ok (.isub, 1) := by decide +kernel
theorem dX7_narrow_20 : decode M_X7_narrow.2.2.1 20 = .ok (.istore 4, 2) := by decide +kernel
theorem dX7_narrow_22 : decode M_X7_narrow.2.2.1 22 = .ok (.iload_n 1, 1) := by decide +kernel
theorem dX7_narrow_23 : decode M_X7_narrow.2.2.1 23 = .ok (.ifCond .ge 10, 3) := by decide +kernel
theorem dX7_narrow_26 : decode M_X7_narrow.2.2.1 26 = .ok (.bipush 64, 2) := by decide +kernel
theorem dX7_narrow_28 : decode M_X7_narrow.2.2.1 28 = .ok (.iload_n 1, 1) := by decide +kernel
theorem dX7_narrow_29 : decode M_X7_narrow.2.2.1 29 = .ok (.imul, 1) := by decide +kernel
theorem dX7_narrow_30 : decode M_X7_narrow.2.2.1 30 = .ok (.goto 10, 3) := by decide +kernel
theorem dX7_narrow_33 : decode M_X7_narrow.2.2.1 33 = .ok (.bipush 64, 2) := by decide +kernel
theorem dX7_narrow_35 : decode M_X7_narrow.2.2.1 35 = .ok (.iload_n 1, 1) := by decide +kernel
theorem dX7_narrow_36 : decode M_X7_narrow.2.2.1 36 = .ok (.imul, 1) := by decide +kernel
theorem dX7_narrow_37 : decode M_X7_narrow.2.2.1 37 = .ok (.bipush 63, 2) := by decide +kernel
theorem dX7_narrow_39 : decode M_X7_narrow.2.2.1 39 = .ok (.iadd, 1) := by decide +kernel
theorem dX7_narrow_40 : decode M_X7_narrow.2.2.1 40 = .ok (.iload_n 2, 1) := by decide +kernel
theorem dX7_narrow_41 : decode M_X7_narrow.2.2.1 41 = .ok (.isub, 1) := by decide +kernel
theorem dX7_narrow_42 : decode M_X7_narrow.2.2.1 42 = .ok (.istore 5, 2) := by decide +kernel
theorem dX7_narrow_44 : decode M_X7_narrow.2.2.1 44 = .ok (.iload_n 3, 1) := by decide +kernel
theorem dX7_narrow_45 : decode M_X7_narrow.2.2.1 45 = .ok (.ifCond .le 15, 3) := by decide +kernel
theorem dX7_narrow_48 : decode M_X7_narrow.2.2.1 48 = .ok (.aload_n 0, 1) := by decide +kernel
theorem dX7_narrow_49 : decode M_X7_narrow.2.2.1 49 = .ok (.iload 4, 2) := by decide +kernel
theorem dX7_narrow_51 : decode M_X7_narrow.2.2.1 51 = .ok (.iload 5, 2) := by decide +kernel
theorem dX7_narrow_53 : decode M_X7_narrow.2.2.1 53 = .ok (.iload_n 3, 1) := by decide +kernel
theorem dX7_narrow_54 : decode M_X7_narrow.2.2.1 54 = .ok (.invokevirtual 44, 3) := by decide +kernel
theorem dX7_narrow_57 : decode M_X7_narrow.2.2.1 57 = .ok (.goto 42, 3) := by decide +kernel
theorem dX7_narrow_60 : decode M_X7_narrow.2.2.1 60 = .ok (.iload_n 3, 1) := by decide +kernel
theorem dX7_narrow_61 : decode M_X7_narrow.2.2.1 61 = .ok (.ifCond .ge 18, 3) := by decide +kernel
theorem dX7_narrow_64 : decode M_X7_narrow.2.2.1 64 = .ok (.aload_n 0, 1) := by decide +kernel
theorem dX7_narrow_65 : decode M_X7_narrow.2.2.1 65 = .ok (.iload 5, 2) := by decide +kernel
theorem dX7_narrow_67 : decode M_X7_narrow.2.2.1 67 = .ok (.ineg, 1) := by decide +kernel
theorem dX7_narrow_68 : decode M_X7_narrow.2.2.1 68 = .ok (.iload 4, 2) := by decide +kernel
theorem dX7_narrow_70 : decode M_X7_narrow.2.2.1 70 = .ok (.ineg, 1) := by decide +kernel
theorem dX7_narrow_71 : decode M_X7_narrow.2.2.1 71 = .ok (.iload_n 3, 1) := by decide +kernel
theorem dX7_narrow_72 : decode M_X7_narrow.2.2.1 72 = .ok (.ineg, 1) := by decide +kernel
theorem dX7_narrow_73 : decode M_X7_narrow.2.2.1 73 = .ok (.invokevirtual 44, 3) := by decide +kernel
theorem dX7_narrow_76 : decode M_X7_narrow.2.2.1 76 = .ok (.goto 23, 3) := by decide +kernel
theorem dX7_narrow_79 : decode M_X7_narrow.2.2.1 79 = .ok (.iload 4, 2) := by decide +kernel
theorem dX7_narrow_81 : decode M_X7_narrow.2.2.1 81 = .ok (.ifCond .gt 8, 3) := by decide +kernel
theorem dX7_narrow_84 : decode M_X7_narrow.2.2.1 84 = .ok (.iload 5, 2) := by decide +kernel
theorem dX7_narrow_86 : decode M_X7_narrow.2.2.1 86 = .ok (.ifCond .ge 13, 3) := by decide +kernel
theorem dX7_narrow_89 : decode M_X7_narrow.2.2.1 89 = .ok (.aload_n 0, 1) := by decide +kernel
theorem dX7_narrow_90 : decode M_X7_narrow.2.2.1 90 = .ok (.aload_n 0, 1) := by decide +kernel
theorem dX7_narrow_91 : decode M_X7_narrow.2.2.1 91 = .ok (.getfield 21, 3) := by decide +kernel
theorem dX7_narrow_94 : decode M_X7_narrow.2.2.1 94 = .ok (.iconst 1, 1) := by decide +kernel
theorem dX7_narrow_95 : decode M_X7_narrow.2.2.1 95 = .ok (.isub, 1) := by decide +kernel
theorem dX7_narrow_96 : decode M_X7_narrow.2.2.1 96 = .ok (.putfield 24, 3) := by decide +kernel
theorem dX7_narrow_99 : decode M_X7_narrow.2.2.1 99 = .ok (.return_, 1) := by decide +kernel
theorem dX7_keepBetween_0 : decode M_X7_keepBetween.2.2.1 0 = .ok (.iload_n 3, 1) := by decide +kernel
theorem dX7_keepBetween_1 : decode M_X7_keepBetween.2.2.1 1 = .ok (.ifCond .le 37, 3) := by decide +kernel
theorem dX7_keepBetween_4 : decode M_X7_keepBetween.2.2.1 4 = .ok (.aload_n 0, 1) := by decide +kernel
theorem dX7_keepBetween_5 : decode M_X7_keepBetween.2.2.1 5 = .ok (.aload_n 0, 1) := by decide +kernel
theorem dX7_keepBetween_6 : decode M_X7_keepBetween.2.2.1 6 = .ok (.getfield 21, 3) := by decide +kernel
theorem dX7_keepBetween_9 : decode M_X7_keepBetween.2.2.1 9 = .ok (.iload_n 1, 1) := by decide +kernel
theorem dX7_keepBetween_10 : decode M_X7_keepBetween.2.2.1 10 = .ok (.ineg, 1) := by decide +kernel
theorem dX7_keepBetween_11 : decode M_X7_keepBetween.2.2.1 11 = .ok (.iload_n 3, 1) := by decide +kernel
theorem dX7_keepBetween_12 : decode M_X7_keepBetween.2.2.1 12 = .ok (.invokestatic 47, 3) := by decide +kernel
theorem dX7_keepBetween_15 : decode M_X7_keepBetween.2.2.1 15 = .ok (.ineg, 1) := by decide +kernel
theorem dX7_keepBetween_16 : decode M_X7_keepBetween.2.2.1 16 = .ok (.invokestatic 53, 3) := by decide +kernel
theorem dX7_keepBetween_19 : decode M_X7_keepBetween.2.2.1 19 = .ok (.putfield 21, 3) := by decide +kernel
theorem dX7_keepBetween_22 : decode M_X7_keepBetween.2.2.1 22 = .ok (.aload_n 0, 1) := by decide +kernel
theorem dX7_keepBetween_23 : decode M_X7_keepBetween.2.2.1 23 = .ok (.aload_n 0, 1) := by decide +kernel
theorem dX7_keepBetween_24 : decode M_X7_keepBetween.2.2.1 24 = .ok (.getfield 24, 3) := by decide +kernel
theorem dX7_keepBetween_27 : decode M_X7_keepBetween.2.2.1 27 = .ok (.iload_n 2, 1) := by decide +kernel
theorem dX7_keepBetween_28 : decode M_X7_keepBetween.2.2.1 28 = .ok (.iload_n 3, 1) := by decide +kernel
theorem dX7_keepBetween_29 : decode M_X7_keepBetween.2.2.1 29 = .ok (.invokestatic 47, 3) := by decide +kernel
theorem dX7_keepBetween_32 : decode M_X7_keepBetween.2.2.1 32 = .ok (.invokestatic 56, 3) := by decide +kernel
theorem dX7_keepBetween_35 : decode M_X7_keepBetween.2.2.1 35 = .ok (.putfield 24, 3) := by decide +kernel
theorem dX7_keepBetween_38 : decode M_X7_keepBetween.2.2.1 38 = .ok (.return_, 1) := by decide +kernel
theorem dX8_init_0 : decode M_X8_init.2.2.1 0 = .ok (.aload_n 0, 1) := by decide +kernel
theorem dX8_init_1 : decode M_X8_init.2.2.1 1 = .ok (.invokespecial 3, 3) := by decide +kernel
theorem dX8_init_4 : decode M_X8_init.2.2.1 4 = .ok (.aload_n 0, 1) := by decide +kernel
theorem dX8_init_5 : decode M_X8_init.2.2.1 5 = .ok (.sipush 600, 3) := by decide +kernel
theorem dX8_init_8 : decode M_X8_init.2.2.1 8 = .ok (.newarray .int, 2) := by decide +kernel
theorem dX8_init_10 : decode M_X8_init.2.2.1 10 = .ok (.putfield 9, 3) := by decide +kernel
theorem dX8_init_13 : decode M_X8_init.2.2.1 13 = .ok (.aload_n 0, 1) := by decide +kernel
theorem dX8_init_14 : decode M_X8_init.2.2.1 14 = .ok (.bipush 40, 2) := by decide +kernel
theorem dX8_init_16 : decode M_X8_init.2.2.1 16 = .ok (.newarray .int, 2) := by decide +kernel
theorem dX8_init_18 : decode M_X8_init.2.2.1 18 = .ok (.putfield 15, 3) := by decide +kernel
theorem dX8_init_21 : decode M_X8_init.2.2.1 21 = .ok (.return_, 1) := by decide +kernel
theorem dX8_clear_0 : decode M_X8_clear.2.2.1 0 = .ok (.aload_n 0, 1) := by decide +kernel
theorem dX8_clear_1 : decode M_X8_clear.2.2.1 1 = .ok (.iconst 0, 1) := by decide +kernel
theorem dX8_clear_2 : decode M_X8_clear.2.2.1 2 = .ok (.putfield 18, 3) := by decide +kernel
theorem dX8_clear_5 : decode M_X8_clear.2.2.1 5 = .ok (.aload_n 0, 1) := by decide +kernel
theorem dX8_clear_6 : decode M_X8_clear.2.2.1 6 = .ok (.iconst 0, 1) := by decide +kernel
theorem dX8_clear_7 : decode M_X8_clear.2.2.1 7 = .ok (.putfield 22, 3) := by decide +kernel
theorem dX8_clear_10 : decode M_X8_clear.2.2.1 10 = .ok (.return_, 1) := by decide +kernel
theorem dX8_add_0 : decode M_X8_add.2.2.1 0 = .ok (.aload_n 0, 1) := by decide +kernel
theorem dX8_add_1 : decode M_X8_add.2.2.1 1 = .ok (.getfield 18, 3) := by decide +kernel
theorem dX8_add_4 : decode M_X8_add.2.2.1 4 = .ok (.aload_n 0, 1) := by decide +kernel
theorem dX8_add_5 : decode M_X8_add.2.2.1 5 = .ok (.getfield 9, 3) := by decide +kernel
theorem dX8_add_8 : decode M_X8_add.2.2.1 8 = .ok (.arraylength, 1) := by decide +kernel
theorem dX8_add_9 : decode M_X8_add.2.2.1 9 = .ok (.if_icmp .ge 23, 3) := by decide +kernel
theorem dX8_add_12 : decode M_X8_add.2.2.1 12 = .ok (.aload_n 0, 1) := by decide +kernel
theorem dX8_add_13 : decode M_X8_add.2.2.1 13 = .ok (.getfield 9, 3) := by decide +kernel
theorem dX8_add_16 : decode M_X8_add.2.2.1 16 = .ok (.aload_n 0, 1) := by decide +kernel
theorem dX8_add_17 : decode M_X8_add.2.2.1 17 = .ok (.getfield 18, 3) := by decide +kernel
theorem dX8_add_20 : decode M_X8_add.2.2.1 20 = .ok (.iload_n 1, 1) := by decide +kernel
theorem dX8_add_21 : decode M_X8_add.2.2.1 21 = .ok (.iastore, 1) := by decide +kernel
theorem dX8_add_22 : decode M_X8_add.2.2.1 22 = .ok (.aload_n 0, 1) := by decide +kernel
theorem dX8_add_23 : decode M_X8_add.2.2.1 23 = .ok (.dup, 1) := by decide +kernel
theorem dX8_add_24 : decode M_X8_add.2.2.1 24 = .ok (.getfield 18, 3) := by decide +kernel
theorem dX8_add_27 : decode M_X8_add.2.2.1 27 = .ok (.iconst 1, 1) := by decide +kernel
theorem dX8_add_28 : decode M_X8_add.2.2.1 28 = .ok (.iadd, 1) := by decide +kernel
theorem dX8_add_29 : decode M_X8_add.2.2.1 29 = .ok (.putfield 18, 3) := by decide +kernel
theorem dX8_add_32 : decode M_X8_add.2.2.1 32 = .ok (.return_, 1) := by decide +kernel
theorem dX8_closeLine_0 : decode M_X8_closeLine.2.2.1 0 = .ok (.aload_n 0, 1) := by decide +kernel
theorem dX8_closeLine_1 : decode M_X8_closeLine.2.2.1 1 = .ok (.sipush 20000, 3) := by decide +kernel
theorem dX8_closeLine_4 : decode M_X8_closeLine.2.2.1 4 = .ok (.iload_n 1, 1) := by decide +kernel
theorem dX8_closeLine_5 : decode M_X8_closeLine.2.2.1 5 = .ok (.iadd, 1) := by decide +kernel
theorem dX8_closeLine_6 : decode M_X8_closeLine.2.2.1 6 = .ok (.invokevirtual 25, 3) := by decide +kernel
theorem dX8_closeLine_9 : decode M_X8_closeLine.2.2.1 9 = .ok (.aload_n 0, 1) := by decide +kernel
theorem dX8_closeLine_10 : decode M_X8_closeLine.2.2.1 10 = .ok (.dup, 1) := by decide +kernel
theorem dX8_closeLine_11 : decode M_X8_closeLine.2.2.1 11 = .ok (.getfield 22, 3) := by decide +kernel
theorem dX8_closeLine_14 : decode M_X8_closeLine.2.2.1 14 = .ok (.iconst 1, 1) := by decide +kernel
theorem dX8_closeLine_15 : decode M_X8_closeLine.2.2.1 15 = .ok (.iadd, 1) := by decide +kernel
theorem dX8_closeLine_16 : decode M_X8_closeLine.2.2.1 16 = .ok (.putfield 22, 3) := by decide +kernel
theorem dX8_closeLine_19 : decode M_X8_closeLine.2.2.1 19 = .ok (.return_, 1) := by decide +kernel
theorem dX8_judge_0 : decode M_X8_judge.2.2.1 0 = .ok (.aload_n 0, 1) := by decide +kernel
theorem dX8_judge_1 : decode M_X8_judge.2.2.1 1 = .ok (.iconst 0, 1) := by decide +kernel
theorem dX8_judge_2 : decode M_X8_judge.2.2.1 2 = .ok (.putfield 29, 3) := by decide +kernel
theorem dX8_judge_5 : decode M_X8_judge.2.2.1 5 = .ok (.iconst 0, 1) := by decide +kernel
theorem dX8_judge_6 : decode M_X8_judge.2.2.1 6 = .ok (.istore_n 2, 1) := by decide +kernel
theorem dX8_judge_7 : decode M_X8_judge.2.2.1 7 = .ok (.iload_n 2, 1) := by decide +kernel
theorem dX8_judge_8 : decode M_X8_judge.2.2.1 8 = .ok (.aload_n 0, 1) := by decide +kernel
theorem dX8_judge_9 : decode M_X8_judge.2.2.1 9 = .ok (.getfield 18, 3) := by decide +kernel
theorem dX8_judge_12 : decode M_X8_judge.2.2.1 12 = .ok (.if_icmp .ge 64, 3) := by decide +kernel
theorem dX8_judge_15 : decode M_X8_judge.2.2.1 15 = .ok (.aload_n 0, 1) := by decide +kernel
theorem dX8_judge_16 : decode M_X8_judge.2.2.1 16 = .ok (.getfield 9, 3) := by decide +kernel
theorem dX8_judge_19 : decode M_X8_judge.2.2.1 19 = .ok (.iload_n 2, 1) := by decide +kernel
theorem dX8_judge_20 : decode M_X8_judge.2.2.1 20 = .ok (.iaload, 1) := by decide +kernel
theorem dX8_judge_21 : decode M_X8_judge.2.2.1 21 = .ok (.istore_n 3, 1) := by decide +kernel
theorem dX8_judge_22 : decode M_X8_judge.2.2.1 22 = .ok (.iload_n 3, 1) := by decide +kernel
theorem dX8_judge_23 : decode M_X8_judge.2.2.1 23 = .ok (.sipush 10000, 3) := by decide +kernel
theorem dX8_judge_26 : decode M_X8_judge.2.2.1 26 = .ok (.if_icmp .ge 11, 3) := by decide +kernel
theorem dX8_judge_29 : decode M_X8_judge.2.2.1 29 = .ok (.aload_n 0, 1) := by decide +kernel
theorem dX8_judge_30 : decode M_X8_judge.2.2.1 30 = .ok (.iload_n 3, 1) := by decide +kernel
theorem dX8_judge_31 : decode M_X8_judge.2.2.1 31 = .ok (.invokevirtual 32, 3) := by decide +kernel
theorem dX8_judge_34 : decode M_X8_judge.2.2.1 34 = .ok (.goto 36, 3) := by decide +kernel
theorem dX8_judge_37 : decode M_X8_judge.2.2.1 37 = .ok (.iload_n 3, 1) := by decide +kernel
theorem dX8_judge_38 : decode M_X8_judge.2.2.1 38 = .ok (.sipush 20000, 3) := by decide +kernel
theorem dX8_judge_41 : decode M_X8_judge.2.2.1 41 = .ok (.if_icmp .ge 16, 3) := by decide +kernel
theorem dX8_judge_44 : decode M_X8_judge.2.2.1 44 = .ok (.aload_n 0, 1) := by decide +kernel
theorem dX8_judge_45 : decode M_X8_judge.2.2.1 45 = .ok (.iload_n 3, 1) := by decide +kernel
theorem dX8_judge_46 : decode M_X8_judge.2.2.1 46 = .ok (.sipush 10000, 3) := by decide +kernel
theorem dX8_judge_49 : decode M_X8_judge.2.2.1 49 = .ok (.isub, 1) := by decide +kernel
theorem dX8_judge_50 : decode M_X8_judge.2.2.1 50 = .ok (.aload_n 1, 1) := by decide +kernel
theorem dX8_judge_51 : decode M_X8_judge.2.2.1 51 = .ok (.invokevirtual 35, 3) := by decide +kernel
theorem dX8_judge_54 : decode M_X8_judge.2.2.1 54 = .ok (.goto 16, 3) := by decide +kernel
theorem dX8_judge_57 : decode M_X8_judge.2.2.1 57 = .ok (.aload_n 0, 1) := by decide +kernel
theorem dX8_judge_58 : decode M_X8_judge.2.2.1 58 = .ok (.invokevirtual 39, 3) := by decide +kernel
theorem dX8_judge_61 : decode M_X8_judge.2.2.1 61 = .ok (.ifCond .eq 9, 3) := by decide +kernel
theorem dX8_judge_64 : decode M_X8_judge.2.2.1 64 = .ok (.iload_n 3, 1) := by decide +kernel
theorem dX8_judge_65 : decode M_X8_judge.2.2.1 65 = .ok (.sipush 20000, 3) := by decide +kernel
theorem dX8_judge_68 : decode M_X8_judge.2.2.1 68 = .ok (.isub, 1) := by decide +kernel
theorem dX8_judge_69 : decode M_X8_judge.2.2.1 69 = .ok (.ireturn, 1) := by decide +kernel
theorem dX8_judge_70 : decode M_X8_judge.2.2.1 70 = .ok (.iinc 2 1, 3) := by decide +kernel
theorem dX8_judge_73 : decode M_X8_judge.2.2.1 73 = .ok (.goto (-66), 3) := by decide +kernel
theorem dX8_judge_76 : decode M_X8_judge.2.2.1 76 = .ok (.iconst 0, 1) := by decide +kernel
theorem dX8_judge_77 : decode M_X8_judge.2.2.1 77 = .ok (.ireturn, 1) := by decide +kernel
theorem dX8_operate_0 : decode M_X8_operate.2.2.1 0 = .ok (.iload_n 1, 1) := by decide +kernel
theorem dX8_operate_1 : decode M_X8_operate.2.2.1 1 = .ok (.bipush 7, 2) := by decide +kernel
theorem dX8_operate_3 : decode M_X8_operate.2.2.1 3 = .ok (.if_icmp .lt 24, 3) := by decide +kernel
theorem dX8_operate_6 : decode M_X8_operate.2.2.1 6 = .ok (.iload_n 1, 1) := by decide +kernel
theorem dX8_operate_7 : decode M_X8_operate.2.2.1 7 = .ok (.bipush 13, 2) := by decide +kernel
theorem dX8_operate_9 : decode M_X8_operate.2.2.1 9 = .ok (.if_icmp .gt 18, 3) := by decide +kernel
theorem dX8_operate_12 : decode M_X8_operate.2.2.1 12 = .ok (.aload_n 0, 1) := by decide +kernel
theorem dX8_operate_13 : decode M_X8_operate.2.2.1 13 = .ok (.aload_n 2, 1) := by decide +kernel
theorem dX8_operate_14 : decode M_X8_operate.2.2.1 14 = .ok (.iload_n 1, 1) := by decide +kernel
theorem dX8_operate_15 : decode M_X8_operate.2.2.1 15 = .ok (.bipush 7, 2) := by decide +kernel
theorem dX8_operate_17 : decode M_X8_operate.2.2.1 17 = .ok (.isub, 1) := by decide +kernel
theorem dX8_operate_18 : decode M_X8_operate.2.2.1 18 = .ok (.invokevirtual 45, 3) := by decide +kernel
theorem dX8_operate_21 : decode M_X8_operate.2.2.1 21 = .ok (.invokevirtual 32, 3) := by decide +kernel
theorem dX8_operate_24 : decode M_X8_operate.2.2.1 24 = .ok (.goto 44, 3) := by decide +kernel
theorem dX8_operate_27 : decode M_X8_operate.2.2.1 27 = .ok (.iload_n 1, 1) := by decide +kernel
theorem dX8_operate_28 : decode M_X8_operate.2.2.1 28 = .ok (.bipush 6, 2) := by decide +kernel
theorem dX8_operate_30 : decode M_X8_operate.2.2.1 30 = .ok (.if_icmp .ne 16, 3) := by decide +kernel
theorem dX8_operate_33 : decode M_X8_operate.2.2.1 33 = .ok (.aload_n 0, 1) := by decide +kernel
theorem dX8_operate_34 : decode M_X8_operate.2.2.1 34 = .ok (.iconst 1, 1) := by decide +kernel
theorem dX8_operate_35 : decode M_X8_operate.2.2.1 35 = .ok (.aload_n 0, 1) := by decide +kernel
theorem dX8_operate_36 : decode M_X8_operate.2.2.1 36 = .ok (.invokevirtual 39, 3) := by decide +kernel
theorem dX8_operate_39 : decode M_X8_operate.2.2.1 39 = .ok (.isub, 1) := by decide +kernel
theorem dX8_operate_40 : decode M_X8_operate.2.2.1 40 = .ok (.invokevirtual 32, 3) := by decide +kernel
theorem dX8_operate_43 : decode M_X8_operate.2.2.1 43 = .ok (.goto 25, 3) := by decide +kernel
theorem dX8_operate_46 : decode M_X8_operate.2.2.1 46 = .ok (.aload_n 0, 1) := by decide +kernel
theorem dX8_operate_47 : decode M_X8_operate.2.2.1 47 = .ok (.invokevirtual 39, 3) := by decide +kernel
theorem dX8_operate_50 : decode M_X8_operate.2.2.1 50 = .ok (.istore_n 3, 1) := by decide +kernel
theorem dX8_operate_51 : decode M_X8_operate.2.2.1 51 = .ok (.aload_n 0, 1) := by decide +kernel
theorem dX8_operate_52 : decode M_X8_operate.2.2.1 52 = .ok (.invokevirtual 39, 3) := by decide +kernel
theorem dX8_operate_55 : decode M_X8_operate.2.2.1 55 = .ok (.istore 4, 2) := by decide +kernel
theorem dX8_operate_57 : decode M_X8_operate.2.2.1 57 = .ok (.aload_n 0, 1) := by decide +kernel
theorem dX8_operate_58 : decode M_X8_operate.2.2.1 58 = .ok (.iload_n 1, 1) := by decide +kernel
theorem dX8_operate_59 : decode M_X8_operate.2.2.1 59 = .ok (.iload 4, 2) := by decide +kernel
theorem dX8_operate_61 : decode M_X8_operate.2.2.1 61 = .ok (.iload_n 3, 1) := by decide +kernel
theorem dX8_operate_62 : decode M_X8_operate.2.2.1 62 = .ok (.invokestatic 51, 3) := by decide +kernel
theorem dX8_operate_65 : decode M_X8_operate.2.2.1 65 = .ok (.invokevirtual 32, 3) := by decide +kernel
theorem dX8_operate_68 : decode M_X8_operate.2.2.1 68 = .ok (.return_, 1) := by decide +kernel
theorem dX8_join_0 : decode M_X8_join.2.2.1 0 = .ok (.iload_n 0, 1) := by decide +kernel
theorem dX8_join_1 : decode M_X8_join.2.2.1 1 = .ok (.lookupswitch 148 #[(4, 83), (5, 87), (142, 132), (143, 124), (145, 128), (147, 136), (160, 91), (161, 102), (162, 113)], 83) := by decide +kernel
theorem dX8_join_84 : decode M_X8_join.2.2.1 84 = .ok (.iload_n 1, 1) := by decide +kernel
theorem dX8_join_85 : decode M_X8_join.2.2.1 85 = .ok (.iload_n 2, 1) := by decide +kernel
theorem dX8_join_86 : decode M_X8_join.2.2.1 86 = .ok (.ior, 1) := by decide +kernel
theorem dX8_join_87 : decode M_X8_join.2.2.1 87 = .ok (.ireturn, 1) := by decide +kernel
theorem dX8_join_88 : decode M_X8_join.2.2.1 88 = .ok (.iload_n 1, 1) := by decide +kernel
theorem dX8_join_89 : decode M_X8_join.2.2.1 89 = .ok (.iload_n 2, 1) := by decide +kernel
theorem dX8_join_90 : decode M_X8_join.2.2.1 90 = .ok (.iand, 1) := by decide +kernel
theorem dX8_join_91 : decode M_X8_join.2.2.1 91 = .ok (.ireturn, 1) := by decide +kernel
theorem dX8_join_92 : decode M_X8_join.2.2.1 92 = .ok (.iload_n 1, 1) := by decide +kernel
theorem dX8_join_93 : decode M_X8_join.2.2.1 93 = .ok (.iload_n 2, 1) := by decide +kernel
theorem dX8_join_94 : decode M_X8_join.2.2.1 94 = .ok (.if_icmp .ge 7, 3) := by decide +kernel
theorem dX8_join_97 : decode M_X8_join.2.2.1 97 = .ok (.iconst 1, 1) := by decide +kernel
theorem dX8_join_98 : decode M_X8_join.2.2.1 98 = .ok (.goto 4, 3) := by decide +kernel
theorem dX8_join_101 : decode M_X8_join.2.2.1 101 = .ok (.iconst 0, 1) := by decide +kernel
theorem dX8_join_102 : decode M_X8_join.2.2.1 102 = .ok (.ireturn, 1) := by decide +kernel
theorem dX8_join_103 : decode M_X8_join.2.2.1 103 = .ok (.iload_n 1, 1) := by decide +kernel
theorem dX8_join_104 : decode M_X8_join.2.2.1 104 = .ok (.iload_n 2, 1) := by decide +kernel
theorem dX8_join_105 : decode M_X8_join.2.2.1 105 = .ok (.if_icmp .ne 7, 3) := by decide +kernel
theorem dX8_join_108 : decode M_X8_join.2.2.1 108 = .ok (.iconst 1, 1) := by decide +kernel
theorem dX8_join_109 : decode M_X8_join.2.2.1 109 = .ok (.goto 4, 3) := by decide +kernel
theorem dX8_join_112 : decode M_X8_join.2.2.1 112 = .ok (.iconst 0, 1) := by decide +kernel
theorem dX8_join_113 : decode M_X8_join.2.2.1 113 = .ok (.ireturn, 1) := by decide +kernel
theorem dX8_join_114 : decode M_X8_join.2.2.1 114 = .ok (.iload_n 1, 1) := by decide +kernel
theorem dX8_join_115 : decode M_X8_join.2.2.1 115 = .ok (.iload_n 2, 1) := by decide +kernel
theorem dX8_join_116 : decode M_X8_join.2.2.1 116 = .ok (.if_icmp .le 7, 3) := by decide +kernel
theorem dX8_join_119 : decode M_X8_join.2.2.1 119 = .ok (.iconst 1, 1) := by decide +kernel
theorem dX8_join_120 : decode M_X8_join.2.2.1 120 = .ok (.goto 4, 3) := by decide +kernel
theorem dX8_join_123 : decode M_X8_join.2.2.1 123 = .ok (.iconst 0, 1) := by decide +kernel
theorem dX8_join_124 : decode M_X8_join.2.2.1 124 = .ok (.ireturn, 1) := by decide +kernel
theorem dX8_join_125 : decode M_X8_join.2.2.1 125 = .ok (.iload_n 1, 1) := by decide +kernel
theorem dX8_join_126 : decode M_X8_join.2.2.1 126 = .ok (.iload_n 2, 1) := by decide +kernel
theorem dX8_join_127 : decode M_X8_join.2.2.1 127 = .ok (.iadd, 1) := by decide +kernel
theorem dX8_join_128 : decode M_X8_join.2.2.1 128 = .ok (.ireturn, 1) := by decide +kernel
theorem dX8_join_129 : decode M_X8_join.2.2.1 129 = .ok (.iload_n 1, 1) := by decide +kernel
theorem dX8_join_130 : decode M_X8_join.2.2.1 130 = .ok (.iload_n 2, 1) := by decide +kernel
theorem dX8_join_131 : decode M_X8_join.2.2.1 131 = .ok (.isub, 1) := by decide +kernel
theorem dX8_join_132 : decode M_X8_join.2.2.1 132 = .ok (.ireturn, 1) := by decide +kernel
theorem dX8_join_133 : decode M_X8_join.2.2.1 133 = .ok (.iload_n 1, 1) := by decide +kernel
theorem dX8_join_134 : decode M_X8_join.2.2.1 134 = .ok (.iload_n 2, 1) := by decide +kernel
theorem dX8_join_135 : decode M_X8_join.2.2.1 135 = .ok (.imul, 1) := by decide +kernel
theorem dX8_join_136 : decode M_X8_join.2.2.1 136 = .ok (.ireturn, 1) := by decide +kernel
theorem dX8_join_137 : decode M_X8_join.2.2.1 137 = .ok (.iload_n 2, 1) := by decide +kernel
theorem dX8_join_138 : decode M_X8_join.2.2.1 138 = .ok (.ifCond .ne 7, 3) := by decide +kernel
theorem dX8_join_141 : decode M_X8_join.2.2.1 141 = .ok (.iconst 0, 1) := by decide +kernel
theorem dX8_join_142 : decode M_X8_join.2.2.1 142 = .ok (.goto 6, 3) := by decide +kernel
theorem dX8_join_145 : decode M_X8_join.2.2.1 145 = .ok (.iload_n 1, 1) := by decide +kernel
theorem dX8_join_146 : decode M_X8_join.2.2.1 146 = .ok (.iload_n 2, 1) := by decide +kernel
theorem dX8_join_147 : decode M_X8_join.2.2.1 147 = .ok (.idiv, 1) := by decide +kernel
theorem dX8_join_148 : decode M_X8_join.2.2.1 148 = .ok (.ireturn, 1) := by decide +kernel
theorem dX8_join_149 : decode M_X8_join.2.2.1 149 = .ok (.iconst 0, 1) := by decide +kernel
theorem dX8_join_150 : decode M_X8_join.2.2.1 150 = .ok (.ireturn, 1) := by decide +kernel
theorem dX8_push_0 : decode M_X8_push.2.2.1 0 = .ok (.aload_n 0, 1) := by decide +kernel
theorem dX8_push_1 : decode M_X8_push.2.2.1 1 = .ok (.getfield 29, 3) := by decide +kernel
theorem dX8_push_4 : decode M_X8_push.2.2.1 4 = .ok (.aload_n 0, 1) := by decide +kernel
theorem dX8_push_5 : decode M_X8_push.2.2.1 5 = .ok (.getfield 15, 3) := by decide +kernel
theorem dX8_push_8 : decode M_X8_push.2.2.1 8 = .ok (.arraylength, 1) := by decide +kernel
theorem dX8_push_9 : decode M_X8_push.2.2.1 9 = .ok (.if_icmp .ge 23, 3) := by decide +kernel
theorem dX8_push_12 : decode M_X8_push.2.2.1 12 = .ok (.aload_n 0, 1) := by decide +kernel
theorem dX8_push_13 : decode M_X8_push.2.2.1 13 = .ok (.getfield 15, 3) := by decide +kernel
theorem dX8_push_16 : decode M_X8_push.2.2.1 16 = .ok (.aload_n 0, 1) := by decide +kernel
theorem dX8_push_17 : decode M_X8_push.2.2.1 17 = .ok (.getfield 29, 3) := by decide +kernel
theorem dX8_push_20 : decode M_X8_push.2.2.1 20 = .ok (.iload_n 1, 1) := by decide +kernel
theorem dX8_push_21 : decode M_X8_push.2.2.1 21 = .ok (.iastore, 1) := by decide +kernel
theorem dX8_push_22 : decode M_X8_push.2.2.1 22 = .ok (.aload_n 0, 1) := by decide +kernel
theorem dX8_push_23 : decode M_X8_push.2.2.1 23 = .ok (.dup, 1) := by decide +kernel
theorem dX8_push_24 : decode M_X8_push.2.2.1 24 = .ok (.getfield 29, 3) := by decide +kernel
theorem dX8_push_27 : decode M_X8_push.2.2.1 27 = .ok (.iconst 1, 1) := by decide +kernel
theorem dX8_push_28 : decode M_X8_push.2.2.1 28 = .ok (.iadd, 1) := by decide +kernel
theorem dX8_push_29 : decode M_X8_push.2.2.1 29 = .ok (.putfield 29, 3) := by decide +kernel
theorem dX8_push_32 : decode M_X8_push.2.2.1 32 = .ok (.return_, 1) := by decide +kernel
theorem dX8_pop_0 : decode M_X8_pop.2.2.1 0 = .ok (.aload_n 0, 1) := by decide +kernel
theorem dX8_pop_1 : decode M_X8_pop.2.2.1 1 = .ok (.getfield 29, 3) := by decide +kernel
theorem dX8_pop_4 : decode M_X8_pop.2.2.1 4 = .ok (.ifCond .gt 5, 3) := by decide +kernel
theorem dX8_pop_7 : decode M_X8_pop.2.2.1 7 = .ok (.iconst 0, 1) := by decide +kernel
theorem dX8_pop_8 : decode M_X8_pop.2.2.1 8 = .ok (.ireturn, 1) := by decide +kernel
theorem dX8_pop_9 : decode M_X8_pop.2.2.1 9 = .ok (.aload_n 0, 1) := by decide +kernel
theorem dX8_pop_10 : decode M_X8_pop.2.2.1 10 = .ok (.dup, 1) := by decide +kernel
theorem dX8_pop_11 : decode M_X8_pop.2.2.1 11 = .ok (.getfield 29, 3) := by decide +kernel
theorem dX8_pop_14 : decode M_X8_pop.2.2.1 14 = .ok (.iconst 1, 1) := by decide +kernel
theorem dX8_pop_15 : decode M_X8_pop.2.2.1 15 = .ok (.isub, 1) := by decide +kernel
theorem dX8_pop_16 : decode M_X8_pop.2.2.1 16 = .ok (.putfield 29, 3) := by decide +kernel
theorem dX8_pop_19 : decode M_X8_pop.2.2.1 19 = .ok (.aload_n 0, 1) := by decide +kernel
theorem dX8_pop_20 : decode M_X8_pop.2.2.1 20 = .ok (.getfield 15, 3) := by decide +kernel
theorem dX8_pop_23 : decode M_X8_pop.2.2.1 23 = .ok (.aload_n 0, 1) := by decide +kernel
theorem dX8_pop_24 : decode M_X8_pop.2.2.1 24 = .ok (.getfield 29, 3) := by decide +kernel
theorem dX8_pop_27 : decode M_X8_pop.2.2.1 27 = .ok (.iaload, 1) := by decide +kernel
theorem dX8_pop_28 : decode M_X8_pop.2.2.1 28 = .ok (.ireturn, 1) := by decide +kernel
theorem dX9_init_0 : decode M_X9_init.2.2.1 0 = .ok (.aload_n 0, 1) := by decide +kernel
theorem dX9_init_1 : decode M_X9_init.2.2.1 1 = .ok (.invokespecial 3, 3) := by decide +kernel
theorem dX9_init_4 : decode M_X9_init.2.2.1 4 = .ok (.aload_n 0, 1) := by decide +kernel
theorem dX9_init_5 : decode M_X9_init.2.2.1 5 = .ok (.sipush 600, 3) := by decide +kernel
theorem dX9_init_8 : decode M_X9_init.2.2.1 8 = .ok (.newarray .int, 2) := by decide +kernel
theorem dX9_init_10 : decode M_X9_init.2.2.1 10 = .ok (.putfield 9, 3) := by decide +kernel
theorem dX9_init_13 : decode M_X9_init.2.2.1 13 = .ok (.aload_n 0, 1) := by decide +kernel
theorem dX9_init_14 : decode M_X9_init.2.2.1 14 = .ok (.bipush 40, 2) := by decide +kernel
theorem dX9_init_16 : decode M_X9_init.2.2.1 16 = .ok (.newarray .int, 2) := by decide +kernel
theorem dX9_init_18 : decode M_X9_init.2.2.1 18 = .ok (.putfield 15, 3) := by decide +kernel
theorem dX9_init_21 : decode M_X9_init.2.2.1 21 = .ok (.aload_n 0, 1) := by decide +kernel
theorem dX9_init_22 : decode M_X9_init.2.2.1 22 = .ok (.iconst (-1), 1) := by decide +kernel
theorem dX9_init_23 : decode M_X9_init.2.2.1 23 = .ok (.putfield 18, 3) := by decide +kernel
theorem dX9_init_26 : decode M_X9_init.2.2.1 26 = .ok (.aload_n 0, 1) := by decide +kernel
theorem dX9_init_27 : decode M_X9_init.2.2.1 27 = .ok (.new 22, 3) := by decide +kernel
theorem dX9_init_30 : decode M_X9_init.2.2.1 30 = .ok (.dup, 1) := by decide +kernel
theorem dX9_init_31 : decode M_X9_init.2.2.1 31 = .ok (.invokespecial 24, 3) := by decide +kernel
theorem dX9_init_34 : decode M_X9_init.2.2.1 34 = .ok (.putfield 25, 3) := by decide +kernel
theorem dX9_init_37 : decode M_X9_init.2.2.1 37 = .ok (.aload_n 0, 1) := by decide +kernel
theorem dX9_init_38 : decode M_X9_init.2.2.1 38 = .ok (.new 22, 3) := by decide +kernel
theorem dX9_init_41 : decode M_X9_init.2.2.1 41 = .ok (.dup, 1) := by decide +kernel
theorem dX9_init_42 : decode M_X9_init.2.2.1 42 = .ok (.invokespecial 24, 3) := by decide +kernel
theorem dX9_init_45 : decode M_X9_init.2.2.1 45 = .ok (.putfield 29, 3) := by decide +kernel
theorem dX9_init_48 : decode M_X9_init.2.2.1 48 = .ok (.return_, 1) := by decide +kernel
theorem dX9_append_0 : decode M_X9_append.2.2.1 0 = .ok (.bipush 24, 2) := by decide +kernel
theorem dX9_append_2 : decode M_X9_append.2.2.1 2 = .ok (.istore_n 2, 1) := by decide +kernel
theorem dX9_append_3 : decode M_X9_append.2.2.1 3 = .ok (.iload_n 2, 1) := by decide +kernel
theorem dX9_append_4 : decode M_X9_append.2.2.1 4 = .ok (.ifCond .lt 47, 3) := by decide +kernel
theorem dX9_append_7 : decode M_X9_append.2.2.1 7 = .ok (.aload_n 0, 1) := by decide +kernel
theorem dX9_append_8 : decode M_X9_append.2.2.1 8 = .ok (.getfield 32, 3) := by decide +kernel
theorem dX9_append_11 : decode M_X9_append.2.2.1 11 = .ok (.aload_n 0, 1) := by decide +kernel
theorem dX9_append_12 : decode M_X9_append.2.2.1 12 = .ok (.getfield 9, 3) := by decide +kernel
theorem dX9_append_15 : decode M_X9_append.2.2.1 15 = .ok (.arraylength, 1) := by decide +kernel
theorem dX9_append_16 : decode M_X9_append.2.2.1 16 = .ok (.if_icmp .ge 35, 3) := by decide +kernel
theorem dX9_append_19 : decode M_X9_append.2.2.1 19 = .ok (.aload_n 0, 1) := by decide +kernel
theorem dX9_append_20 : decode M_X9_append.2.2.1 20 = .ok (.getfield 9, 3) := by decide +kernel
theorem dX9_append_23 : decode M_X9_append.2.2.1 23 = .ok (.aload_n 0, 1) := by decide +kernel
theorem dX9_append_24 : decode M_X9_append.2.2.1 24 = .ok (.getfield 32, 3) := by decide +kernel
theorem dX9_append_27 : decode M_X9_append.2.2.1 27 = .ok (.iload_n 1, 1) := by decide +kernel
theorem dX9_append_28 : decode M_X9_append.2.2.1 28 = .ok (.iload_n 2, 1) := by decide +kernel
theorem dX9_append_29 : decode M_X9_append.2.2.1 29 = .ok (.iushr, 1) := by decide +kernel
theorem dX9_append_30 : decode M_X9_append.2.2.1 30 = .ok (.sipush 255, 3) := by decide +kernel
theorem dX9_append_33 : decode M_X9_append.2.2.1 33 = .ok (.iand, 1) := by decide +kernel
theorem dX9_append_34 : decode M_X9_append.2.2.1 34 = .ok (.iastore, 1) := by decide +kernel
theorem dX9_append_35 : decode M_X9_append.2.2.1 35 = .ok (.aload_n 0, 1) := by decide +kernel
theorem dX9_append_36 : decode M_X9_append.2.2.1 36 = .ok (.dup, 1) := by decide +kernel
theorem dX9_append_37 : decode M_X9_append.2.2.1 37 = .ok (.getfield 32, 3) := by decide +kernel
theorem dX9_append_40 : decode M_X9_append.2.2.1 40 = .ok (.iconst 1, 1) := by decide +kernel
theorem dX9_append_41 : decode M_X9_append.2.2.1 41 = .ok (.iadd, 1) := by decide +kernel
theorem dX9_append_42 : decode M_X9_append.2.2.1 42 = .ok (.putfield 32, 3) := by decide +kernel
theorem dX9_append_45 : decode M_X9_append.2.2.1 45 = .ok (.iinc 2 (-8), 3) := by decide +kernel
theorem dX9_append_48 : decode M_X9_append.2.2.1 48 = .ok (.goto (-45), 3) := by decide +kernel
theorem dX9_append_51 : decode M_X9_append.2.2.1 51 = .ok (.return_, 1) := by decide +kernel
theorem dX9_translate_0 : decode M_X9_translate.2.2.1 0 = .ok (.aload_n 0, 1) := by decide +kernel
theorem dX9_translate_1 : decode M_X9_translate.2.2.1 1 = .ok (.invokevirtual 35, 3) := by decide +kernel
theorem dX9_translate_4 : decode M_X9_translate.2.2.1 4 = .ok (.iconst 0, 1) := by decide +kernel
theorem dX9_translate_5 : decode M_X9_translate.2.2.1 5 = .ok (.istore_n 1, 1) := by decide +kernel
theorem dX9_translate_6 : decode M_X9_translate.2.2.1 6 = .ok (.iload_n 1, 1) := by decide +kernel
theorem dX9_translate_7 : decode M_X9_translate.2.2.1 7 = .ok (.sipush 600, 3) := by decide +kernel
theorem dX9_translate_10 : decode M_X9_translate.2.2.1 10 = .ok (.if_icmp .gt 43, 3) := by decide +kernel
theorem dX9_translate_13 : decode M_X9_translate.2.2.1 13 = .ok (.aload_n 0, 1) := by decide +kernel
theorem dX9_translate_14 : decode M_X9_translate.2.2.1 14 = .ok (.getfield 38, 3) := by decide +kernel
theorem dX9_translate_17 : decode M_X9_translate.2.2.1 17 = .ok (.ifCond .ne 36, 3) := by decide +kernel
theorem dX9_translate_20 : decode M_X9_translate.2.2.1 20 = .ok (.aload_n 0, 1) := by decide +kernel
theorem dX9_translate_21 : decode M_X9_translate.2.2.1 21 = .ok (.invokevirtual 41, 3) := by decide +kernel
theorem dX9_translate_24 : decode M_X9_translate.2.2.1 24 = .ok (.aload_n 0, 1) := by decide +kernel
theorem dX9_translate_25 : decode M_X9_translate.2.2.1 25 = .ok (.getfield 44, 3) := by decide +kernel
theorem dX9_translate_28 : decode M_X9_translate.2.2.1 28 = .ok (.bipush 21, 2) := by decide +kernel
theorem dX9_translate_30 : decode M_X9_translate.2.2.1 30 = .ok (.if_icmp .ne 13, 3) := by decide +kernel
theorem dX9_translate_33 : decode M_X9_translate.2.2.1 33 = .ok (.aload_n 0, 1) := by decide +kernel
theorem dX9_translate_34 : decode M_X9_translate.2.2.1 34 = .ok (.getfield 47, 3) := by decide +kernel
theorem dX9_translate_37 : decode M_X9_translate.2.2.1 37 = .ok (.ifCond .ne 6, 3) := by decide +kernel
theorem dX9_translate_40 : decode M_X9_translate.2.2.1 40 = .ok (.goto 13, 3) := by decide +kernel
theorem dX9_translate_43 : decode M_X9_translate.2.2.1 43 = .ok (.aload_n 0, 1) := by decide +kernel
theorem dX9_translate_44 : decode M_X9_translate.2.2.1 44 = .ok (.invokevirtual 50, 3) := by decide +kernel
theorem dX9_translate_47 : decode M_X9_translate.2.2.1 47 = .ok (.iinc 1 1, 3) := by decide +kernel
theorem dX9_translate_50 : decode M_X9_translate.2.2.1 50 = .ok (.goto (-44), 3) := by decide +kernel
theorem dX9_translate_53 : decode M_X9_translate.2.2.1 53 = .ok (.aload_n 0, 1) := by decide +kernel
theorem dX9_translate_54 : decode M_X9_translate.2.2.1 54 = .ok (.iconst 0, 1) := by decide +kernel
theorem dX9_translate_55 : decode M_X9_translate.2.2.1 55 = .ok (.putfield 32, 3) := by decide +kernel
theorem dX9_translate_58 : decode M_X9_translate.2.2.1 58 = .ok (.aload_n 0, 1) := by decide +kernel
theorem dX9_translate_59 : decode M_X9_translate.2.2.1 59 = .ok (.getfield 38, 3) := by decide +kernel
theorem dX9_translate_62 : decode M_X9_translate.2.2.1 62 = .ok (.ifCond .eq 5, 3) := by decide +kernel
theorem dX9_translate_65 : decode M_X9_translate.2.2.1 65 = .ok (.iconst 0, 1) := by decide +kernel
theorem dX9_translate_66 : decode M_X9_translate.2.2.1 66 = .ok (.ireturn, 1) := by decide +kernel
theorem dX9_translate_67 : decode M_X9_translate.2.2.1 67 = .ok (.aload_n 0, 1) := by decide +kernel
theorem dX9_translate_68 : decode M_X9_translate.2.2.1 68 = .ok (.getfield 25, 3) := by decide +kernel
theorem dX9_translate_71 : decode M_X9_translate.2.2.1 71 = .ok (.astore_n 1, 1) := by decide +kernel
theorem dX9_translate_72 : decode M_X9_translate.2.2.1 72 = .ok (.aload_n 0, 1) := by decide +kernel
theorem dX9_translate_73 : decode M_X9_translate.2.2.1 73 = .ok (.aload_n 0, 1) := by decide +kernel
theorem dX9_translate_74 : decode M_X9_translate.2.2.1 74 = .ok (.getfield 29, 3) := by decide +kernel
theorem dX9_translate_77 : decode M_X9_translate.2.2.1 77 = .ok (.putfield 25, 3) := by decide +kernel
theorem dX9_translate_80 : decode M_X9_translate.2.2.1 80 = .ok (.aload_n 0, 1) := by decide +kernel
theorem dX9_translate_81 : decode M_X9_translate.2.2.1 81 = .ok (.aload_n 1, 1) := by decide +kernel
theorem dX9_translate_82 : decode M_X9_translate.2.2.1 82 = .ok (.putfield 29, 3) := by decide +kernel
theorem dX9_translate_85 : decode M_X9_translate.2.2.1 85 = .ok (.iconst 1, 1) := by decide +kernel
theorem dX9_translate_86 : decode M_X9_translate.2.2.1 86 = .ok (.ireturn, 1) := by decide +kernel
theorem dX9_begin_0 : decode M_X9_begin.2.2.1 0 = .ok (.aload_n 0, 1) := by decide +kernel
theorem dX9_begin_1 : decode M_X9_begin.2.2.1 1 = .ok (.getfield 29, 3) := by decide +kernel
theorem dX9_begin_4 : decode M_X9_begin.2.2.1 4 = .ok (.invokevirtual 53, 3) := by decide +kernel
theorem dX9_begin_7 : decode M_X9_begin.2.2.1 7 = .ok (.aload_n 0, 1) := by decide +kernel
theorem dX9_begin_8 : decode M_X9_begin.2.2.1 8 = .ok (.iconst 0, 1) := by decide +kernel
theorem dX9_begin_9 : decode M_X9_begin.2.2.1 9 = .ok (.putfield 56, 3) := by decide +kernel
theorem dX9_begin_12 : decode M_X9_begin.2.2.1 12 = .ok (.aload_n 0, 1) := by decide +kernel
theorem dX9_begin_13 : decode M_X9_begin.2.2.1 13 = .ok (.iconst 0, 1) := by decide +kernel
theorem dX9_begin_14 : decode M_X9_begin.2.2.1 14 = .ok (.putfield 47, 3) := by decide +kernel
theorem dX9_begin_17 : decode M_X9_begin.2.2.1 17 = .ok (.aload_n 0, 1) := by decide +kernel
theorem dX9_begin_18 : decode M_X9_begin.2.2.1 18 = .ok (.iconst 0, 1) := by decide +kernel
theorem dX9_begin_19 : decode M_X9_begin.2.2.1 19 = .ok (.putfield 59, 3) := by decide +kernel
theorem dX9_begin_22 : decode M_X9_begin.2.2.1 22 = .ok (.aload_n 0, 1) := by decide +kernel
theorem dX9_begin_23 : decode M_X9_begin.2.2.1 23 = .ok (.iconst 0, 1) := by decide +kernel
theorem dX9_begin_24 : decode M_X9_begin.2.2.1 24 = .ok (.putfield 62, 3) := by decide +kernel
theorem dX9_begin_27 : decode M_X9_begin.2.2.1 27 = .ok (.aload_n 0, 1) := by decide +kernel
theorem dX9_begin_28 : decode M_X9_begin.2.2.1 28 = .ok (.iconst 0, 1) := by decide +kernel
theorem dX9_begin_29 : decode M_X9_begin.2.2.1 29 = .ok (.putfield 65, 3) := by decide +kernel
theorem dX9_begin_32 : decode M_X9_begin.2.2.1 32 = .ok (.aload_n 0, 1) := by decide +kernel
theorem dX9_begin_33 : decode M_X9_begin.2.2.1 33 = .ok (.iconst 0, 1) := by decide +kernel
theorem dX9_begin_34 : decode M_X9_begin.2.2.1 34 = .ok (.putfield 38, 3) := by decide +kernel
theorem dX9_begin_37 : decode M_X9_begin.2.2.1 37 = .ok (.aload_n 0, 1) := by decide +kernel
theorem dX9_begin_38 : decode M_X9_begin.2.2.1 38 = .ok (.iconst (-1), 1) := by decide +kernel
theorem dX9_begin_39 : decode M_X9_begin.2.2.1 39 = .ok (.putfield 18, 3) := by decide +kernel
theorem dX9_begin_42 : decode M_X9_begin.2.2.1 42 = .ok (.return_, 1) := by decide +kernel
theorem dX9_refuse_0 : decode M_X9_refuse.2.2.1 0 = .ok (.aload_n 0, 1) := by decide +kernel
theorem dX9_refuse_1 : decode M_X9_refuse.2.2.1 1 = .ok (.iload_n 1, 1) := by decide +kernel
theorem dX9_refuse_2 : decode M_X9_refuse.2.2.1 2 = .ok (.putfield 38, 3) := by decide +kernel
theorem dX9_refuse_5 : decode M_X9_refuse.2.2.1 5 = .ok (.aload_n 0, 1) := by decide +kernel
theorem dX9_refuse_6 : decode M_X9_refuse.2.2.1 6 = .ok (.aload_n 0, 1) := by decide +kernel
theorem dX9_refuse_7 : decode M_X9_refuse.2.2.1 7 = .ok (.getfield 68, 3) := by decide +kernel
theorem dX9_refuse_10 : decode M_X9_refuse.2.2.1 10 = .ok (.putfield 18, 3) := by decide +kernel
theorem dX9_refuse_13 : decode M_X9_refuse.2.2.1 13 = .ok (.return_, 1) := by decide +kernel
theorem dX9_take_0 : decode M_X9_take.2.2.1 0 = .ok (.aload_n 0, 1) := by decide +kernel
theorem dX9_take_1 : decode M_X9_take.2.2.1 1 = .ok (.getfield 47, 3) := by decide +kernel
theorem dX9_take_4 : decode M_X9_take.2.2.1 4 = .ok (.tableswitch 71 0 4 #[36, 43, 50, 57, 64], 36) := by decide +kernel
theorem dX9_take_40 : decode M_X9_take.2.2.1 40 = .ok (.aload_n 0, 1) := by decide +kernel
theorem dX9_take_41 : decode M_X9_take.2.2.1 41 = .ok (.invokevirtual 71, 3) := by decide +kernel
theorem dX9_take_44 : decode M_X9_take.2.2.1 44 = .ok (.goto 35, 3) := by decide +kernel
theorem dX9_take_47 : decode M_X9_take.2.2.1 47 = .ok (.aload_n 0, 1) := by decide +kernel
theorem dX9_take_48 : decode M_X9_take.2.2.1 48 = .ok (.invokevirtual 74, 3) := by decide +kernel
theorem dX9_take_51 : decode M_X9_take.2.2.1 51 = .ok (.goto 28, 3) := by decide +kernel
theorem dX9_take_54 : decode M_X9_take.2.2.1 54 = .ok (.aload_n 0, 1) := by decide +kernel
theorem dX9_take_55 : decode M_X9_take.2.2.1 55 = .ok (.invokevirtual 77, 3) := by decide +kernel
theorem dX9_take_58 : decode M_X9_take.2.2.1 58 = .ok (.goto 21, 3) := by decide +kernel
theorem dX9_take_61 : decode M_X9_take.2.2.1 61 = .ok (.aload_n 0, 1) := by decide +kernel
theorem dX9_take_62 : decode M_X9_take.2.2.1 62 = .ok (.invokevirtual 80, 3) := by decide +kernel
theorem dX9_take_65 : decode M_X9_take.2.2.1 65 = .ok (.goto 14, 3) := by decide +kernel
theorem dX9_take_68 : decode M_X9_take.2.2.1 68 = .ok (.aload_n 0, 1) := by decide +kernel
theorem dX9_take_69 : decode M_X9_take.2.2.1 69 = .ok (.invokevirtual 83, 3) := by decide +kernel
theorem dX9_take_72 : decode M_X9_take.2.2.1 72 = .ok (.goto 7, 3) := by decide +kernel
theorem dX9_take_75 : decode M_X9_take.2.2.1 75 = .ok (.aload_n 0, 1) := by decide +kernel
theorem dX9_take_76 : decode M_X9_take.2.2.1 76 = .ok (.invokevirtual 86, 3) := by decide +kernel
theorem dX9_take_79 : decode M_X9_take.2.2.1 79 = .ok (.return_, 1) := by decide +kernel
theorem dX9_takeLine_0 : decode M_X9_takeLine.2.2.1 0 = .ok (.aload_n 0, 1) := by decide +kernel
theorem dX9_takeLine_1 : decode M_X9_takeLine.2.2.1 1 = .ok (.getfield 44, 3) := by decide +kernel
theorem dX9_takeLine_4 : decode M_X9_takeLine.2.2.1 4 = .ok (.ifCond .lt 11, 3) := by decide +kernel
theorem dX9_takeLine_7 : decode M_X9_takeLine.2.2.1 7 = .ok (.aload_n 0, 1) := by decide +kernel
theorem dX9_takeLine_8 : decode M_X9_takeLine.2.2.1 8 = .ok (.getfield 44, 3) := by decide +kernel
theorem dX9_takeLine_11 : decode M_X9_takeLine.2.2.1 11 = .ok (.iconst 2, 1) := by decide +kernel
theorem dX9_takeLine_12 : decode M_X9_takeLine.2.2.1 12 = .ok (.if_icmp .le 11, 3) := by decide +kernel
theorem dX9_takeLine_15 : decode M_X9_takeLine.2.2.1 15 = .ok (.aload_n 0, 1) := by decide +kernel
theorem dX9_takeLine_16 : decode M_X9_takeLine.2.2.1 16 = .ok (.iconst 1, 1) := by decide +kernel
theorem dX9_takeLine_17 : decode M_X9_takeLine.2.2.1 17 = .ok (.invokevirtual 89, 3) := by decide +kernel
theorem dX9_takeLine_20 : decode M_X9_takeLine.2.2.1 20 = .ok (.goto 40, 3) := by decide +kernel
theorem dX9_takeLine_23 : decode M_X9_takeLine.2.2.1 23 = .ok (.aload_n 0, 1) := by decide +kernel
theorem dX9_takeLine_24 : decode M_X9_takeLine.2.2.1 24 = .ok (.getfield 29, 3) := by decide +kernel
theorem dX9_takeLine_27 : decode M_X9_takeLine.2.2.1 27 = .ok (.getfield 93, 3) := by decide +kernel
theorem dX9_takeLine_30 : decode M_X9_takeLine.2.2.1 30 = .ok (.bipush 16, 2) := by decide +kernel
theorem dX9_takeLine_32 : decode M_X9_takeLine.2.2.1 32 = .ok (.if_icmp .lt 11, 3) := by decide +kernel
theorem dX9_takeLine_35 : decode M_X9_takeLine.2.2.1 35 = .ok (.aload_n 0, 1) := by decide +kernel
theorem dX9_takeLine_36 : decode M_X9_takeLine.2.2.1 36 = .ok (.iconst 3, 1) := by decide +kernel
theorem dX9_takeLine_37 : decode M_X9_takeLine.2.2.1 37 = .ok (.invokevirtual 89, 3) := by decide +kernel
theorem dX9_takeLine_40 : decode M_X9_takeLine.2.2.1 40 = .ok (.goto 20, 3) := by decide +kernel
theorem dX9_takeLine_43 : decode M_X9_takeLine.2.2.1 43 = .ok (.aload_n 0, 1) := by decide +kernel
theorem dX9_takeLine_44 : decode M_X9_takeLine.2.2.1 44 = .ok (.aload_n 0, 1) := by decide +kernel
theorem dX9_takeLine_45 : decode M_X9_takeLine.2.2.1 45 = .ok (.getfield 44, 3) := by decide +kernel
theorem dX9_takeLine_48 : decode M_X9_takeLine.2.2.1 48 = .ok (.iconst 0, 1) := by decide +kernel
theorem dX9_takeLine_49 : decode M_X9_takeLine.2.2.1 49 = .ok (.isub, 1) := by decide +kernel
theorem dX9_takeLine_50 : decode M_X9_takeLine.2.2.1 50 = .ok (.iconst 1, 1) := by decide +kernel
theorem dX9_takeLine_51 : decode M_X9_takeLine.2.2.1 51 = .ok (.iadd, 1) := by decide +kernel
theorem dX9_takeLine_52 : decode M_X9_takeLine.2.2.1 52 = .ok (.putfield 96, 3) := by decide +kernel
theorem dX9_takeLine_55 : decode M_X9_takeLine.2.2.1 55 = .ok (.aload_n 0, 1) := by decide +kernel
theorem dX9_takeLine_56 : decode M_X9_takeLine.2.2.1 56 = .ok (.iconst 1, 1) := by decide +kernel
theorem dX9_takeLine_57 : decode M_X9_takeLine.2.2.1 57 = .ok (.putfield 47, 3) := by decide +kernel
theorem dX9_takeLine_60 : decode M_X9_takeLine.2.2.1 60 = .ok (.return_, 1) := by decide +kernel
theorem dX9_takeWhen_0 : decode M_X9_takeWhen.2.2.1 0 = .ok (.aload_n 0, 1) := by decide +kernel
theorem dX9_takeWhen_1 : decode M_X9_takeWhen.2.2.1 1 = .ok (.getfield 44, 3) := by decide +kernel
theorem dX9_takeWhen_4 : decode M_X9_takeWhen.2.2.1 4 = .ok (.iconst 3, 1) := by decide +kernel
theorem dX9_takeWhen_5 : decode M_X9_takeWhen.2.2.1 5 = .ok (.if_icmp .ne 11, 3) := by decide +kernel
theorem dX9_takeWhen_8 : decode M_X9_takeWhen.2.2.1 8 = .ok (.aload_n 0, 1) := by decide +kernel
theorem dX9_takeWhen_9 : decode M_X9_takeWhen.2.2.1 9 = .ok (.iconst 2, 1) := by decide +kernel
theorem dX9_takeWhen_10 : decode M_X9_takeWhen.2.2.1 10 = .ok (.putfield 47, 3) := by decide +kernel
theorem dX9_takeWhen_13 : decode M_X9_takeWhen.2.2.1 13 = .ok (.goto 8, 3) := by decide +kernel
theorem dX9_takeWhen_16 : decode M_X9_takeWhen.2.2.1 16 = .ok (.aload_n 0, 1) := by decide +kernel
theorem dX9_takeWhen_17 : decode M_X9_takeWhen.2.2.1 17 = .ok (.iconst 1, 1) := by decide +kernel
theorem dX9_takeWhen_18 : decode M_X9_takeWhen.2.2.1 18 = .ok (.invokevirtual 89, 3) := by decide +kernel
theorem dX9_takeWhen_21 : decode M_X9_takeWhen.2.2.1 21 = .ok (.return_, 1) := by decide +kernel
theorem dX9_takeCondition_0 : decode M_X9_takeCondition.2.2.1 0 = .ok (.aload_n 0, 1) := by decide +kernel
theorem dX9_takeCondition_1 : decode M_X9_takeCondition.2.2.1 1 = .ok (.getfield 44, 3) := by decide +kernel
theorem dX9_takeCondition_4 : decode M_X9_takeCondition.2.2.1 4 = .ok (.bipush 6, 2) := by decide +kernel
theorem dX9_takeCondition_6 : decode M_X9_takeCondition.2.2.1 6 = .ok (.if_icmp .eq 13, 3) := by decide +kernel
theorem dX9_takeCondition_9 : decode M_X9_takeCondition.2.2.1 9 = .ok (.aload_n 0, 1) := by decide +kernel
theorem dX9_takeCondition_10 : decode M_X9_takeCondition.2.2.1 10 = .ok (.getfield 44, 3) := by decide +kernel
theorem dX9_takeCondition_13 : decode M_X9_takeCondition.2.2.1 13 = .ok (.sipush 140, 3) := by decide +kernel
theorem dX9_takeCondition_16 : decode M_X9_takeCondition.2.2.1 16 = .ok (.if_icmp .ne 7, 3) := by decide +kernel
theorem dX9_takeCondition_19 : decode M_X9_takeCondition.2.2.1 19 = .ok (.iconst 1, 1) := by decide +kernel
theorem dX9_takeCondition_20 : decode M_X9_takeCondition.2.2.1 20 = .ok (.goto 4, 3) := by decide +kernel
theorem dX9_takeCondition_23 : decode M_X9_takeCondition.2.2.1 23 = .ok (.iconst 0, 1) := by decide +kernel
theorem dX9_takeCondition_24 : decode M_X9_takeCondition.2.2.1 24 = .ok (.istore_n 1, 1) := by decide +kernel
theorem dX9_takeCondition_25 : decode M_X9_takeCondition.2.2.1 25 = .ok (.iload_n 1, 1) := by decide +kernel
theorem dX9_takeCondition_26 : decode M_X9_takeCondition.2.2.1 26 = .ok (.ifCond .ne 15, 3) := by decide +kernel
theorem dX9_takeCondition_29 : decode M_X9_takeCondition.2.2.1 29 = .ok (.aload_n 0, 1) := by decide +kernel
theorem dX9_takeCondition_30 : decode M_X9_takeCondition.2.2.1 30 = .ok (.iconst 0, 1) := by decide +kernel
theorem dX9_takeCondition_31 : decode M_X9_takeCondition.2.2.1 31 = .ok (.putfield 99, 3) := by decide +kernel
theorem dX9_takeCondition_34 : decode M_X9_takeCondition.2.2.1 34 = .ok (.aload_n 0, 1) := by decide +kernel
theorem dX9_takeCondition_35 : decode M_X9_takeCondition.2.2.1 35 = .ok (.invokevirtual 80, 3) := by decide +kernel
theorem dX9_takeCondition_38 : decode M_X9_takeCondition.2.2.1 38 = .ok (.goto 28, 3) := by decide +kernel
theorem dX9_takeCondition_41 : decode M_X9_takeCondition.2.2.1 41 = .ok (.aload_n 0, 1) := by decide +kernel
theorem dX9_takeCondition_42 : decode M_X9_takeCondition.2.2.1 42 = .ok (.getfield 62, 3) := by decide +kernel
theorem dX9_takeCondition_45 : decode M_X9_takeCondition.2.2.1 45 = .ok (.bipush 8, 2) := by decide +kernel
theorem dX9_takeCondition_47 : decode M_X9_takeCondition.2.2.1 47 = .ok (.if_icmp .lt 11, 3) := by decide +kernel
theorem dX9_takeCondition_50 : decode M_X9_takeCondition.2.2.1 50 = .ok (.aload_n 0, 1) := by decide +kernel
theorem dX9_takeCondition_51 : decode M_X9_takeCondition.2.2.1 51 = .ok (.iconst 3, 1) := by decide +kernel
theorem dX9_takeCondition_52 : decode M_X9_takeCondition.2.2.1 52 = .ok (.invokevirtual 89, 3) := by decide +kernel
theorem dX9_takeCondition_55 : decode M_X9_takeCondition.2.2.1 55 = .ok (.goto 11, 3) := by decide +kernel
theorem dX9_takeCondition_58 : decode M_X9_takeCondition.2.2.1 58 = .ok (.aload_n 0, 1) := by decide +kernel
theorem dX9_takeCondition_59 : decode M_X9_takeCondition.2.2.1 59 = .ok (.aload_n 0, 1) := by decide +kernel
theorem dX9_takeCondition_60 : decode M_X9_takeCondition.2.2.1 60 = .ok (.getfield 44, 3) := by decide +kernel
theorem dX9_takeCondition_63 : decode M_X9_takeCondition.2.2.1 63 = .ok (.invokevirtual 103, 3) := by decide +kernel
theorem dX9_takeCondition_66 : decode M_X9_takeCondition.2.2.1 66 = .ok (.return_, 1) := by decide +kernel
theorem dX9_takeUnit_0 : decode M_X9_takeUnit.2.2.1 0 = .ok (.aload_n 0, 1) := by decide +kernel
theorem dX9_takeUnit_1 : decode M_X9_takeUnit.2.2.1 1 = .ok (.getfield 44, 3) := by decide +kernel
theorem dX9_takeUnit_4 : decode M_X9_takeUnit.2.2.1 4 = .ok (.bipush 20, 2) := by decide +kernel
theorem dX9_takeUnit_6 : decode M_X9_takeUnit.2.2.1 6 = .ok (.if_icmp .ne 22, 3) := by decide +kernel
theorem dX9_takeUnit_9 : decode M_X9_takeUnit.2.2.1 9 = .ok (.aload_n 0, 1) := by decide +kernel
theorem dX9_takeUnit_10 : decode M_X9_takeUnit.2.2.1 10 = .ok (.getfield 29, 3) := by decide +kernel
theorem dX9_takeUnit_13 : decode M_X9_takeUnit.2.2.1 13 = .ok (.aload_n 0, 1) := by decide +kernel
theorem dX9_takeUnit_14 : decode M_X9_takeUnit.2.2.1 14 = .ok (.getfield 106, 3) := by decide +kernel
theorem dX9_takeUnit_17 : decode M_X9_takeUnit.2.2.1 17 = .ok (.invokevirtual 109, 3) := by decide +kernel
theorem dX9_takeUnit_20 : decode M_X9_takeUnit.2.2.1 20 = .ok (.aload_n 0, 1) := by decide +kernel
theorem dX9_takeUnit_21 : decode M_X9_takeUnit.2.2.1 21 = .ok (.iconst 5, 1) := by decide +kernel
theorem dX9_takeUnit_22 : decode M_X9_takeUnit.2.2.1 22 = .ok (.putfield 47, 3) := by decide +kernel
theorem dX9_takeUnit_25 : decode M_X9_takeUnit.2.2.1 25 = .ok (.goto 49, 3) := by decide +kernel
theorem dX9_takeUnit_28 : decode M_X9_takeUnit.2.2.1 28 = .ok (.aload_n 0, 1) := by decide +kernel
theorem dX9_takeUnit_29 : decode M_X9_takeUnit.2.2.1 29 = .ok (.getfield 44, 3) := by decide +kernel
theorem dX9_takeUnit_32 : decode M_X9_takeUnit.2.2.1 32 = .ok (.bipush 7, 2) := by decide +kernel
theorem dX9_takeUnit_34 : decode M_X9_takeUnit.2.2.1 34 = .ok (.if_icmp .lt 35, 3) := by decide +kernel
theorem dX9_takeUnit_37 : decode M_X9_takeUnit.2.2.1 37 = .ok (.aload_n 0, 1) := by decide +kernel
theorem dX9_takeUnit_38 : decode M_X9_takeUnit.2.2.1 38 = .ok (.getfield 44, 3) := by decide +kernel
theorem dX9_takeUnit_41 : decode M_X9_takeUnit.2.2.1 41 = .ok (.bipush 13, 2) := by decide +kernel
theorem dX9_takeUnit_43 : decode M_X9_takeUnit.2.2.1 43 = .ok (.if_icmp .gt 26, 3) := by decide +kernel
theorem dX9_takeUnit_46 : decode M_X9_takeUnit.2.2.1 46 = .ok (.aload_n 0, 1) := by decide +kernel
theorem dX9_takeUnit_47 : decode M_X9_takeUnit.2.2.1 47 = .ok (.getfield 29, 3) := by decide +kernel
theorem dX9_takeUnit_50 : decode M_X9_takeUnit.2.2.1 50 = .ok (.sipush 10000, 3) := by decide +kernel
theorem dX9_takeUnit_53 : decode M_X9_takeUnit.2.2.1 53 = .ok (.aload_n 0, 1) := by decide +kernel
theorem dX9_takeUnit_54 : decode M_X9_takeUnit.2.2.1 54 = .ok (.getfield 44, 3) := by decide +kernel
theorem dX9_takeUnit_57 : decode M_X9_takeUnit.2.2.1 57 = .ok (.iadd, 1) := by decide +kernel
theorem dX9_takeUnit_58 : decode M_X9_takeUnit.2.2.1 58 = .ok (.invokevirtual 109, 3) := by decide +kernel
theorem dX9_takeUnit_61 : decode M_X9_takeUnit.2.2.1 61 = .ok (.aload_n 0, 1) := by decide +kernel
theorem dX9_takeUnit_62 : decode M_X9_takeUnit.2.2.1 62 = .ok (.iconst 5, 1) := by decide +kernel
theorem dX9_takeUnit_63 : decode M_X9_takeUnit.2.2.1 63 = .ok (.putfield 47, 3) := by decide +kernel
theorem dX9_takeUnit_66 : decode M_X9_takeUnit.2.2.1 66 = .ok (.goto 8, 3) := by decide +kernel
theorem dX9_takeUnit_69 : decode M_X9_takeUnit.2.2.1 69 = .ok (.aload_n 0, 1) := by decide +kernel
theorem dX9_takeUnit_70 : decode M_X9_takeUnit.2.2.1 70 = .ok (.iconst 1, 1) := by decide +kernel
theorem dX9_takeUnit_71 : decode M_X9_takeUnit.2.2.1 71 = .ok (.invokevirtual 89, 3) := by decide +kernel
theorem dX9_takeUnit_74 : decode M_X9_takeUnit.2.2.1 74 = .ok (.return_, 1) := by decide +kernel
theorem dX9_takeDivisor_0 : decode M_X9_takeDivisor.2.2.1 0 = .ok (.aload_n 0, 1) := by decide +kernel
theorem dX9_takeDivisor_1 : decode M_X9_takeDivisor.2.2.1 1 = .ok (.getfield 44, 3) := by decide +kernel
theorem dX9_takeDivisor_4 : decode M_X9_takeDivisor.2.2.1 4 = .ok (.bipush 20, 2) := by decide +kernel
theorem dX9_takeDivisor_6 : decode M_X9_takeDivisor.2.2.1 6 = .ok (.if_icmp .eq 11, 3) := by decide +kernel
theorem dX9_takeDivisor_9 : decode M_X9_takeDivisor.2.2.1 9 = .ok (.aload_n 0, 1) := by decide +kernel
theorem dX9_takeDivisor_10 : decode M_X9_takeDivisor.2.2.1 10 = .ok (.iconst 1, 1) := by decide +kernel
theorem dX9_takeDivisor_11 : decode M_X9_takeDivisor.2.2.1 11 = .ok (.invokevirtual 89, 3) := by decide +kernel
theorem dX9_takeDivisor_14 : decode M_X9_takeDivisor.2.2.1 14 = .ok (.goto 22, 3) := by decide +kernel
theorem dX9_takeDivisor_17 : decode M_X9_takeDivisor.2.2.1 17 = .ok (.aload_n 0, 1) := by decide +kernel
theorem dX9_takeDivisor_18 : decode M_X9_takeDivisor.2.2.1 18 = .ok (.getfield 106, 3) := by decide +kernel
theorem dX9_takeDivisor_21 : decode M_X9_takeDivisor.2.2.1 21 = .ok (.ifCond .ne 11, 3) := by decide +kernel
theorem dX9_takeDivisor_24 : decode M_X9_takeDivisor.2.2.1 24 = .ok (.aload_n 0, 1) := by decide +kernel
theorem dX9_takeDivisor_25 : decode M_X9_takeDivisor.2.2.1 25 = .ok (.iconst 2, 1) := by decide +kernel
theorem dX9_takeDivisor_26 : decode M_X9_takeDivisor.2.2.1 26 = .ok (.invokevirtual 89, 3) := by decide +kernel
theorem dX9_takeDivisor_29 : decode M_X9_takeDivisor.2.2.1 29 = .ok (.goto 7, 3) := by decide +kernel
theorem dX9_takeDivisor_32 : decode M_X9_takeDivisor.2.2.1 32 = .ok (.aload_n 0, 1) := by decide +kernel
theorem dX9_takeDivisor_33 : decode M_X9_takeDivisor.2.2.1 33 = .ok (.invokevirtual 80, 3) := by decide +kernel
theorem dX9_takeDivisor_36 : decode M_X9_takeDivisor.2.2.1 36 = .ok (.return_, 1) := by decide +kernel
theorem dX9_takeFollower_0 : decode M_X9_takeFollower.2.2.1 0 = .ok (.aload_n 0, 1) := by decide +kernel
theorem dX9_takeFollower_1 : decode M_X9_takeFollower.2.2.1 1 = .ok (.getfield 44, 3) := by decide +kernel
theorem dX9_takeFollower_4 : decode M_X9_takeFollower.2.2.1 4 = .ok (.invokestatic 112, 3) := by decide +kernel
theorem dX9_takeFollower_7 : decode M_X9_takeFollower.2.2.1 7 = .ok (.istore_n 1, 1) := by decide +kernel
theorem dX9_takeFollower_8 : decode M_X9_takeFollower.2.2.1 8 = .ok (.aload_n 0, 1) := by decide +kernel
theorem dX9_takeFollower_9 : decode M_X9_takeFollower.2.2.1 9 = .ok (.getfield 47, 3) := by decide +kernel
theorem dX9_takeFollower_12 : decode M_X9_takeFollower.2.2.1 12 = .ok (.bipush 6, 2) := by decide +kernel
theorem dX9_takeFollower_14 : decode M_X9_takeFollower.2.2.1 14 = .ok (.if_icmp .eq 10, 3) := by decide +kernel
theorem dX9_takeFollower_17 : decode M_X9_takeFollower.2.2.1 17 = .ok (.aload_n 0, 1) := by decide +kernel
theorem dX9_takeFollower_18 : decode M_X9_takeFollower.2.2.1 18 = .ok (.getfield 99, 3) := by decide +kernel
theorem dX9_takeFollower_21 : decode M_X9_takeFollower.2.2.1 21 = .ok (.ifCond .eq 7, 3) := by decide +kernel
theorem dX9_takeFollower_24 : decode M_X9_takeFollower.2.2.1 24 = .ok (.iconst 1, 1) := by decide +kernel
theorem dX9_takeFollower_25 : decode M_X9_takeFollower.2.2.1 25 = .ok (.goto 4, 3) := by decide +kernel
theorem dX9_takeFollower_28 : decode M_X9_takeFollower.2.2.1 28 = .ok (.iconst 0, 1) := by decide +kernel
theorem dX9_takeFollower_29 : decode M_X9_takeFollower.2.2.1 29 = .ok (.istore_n 2, 1) := by decide +kernel
theorem dX9_takeFollower_30 : decode M_X9_takeFollower.2.2.1 30 = .ok (.aload_n 0, 1) := by decide +kernel
theorem dX9_takeFollower_31 : decode M_X9_takeFollower.2.2.1 31 = .ok (.getfield 47, 3) := by decide +kernel
theorem dX9_takeFollower_34 : decode M_X9_takeFollower.2.2.1 34 = .ok (.iconst 5, 1) := by decide +kernel
theorem dX9_takeFollower_35 : decode M_X9_takeFollower.2.2.1 35 = .ok (.if_icmp .ne 37, 3) := by decide +kernel
theorem dX9_takeFollower_38 : decode M_X9_takeFollower.2.2.1 38 = .ok (.iload_n 1, 1) := by decide +kernel
theorem dX9_takeFollower_39 : decode M_X9_takeFollower.2.2.1 39 = .ok (.iconst 5, 1) := by decide +kernel
theorem dX9_takeFollower_40 : decode M_X9_takeFollower.2.2.1 40 = .ok (.if_icmp .eq 9, 3) := by decide +kernel
theorem dX9_takeFollower_43 : decode M_X9_takeFollower.2.2.1 43 = .ok (.iload_n 1, 1) := by decide +kernel
theorem dX9_takeFollower_44 : decode M_X9_takeFollower.2.2.1 44 = .ok (.bipush 6, 2) := by decide +kernel
theorem dX9_takeFollower_46 : decode M_X9_takeFollower.2.2.1 46 = .ok (.if_icmp .ne 26, 3) := by decide +kernel
theorem dX9_takeFollower_49 : decode M_X9_takeFollower.2.2.1 49 = .ok (.aload_n 0, 1) := by decide +kernel
theorem dX9_takeFollower_50 : decode M_X9_takeFollower.2.2.1 50 = .ok (.iload_n 1, 1) := by decide +kernel
theorem dX9_takeFollower_51 : decode M_X9_takeFollower.2.2.1 51 = .ok (.aload_n 0, 1) := by decide +kernel
theorem dX9_takeFollower_52 : decode M_X9_takeFollower.2.2.1 52 = .ok (.getfield 44, 3) := by decide +kernel
theorem dX9_takeFollower_55 : decode M_X9_takeFollower.2.2.1 55 = .ok (.sipush 147, 3) := by decide +kernel
theorem dX9_takeFollower_58 : decode M_X9_takeFollower.2.2.1 58 = .ok (.if_icmp .ne 7, 3) := by decide +kernel
theorem dX9_takeFollower_61 : decode M_X9_takeFollower.2.2.1 61 = .ok (.iconst 4, 1) := by decide +kernel
theorem dX9_takeFollower_62 : decode M_X9_takeFollower.2.2.1 62 = .ok (.goto 4, 3) := by decide +kernel
theorem dX9_takeFollower_65 : decode M_X9_takeFollower.2.2.1 65 = .ok (.iconst 3, 1) := by decide +kernel
theorem dX9_takeFollower_66 : decode M_X9_takeFollower.2.2.1 66 = .ok (.invokevirtual 116, 3) := by decide +kernel
theorem dX9_takeFollower_69 : decode M_X9_takeFollower.2.2.1 69 = .ok (.goto 138, 3) := by decide +kernel
theorem dX9_takeFollower_72 : decode M_X9_takeFollower.2.2.1 72 = .ok (.aload_n 0, 1) := by decide +kernel
theorem dX9_takeFollower_73 : decode M_X9_takeFollower.2.2.1 73 = .ok (.getfield 47, 3) := by decide +kernel
theorem dX9_takeFollower_76 : decode M_X9_takeFollower.2.2.1 76 = .ok (.iconst 5, 1) := by decide +kernel
theorem dX9_takeFollower_77 : decode M_X9_takeFollower.2.2.1 77 = .ok (.if_icmp .ne 29, 3) := by decide +kernel
theorem dX9_takeFollower_80 : decode M_X9_takeFollower.2.2.1 80 = .ok (.iload_n 1, 1) := by decide +kernel
theorem dX9_takeFollower_81 : decode M_X9_takeFollower.2.2.1 81 = .ok (.iconst 4, 1) := by decide +kernel
theorem dX9_takeFollower_82 : decode M_X9_takeFollower.2.2.1 82 = .ok (.if_icmp .ne 24, 3) := by decide +kernel
theorem dX9_takeFollower_85 : decode M_X9_takeFollower.2.2.1 85 = .ok (.aload_n 0, 1) := by decide +kernel
theorem dX9_takeFollower_86 : decode M_X9_takeFollower.2.2.1 86 = .ok (.getfield 99, 3) := by decide +kernel
theorem dX9_takeFollower_89 : decode M_X9_takeFollower.2.2.1 89 = .ok (.ifCond .ne 17, 3) := by decide +kernel
theorem dX9_takeFollower_92 : decode M_X9_takeFollower.2.2.1 92 = .ok (.aload_n 0, 1) := by decide +kernel
theorem dX9_takeFollower_93 : decode M_X9_takeFollower.2.2.1 93 = .ok (.iconst 1, 1) := by decide +kernel
theorem dX9_takeFollower_94 : decode M_X9_takeFollower.2.2.1 94 = .ok (.putfield 99, 3) := by decide +kernel
theorem dX9_takeFollower_97 : decode M_X9_takeFollower.2.2.1 97 = .ok (.aload_n 0, 1) := by decide +kernel
theorem dX9_takeFollower_98 : decode M_X9_takeFollower.2.2.1 98 = .ok (.iload_n 1, 1) := by decide +kernel
theorem dX9_takeFollower_99 : decode M_X9_takeFollower.2.2.1 99 = .ok (.iconst 3, 1) := by decide +kernel
theorem dX9_takeFollower_100 : decode M_X9_takeFollower.2.2.1 100 = .ok (.invokevirtual 116, 3) := by decide +kernel
theorem dX9_takeFollower_103 : decode M_X9_takeFollower.2.2.1 103 = .ok (.goto 104, 3) := by decide +kernel
theorem dX9_takeFollower_106 : decode M_X9_takeFollower.2.2.1 106 = .ok (.iload_n 2, 1) := by decide +kernel
theorem dX9_takeFollower_107 : decode M_X9_takeFollower.2.2.1 107 = .ok (.ifCond .eq 22, 3) := by decide +kernel
theorem dX9_takeFollower_110 : decode M_X9_takeFollower.2.2.1 110 = .ok (.iload_n 1, 1) := by decide +kernel
theorem dX9_takeFollower_111 : decode M_X9_takeFollower.2.2.1 111 = .ok (.iconst 1, 1) := by decide +kernel
theorem dX9_takeFollower_112 : decode M_X9_takeFollower.2.2.1 112 = .ok (.if_icmp .eq 8, 3) := by decide +kernel
theorem dX9_takeFollower_115 : decode M_X9_takeFollower.2.2.1 115 = .ok (.iload_n 1, 1) := by decide +kernel
theorem dX9_takeFollower_116 : decode M_X9_takeFollower.2.2.1 116 = .ok (.iconst 2, 1) := by decide +kernel
theorem dX9_takeFollower_117 : decode M_X9_takeFollower.2.2.1 117 = .ok (.if_icmp .ne 12, 3) := by decide +kernel
theorem dX9_takeFollower_120 : decode M_X9_takeFollower.2.2.1 120 = .ok (.aload_n 0, 1) := by decide +kernel
theorem dX9_takeFollower_121 : decode M_X9_takeFollower.2.2.1 121 = .ok (.iload_n 1, 1) := by decide +kernel
theorem dX9_takeFollower_122 : decode M_X9_takeFollower.2.2.1 122 = .ok (.iconst 2, 1) := by decide +kernel
theorem dX9_takeFollower_123 : decode M_X9_takeFollower.2.2.1 123 = .ok (.invokevirtual 116, 3) := by decide +kernel
theorem dX9_takeFollower_126 : decode M_X9_takeFollower.2.2.1 126 = .ok (.goto 81, 3) := by decide +kernel
theorem dX9_takeFollower_129 : decode M_X9_takeFollower.2.2.1 129 = .ok (.iload_n 2, 1) := by decide +kernel
theorem dX9_takeFollower_130 : decode M_X9_takeFollower.2.2.1 130 = .ok (.ifCond .eq 27, 3) := by decide +kernel
theorem dX9_takeFollower_133 : decode M_X9_takeFollower.2.2.1 133 = .ok (.aload_n 0, 1) := by decide +kernel
theorem dX9_takeFollower_134 : decode M_X9_takeFollower.2.2.1 134 = .ok (.getfield 44, 3) := by decide +kernel
theorem dX9_takeFollower_137 : decode M_X9_takeFollower.2.2.1 137 = .ok (.sipush 141, 3) := by decide +kernel
theorem dX9_takeFollower_140 : decode M_X9_takeFollower.2.2.1 140 = .ok (.if_icmp .ne 17, 3) := by decide +kernel
theorem dX9_takeFollower_143 : decode M_X9_takeFollower.2.2.1 143 = .ok (.aload_n 0, 1) := by decide +kernel
theorem dX9_takeFollower_144 : decode M_X9_takeFollower.2.2.1 144 = .ok (.getfield 65, 3) := by decide +kernel
theorem dX9_takeFollower_147 : decode M_X9_takeFollower.2.2.1 147 = .ok (.ifCond .le 10, 3) := by decide +kernel
theorem dX9_takeFollower_150 : decode M_X9_takeFollower.2.2.1 150 = .ok (.aload_n 0, 1) := by decide +kernel
theorem dX9_takeFollower_151 : decode M_X9_takeFollower.2.2.1 151 = .ok (.invokevirtual 120, 3) := by decide +kernel
theorem dX9_takeFollower_154 : decode M_X9_takeFollower.2.2.1 154 = .ok (.goto 53, 3) := by decide +kernel
theorem dX9_takeFollower_157 : decode M_X9_takeFollower.2.2.1 157 = .ok (.iload_n 2, 1) := by decide +kernel
theorem dX9_takeFollower_158 : decode M_X9_takeFollower.2.2.1 158 = .ok (.ifCond .eq 44, 3) := by decide +kernel
theorem dX9_takeFollower_161 : decode M_X9_takeFollower.2.2.1 161 = .ok (.aload_n 0, 1) := by decide +kernel
theorem dX9_takeFollower_162 : decode M_X9_takeFollower.2.2.1 162 = .ok (.getfield 44, 3) := by decide +kernel
theorem dX9_takeFollower_165 : decode M_X9_takeFollower.2.2.1 165 = .ok (.sipush 159, 3) := by decide +kernel
theorem dX9_takeFollower_168 : decode M_X9_takeFollower.2.2.1 168 = .ok (.if_icmp .ne 34, 3) := by decide +kernel
theorem dX9_takeFollower_171 : decode M_X9_takeFollower.2.2.1 171 = .ok (.aload_n 0, 1) := by decide +kernel
theorem dX9_takeFollower_172 : decode M_X9_takeFollower.2.2.1 172 = .ok (.getfield 65, 3) := by decide +kernel
theorem dX9_takeFollower_175 : decode M_X9_takeFollower.2.2.1 175 = .ok (.ifCond .ne 27, 3) := by decide +kernel
theorem dX9_takeFollower_178 : decode M_X9_takeFollower.2.2.1 178 = .ok (.aload_n 0, 1) := by decide +kernel
theorem dX9_takeFollower_179 : decode M_X9_takeFollower.2.2.1 179 = .ok (.iconst 1, 1) := by decide +kernel
theorem dX9_takeFollower_180 : decode M_X9_takeFollower.2.2.1 180 = .ok (.invokevirtual 123, 3) := by decide +kernel
theorem dX9_takeFollower_183 : decode M_X9_takeFollower.2.2.1 183 = .ok (.aload_n 0, 1) := by decide +kernel
theorem dX9_takeFollower_184 : decode M_X9_takeFollower.2.2.1 184 = .ok (.getfield 29, 3) := by decide +kernel
theorem dX9_takeFollower_187 : decode M_X9_takeFollower.2.2.1 187 = .ok (.aload_n 0, 1) := by decide +kernel
theorem dX9_takeFollower_188 : decode M_X9_takeFollower.2.2.1 188 = .ok (.getfield 96, 3) := by decide +kernel
theorem dX9_takeFollower_191 : decode M_X9_takeFollower.2.2.1 191 = .ok (.invokevirtual 126, 3) := by decide +kernel
theorem dX9_takeFollower_194 : decode M_X9_takeFollower.2.2.1 194 = .ok (.aload_n 0, 1) := by decide +kernel
theorem dX9_takeFollower_195 : decode M_X9_takeFollower.2.2.1 195 = .ok (.iconst 0, 1) := by decide +kernel
theorem dX9_takeFollower_196 : decode M_X9_takeFollower.2.2.1 196 = .ok (.putfield 47, 3) := by decide +kernel
theorem dX9_takeFollower_199 : decode M_X9_takeFollower.2.2.1 199 = .ok (.goto 8, 3) := by decide +kernel
theorem dX9_takeFollower_202 : decode M_X9_takeFollower.2.2.1 202 = .ok (.aload_n 0, 1) := by decide +kernel
theorem dX9_takeFollower_203 : decode M_X9_takeFollower.2.2.1 203 = .ok (.iconst 1, 1) := by decide +kernel
theorem dX9_takeFollower_204 : decode M_X9_takeFollower.2.2.1 204 = .ok (.invokevirtual 89, 3) := by decide +kernel
theorem dX9_takeFollower_207 : decode M_X9_takeFollower.2.2.1 207 = .ok (.return_, 1) := by decide +kernel
theorem dX9_takeJoint_0 : decode M_X9_takeJoint.2.2.1 0 = .ok (.aload_n 0, 1) := by decide +kernel
theorem dX9_takeJoint_1 : decode M_X9_takeJoint.2.2.1 1 = .ok (.iload_n 1, 1) := by decide +kernel
theorem dX9_takeJoint_2 : decode M_X9_takeJoint.2.2.1 2 = .ok (.invokevirtual 123, 3) := by decide +kernel
theorem dX9_takeJoint_5 : decode M_X9_takeJoint.2.2.1 5 = .ok (.aload_n 0, 1) := by decide +kernel
theorem dX9_takeJoint_6 : decode M_X9_takeJoint.2.2.1 6 = .ok (.aload_n 0, 1) := by decide +kernel
theorem dX9_takeJoint_7 : decode M_X9_takeJoint.2.2.1 7 = .ok (.getfield 44, 3) := by decide +kernel
theorem dX9_takeJoint_10 : decode M_X9_takeJoint.2.2.1 10 = .ok (.invokevirtual 103, 3) := by decide +kernel
theorem dX9_takeJoint_13 : decode M_X9_takeJoint.2.2.1 13 = .ok (.aload_n 0, 1) := by decide +kernel
theorem dX9_takeJoint_14 : decode M_X9_takeJoint.2.2.1 14 = .ok (.iload_n 2, 1) := by decide +kernel
theorem dX9_takeJoint_15 : decode M_X9_takeJoint.2.2.1 15 = .ok (.putfield 47, 3) := by decide +kernel
theorem dX9_takeJoint_18 : decode M_X9_takeJoint.2.2.1 18 = .ok (.return_, 1) := by decide +kernel
theorem dX9_closeBracket_0 : decode M_X9_closeBracket.2.2.1 0 = .ok (.aload_n 0, 1) := by decide +kernel
theorem dX9_closeBracket_1 : decode M_X9_closeBracket.2.2.1 1 = .ok (.iconst 1, 1) := by decide +kernel
theorem dX9_closeBracket_2 : decode M_X9_closeBracket.2.2.1 2 = .ok (.invokevirtual 123, 3) := by decide +kernel
theorem dX9_closeBracket_5 : decode M_X9_closeBracket.2.2.1 5 = .ok (.aload_n 0, 1) := by decide +kernel
theorem dX9_closeBracket_6 : decode M_X9_closeBracket.2.2.1 6 = .ok (.getfield 59, 3) := by decide +kernel
theorem dX9_closeBracket_9 : decode M_X9_closeBracket.2.2.1 9 = .ok (.ifCond .le 33, 3) := by decide +kernel
theorem dX9_closeBracket_12 : decode M_X9_closeBracket.2.2.1 12 = .ok (.aload_n 0, 1) := by decide +kernel
theorem dX9_closeBracket_13 : decode M_X9_closeBracket.2.2.1 13 = .ok (.dup, 1) := by decide +kernel
theorem dX9_closeBracket_14 : decode M_X9_closeBracket.2.2.1 14 = .ok (.getfield 59, 3) := by decide +kernel
theorem dX9_closeBracket_17 : decode M_X9_closeBracket.2.2.1 17 = .ok (.iconst 1, 1) := by decide +kernel
theorem dX9_closeBracket_18 : decode M_X9_closeBracket.2.2.1 18 = .ok (.isub, 1) := by decide +kernel
theorem dX9_closeBracket_19 : decode M_X9_closeBracket.2.2.1 19 = .ok (.putfield 59, 3) := by decide +kernel
theorem dX9_closeBracket_22 : decode M_X9_closeBracket.2.2.1 22 = .ok (.aload_n 0, 1) := by decide +kernel
theorem dX9_closeBracket_23 : decode M_X9_closeBracket.2.2.1 23 = .ok (.dup, 1) := by decide +kernel
theorem dX9_closeBracket_24 : decode M_X9_closeBracket.2.2.1 24 = .ok (.getfield 62, 3) := by decide +kernel
theorem dX9_closeBracket_27 : decode M_X9_closeBracket.2.2.1 27 = .ok (.iconst 1, 1) := by decide +kernel
theorem dX9_closeBracket_28 : decode M_X9_closeBracket.2.2.1 28 = .ok (.isub, 1) := by decide +kernel
theorem dX9_closeBracket_29 : decode M_X9_closeBracket.2.2.1 29 = .ok (.putfield 62, 3) := by decide +kernel
theorem dX9_closeBracket_32 : decode M_X9_closeBracket.2.2.1 32 = .ok (.aload_n 0, 1) := by decide +kernel
theorem dX9_closeBracket_33 : decode M_X9_closeBracket.2.2.1 33 = .ok (.dup, 1) := by decide +kernel
theorem dX9_closeBracket_34 : decode M_X9_closeBracket.2.2.1 34 = .ok (.getfield 65, 3) := by decide +kernel
theorem dX9_closeBracket_37 : decode M_X9_closeBracket.2.2.1 37 = .ok (.iconst 1, 1) := by decide +kernel
theorem dX9_closeBracket_38 : decode M_X9_closeBracket.2.2.1 38 = .ok (.isub, 1) := by decide +kernel
theorem dX9_closeBracket_39 : decode M_X9_closeBracket.2.2.1 39 = .ok (.putfield 65, 3) := by decide +kernel
theorem dX9_closeBracket_42 : decode M_X9_closeBracket.2.2.1 42 = .ok (.aload_n 0, 1) := by decide +kernel
theorem dX9_closeBracket_43 : decode M_X9_closeBracket.2.2.1 43 = .ok (.bipush 6, 2) := by decide +kernel
theorem dX9_closeBracket_45 : decode M_X9_closeBracket.2.2.1 45 = .ok (.putfield 47, 3) := by decide +kernel
theorem dX9_closeBracket_48 : decode M_X9_closeBracket.2.2.1 48 = .ok (.return_, 1) := by decide +kernel
theorem dX9_holdBack_0 : decode M_X9_holdBack.2.2.1 0 = .ok (.aload_n 0, 1) := by decide +kernel
theorem dX9_holdBack_1 : decode M_X9_holdBack.2.2.1 1 = .ok (.getfield 59, 3) := by decide +kernel
theorem dX9_holdBack_4 : decode M_X9_holdBack.2.2.1 4 = .ok (.aload_n 0, 1) := by decide +kernel
theorem dX9_holdBack_5 : decode M_X9_holdBack.2.2.1 5 = .ok (.getfield 15, 3) := by decide +kernel
theorem dX9_holdBack_8 : decode M_X9_holdBack.2.2.1 8 = .ok (.arraylength, 1) := by decide +kernel
theorem dX9_holdBack_9 : decode M_X9_holdBack.2.2.1 9 = .ok (.if_icmp .ge 71, 3) := by decide +kernel
theorem dX9_holdBack_12 : decode M_X9_holdBack.2.2.1 12 = .ok (.aload_n 0, 1) := by decide +kernel
theorem dX9_holdBack_13 : decode M_X9_holdBack.2.2.1 13 = .ok (.getfield 15, 3) := by decide +kernel
theorem dX9_holdBack_16 : decode M_X9_holdBack.2.2.1 16 = .ok (.aload_n 0, 1) := by decide +kernel
theorem dX9_holdBack_17 : decode M_X9_holdBack.2.2.1 17 = .ok (.getfield 59, 3) := by decide +kernel
theorem dX9_holdBack_20 : decode M_X9_holdBack.2.2.1 20 = .ok (.iload_n 1, 1) := by decide +kernel
theorem dX9_holdBack_21 : decode M_X9_holdBack.2.2.1 21 = .ok (.iastore, 1) := by decide +kernel
theorem dX9_holdBack_22 : decode M_X9_holdBack.2.2.1 22 = .ok (.aload_n 0, 1) := by decide +kernel
theorem dX9_holdBack_23 : decode M_X9_holdBack.2.2.1 23 = .ok (.dup, 1) := by decide +kernel
theorem dX9_holdBack_24 : decode M_X9_holdBack.2.2.1 24 = .ok (.getfield 59, 3) := by decide +kernel
theorem dX9_holdBack_27 : decode M_X9_holdBack.2.2.1 27 = .ok (.iconst 1, 1) := by decide +kernel
theorem dX9_holdBack_28 : decode M_X9_holdBack.2.2.1 28 = .ok (.iadd, 1) := by decide +kernel
theorem dX9_holdBack_29 : decode M_X9_holdBack.2.2.1 29 = .ok (.putfield 59, 3) := by decide +kernel
theorem dX9_holdBack_32 : decode M_X9_holdBack.2.2.1 32 = .ok (.aload_n 0, 1) := by decide +kernel
theorem dX9_holdBack_33 : decode M_X9_holdBack.2.2.1 33 = .ok (.dup, 1) := by decide +kernel
theorem dX9_holdBack_34 : decode M_X9_holdBack.2.2.1 34 = .ok (.getfield 62, 3) := by decide +kernel
theorem dX9_holdBack_37 : decode M_X9_holdBack.2.2.1 37 = .ok (.iload_n 1, 1) := by decide +kernel
theorem dX9_holdBack_38 : decode M_X9_holdBack.2.2.1 38 = .ok (.bipush 6, 2) := by decide +kernel
theorem dX9_holdBack_40 : decode M_X9_holdBack.2.2.1 40 = .ok (.if_icmp .eq 10, 3) := by decide +kernel
theorem dX9_holdBack_43 : decode M_X9_holdBack.2.2.1 43 = .ok (.iload_n 1, 1) := by decide +kernel
theorem dX9_holdBack_44 : decode M_X9_holdBack.2.2.1 44 = .ok (.sipush 140, 3) := by decide +kernel
theorem dX9_holdBack_47 : decode M_X9_holdBack.2.2.1 47 = .ok (.if_icmp .ne 7, 3) := by decide +kernel
theorem dX9_holdBack_50 : decode M_X9_holdBack.2.2.1 50 = .ok (.iconst 1, 1) := by decide +kernel
theorem dX9_holdBack_51 : decode M_X9_holdBack.2.2.1 51 = .ok (.goto 4, 3) := by decide +kernel
theorem dX9_holdBack_54 : decode M_X9_holdBack.2.2.1 54 = .ok (.iconst 0, 1) := by decide +kernel
theorem dX9_holdBack_55 : decode M_X9_holdBack.2.2.1 55 = .ok (.iadd, 1) := by decide +kernel
theorem dX9_holdBack_56 : decode M_X9_holdBack.2.2.1 56 = .ok (.putfield 62, 3) := by decide +kernel
theorem dX9_holdBack_59 : decode M_X9_holdBack.2.2.1 59 = .ok (.aload_n 0, 1) := by decide +kernel
theorem dX9_holdBack_60 : decode M_X9_holdBack.2.2.1 60 = .ok (.dup, 1) := by decide +kernel
theorem dX9_holdBack_61 : decode M_X9_holdBack.2.2.1 61 = .ok (.getfield 65, 3) := by decide +kernel
theorem dX9_holdBack_64 : decode M_X9_holdBack.2.2.1 64 = .ok (.iload_n 1, 1) := by decide +kernel
theorem dX9_holdBack_65 : decode M_X9_holdBack.2.2.1 65 = .ok (.sipush 140, 3) := by decide +kernel
theorem dX9_holdBack_68 : decode M_X9_holdBack.2.2.1 68 = .ok (.if_icmp .ne 7, 3) := by decide +kernel
theorem dX9_holdBack_71 : decode M_X9_holdBack.2.2.1 71 = .ok (.iconst 1, 1) := by decide +kernel
theorem dX9_holdBack_72 : decode M_X9_holdBack.2.2.1 72 = .ok (.goto 4, 3) := by decide +kernel
theorem dX9_holdBack_75 : decode M_X9_holdBack.2.2.1 75 = .ok (.iconst 0, 1) := by decide +kernel
theorem dX9_holdBack_76 : decode M_X9_holdBack.2.2.1 76 = .ok (.iadd, 1) := by decide +kernel
theorem dX9_holdBack_77 : decode M_X9_holdBack.2.2.1 77 = .ok (.putfield 65, 3) := by decide +kernel
theorem dX9_holdBack_80 : decode M_X9_holdBack.2.2.1 80 = .ok (.return_, 1) := by decide +kernel
theorem dX9_release_0 : decode M_X9_release.2.2.1 0 = .ok (.aload_n 0, 1) := by decide +kernel
theorem dX9_release_1 : decode M_X9_release.2.2.1 1 = .ok (.getfield 59, 3) := by decide +kernel
theorem dX9_release_4 : decode M_X9_release.2.2.1 4 = .ok (.iconst 1, 1) := by decide +kernel
theorem dX9_release_5 : decode M_X9_release.2.2.1 5 = .ok (.isub, 1) := by decide +kernel
theorem dX9_release_6 : decode M_X9_release.2.2.1 6 = .ok (.istore_n 2, 1) := by decide +kernel
theorem dX9_release_7 : decode M_X9_release.2.2.1 7 = .ok (.iload_n 2, 1) := by decide +kernel
theorem dX9_release_8 : decode M_X9_release.2.2.1 8 = .ok (.ifCond .lt 69, 3) := by decide +kernel
theorem dX9_release_11 : decode M_X9_release.2.2.1 11 = .ok (.aload_n 0, 1) := by decide +kernel
theorem dX9_release_12 : decode M_X9_release.2.2.1 12 = .ok (.getfield 15, 3) := by decide +kernel
theorem dX9_release_15 : decode M_X9_release.2.2.1 15 = .ok (.iload_n 2, 1) := by decide +kernel
theorem dX9_release_16 : decode M_X9_release.2.2.1 16 = .ok (.iaload, 1) := by decide +kernel
theorem dX9_release_17 : decode M_X9_release.2.2.1 17 = .ok (.invokestatic 112, 3) := by decide +kernel
theorem dX9_release_20 : decode M_X9_release.2.2.1 20 = .ok (.iload_n 1, 1) := by decide +kernel
theorem dX9_release_21 : decode M_X9_release.2.2.1 21 = .ok (.if_icmp .lt 56, 3) := by decide +kernel
theorem dX9_release_24 : decode M_X9_release.2.2.1 24 = .ok (.aload_n 0, 1) := by decide +kernel
theorem dX9_release_25 : decode M_X9_release.2.2.1 25 = .ok (.getfield 29, 3) := by decide +kernel
theorem dX9_release_28 : decode M_X9_release.2.2.1 28 = .ok (.sipush 10000, 3) := by decide +kernel
theorem dX9_release_31 : decode M_X9_release.2.2.1 31 = .ok (.aload_n 0, 1) := by decide +kernel
theorem dX9_release_32 : decode M_X9_release.2.2.1 32 = .ok (.getfield 15, 3) := by decide +kernel
theorem dX9_release_35 : decode M_X9_release.2.2.1 35 = .ok (.iload_n 2, 1) := by decide +kernel
theorem dX9_release_36 : decode M_X9_release.2.2.1 36 = .ok (.iaload, 1) := by decide +kernel
theorem dX9_release_37 : decode M_X9_release.2.2.1 37 = .ok (.iadd, 1) := by decide +kernel
theorem dX9_release_38 : decode M_X9_release.2.2.1 38 = .ok (.invokevirtual 109, 3) := by decide +kernel
theorem dX9_release_41 : decode M_X9_release.2.2.1 41 = .ok (.aload_n 0, 1) := by decide +kernel
theorem dX9_release_42 : decode M_X9_release.2.2.1 42 = .ok (.dup, 1) := by decide +kernel
theorem dX9_release_43 : decode M_X9_release.2.2.1 43 = .ok (.getfield 62, 3) := by decide +kernel
theorem dX9_release_46 : decode M_X9_release.2.2.1 46 = .ok (.aload_n 0, 1) := by decide +kernel
theorem dX9_release_47 : decode M_X9_release.2.2.1 47 = .ok (.getfield 15, 3) := by decide +kernel
theorem dX9_release_50 : decode M_X9_release.2.2.1 50 = .ok (.iload_n 2, 1) := by decide +kernel
theorem dX9_release_51 : decode M_X9_release.2.2.1 51 = .ok (.iaload, 1) := by decide +kernel
theorem dX9_release_52 : decode M_X9_release.2.2.1 52 = .ok (.bipush 6, 2) := by decide +kernel
theorem dX9_release_54 : decode M_X9_release.2.2.1 54 = .ok (.if_icmp .ne 7, 3) := by decide +kernel
theorem dX9_release_57 : decode M_X9_release.2.2.1 57 = .ok (.iconst 1, 1) := by decide +kernel
theorem dX9_release_58 : decode M_X9_release.2.2.1 58 = .ok (.goto 4, 3) := by decide +kernel
theorem dX9_release_61 : decode M_X9_release.2.2.1 61 = .ok (.iconst 0, 1) := by decide +kernel
theorem dX9_release_62 : decode M_X9_release.2.2.1 62 = .ok (.isub, 1) := by decide +kernel
theorem dX9_release_63 : decode M_X9_release.2.2.1 63 = .ok (.putfield 62, 3) := by decide +kernel
theorem dX9_release_66 : decode M_X9_release.2.2.1 66 = .ok (.aload_n 0, 1) := by decide +kernel
theorem dX9_release_67 : decode M_X9_release.2.2.1 67 = .ok (.iload_n 2, 1) := by decide +kernel
theorem dX9_release_68 : decode M_X9_release.2.2.1 68 = .ok (.putfield 59, 3) := by decide +kernel
theorem dX9_release_71 : decode M_X9_release.2.2.1 71 = .ok (.iinc 2 (-1), 3) := by decide +kernel
theorem dX9_release_74 : decode M_X9_release.2.2.1 74 = .ok (.goto (-67), 3) := by decide +kernel
theorem dX9_release_77 : decode M_X9_release.2.2.1 77 = .ok (.return_, 1) := by decide +kernel
theorem dX9_rankOf_0 : decode M_X9_rankOf.2.2.1 0 = .ok (.iload_n 0, 1) := by decide +kernel
theorem dX9_rankOf_1 : decode M_X9_rankOf.2.2.1 1 = .ok (.lookupswitch 104 #[(4, 91), (5, 93), (6, 95), (142, 101), (143, 99), (145, 99), (147, 101), (160, 97), (161, 97), (162, 97)], 91) := by decide +kernel
theorem dX9_rankOf_92 : decode M_X9_rankOf.2.2.1 92 = .ok (.iconst 1, 1) := by decide +kernel
theorem dX9_rankOf_93 : decode M_X9_rankOf.2.2.1 93 = .ok (.ireturn, 1) := by decide +kernel
theorem dX9_rankOf_94 : decode M_X9_rankOf.2.2.1 94 = .ok (.iconst 2, 1) := by decide +kernel
theorem dX9_rankOf_95 : decode M_X9_rankOf.2.2.1 95 = .ok (.ireturn, 1) := by decide +kernel
theorem dX9_rankOf_96 : decode M_X9_rankOf.2.2.1 96 = .ok (.iconst 3, 1) := by decide +kernel
theorem dX9_rankOf_97 : decode M_X9_rankOf.2.2.1 97 = .ok (.ireturn, 1) := by decide +kernel
theorem dX9_rankOf_98 : decode M_X9_rankOf.2.2.1 98 = .ok (.iconst 4, 1) := by decide +kernel
theorem dX9_rankOf_99 : decode M_X9_rankOf.2.2.1 99 = .ok (.ireturn, 1) := by decide +kernel
theorem dX9_rankOf_100 : decode M_X9_rankOf.2.2.1 100 = .ok (.iconst 5, 1) := by decide +kernel
theorem dX9_rankOf_101 : decode M_X9_rankOf.2.2.1 101 = .ok (.ireturn, 1) := by decide +kernel
theorem dX9_rankOf_102 : decode M_X9_rankOf.2.2.1 102 = .ok (.bipush 6, 2) := by decide +kernel
theorem dX9_rankOf_104 : decode M_X9_rankOf.2.2.1 104 = .ok (.ireturn, 1) := by decide +kernel
theorem dX9_rankOf_105 : decode M_X9_rankOf.2.2.1 105 = .ok (.iconst 0, 1) := by decide +kernel
theorem dX9_rankOf_106 : decode M_X9_rankOf.2.2.1 106 = .ok (.ireturn, 1) := by decide +kernel
theorem dX9_advance_0 : decode M_X9_advance.2.2.1 0 = .ok (.aload_n 0, 1) := by decide +kernel
theorem dX9_advance_1 : decode M_X9_advance.2.2.1 1 = .ok (.invokevirtual 129, 3) := by decide +kernel
theorem dX9_advance_4 : decode M_X9_advance.2.2.1 4 = .ok (.aload_n 0, 1) := by decide +kernel
theorem dX9_advance_5 : decode M_X9_advance.2.2.1 5 = .ok (.aload_n 0, 1) := by decide +kernel
theorem dX9_advance_6 : decode M_X9_advance.2.2.1 6 = .ok (.getfield 56, 3) := by decide +kernel
theorem dX9_advance_9 : decode M_X9_advance.2.2.1 9 = .ok (.putfield 68, 3) := by decide +kernel
theorem dX9_advance_12 : decode M_X9_advance.2.2.1 12 = .ok (.aload_n 0, 1) := by decide +kernel
theorem dX9_advance_13 : decode M_X9_advance.2.2.1 13 = .ok (.getfield 56, 3) := by decide +kernel
theorem dX9_advance_16 : decode M_X9_advance.2.2.1 16 = .ok (.aload_n 0, 1) := by decide +kernel
theorem dX9_advance_17 : decode M_X9_advance.2.2.1 17 = .ok (.getfield 32, 3) := by decide +kernel
theorem dX9_advance_20 : decode M_X9_advance.2.2.1 20 = .ok (.if_icmp .ge 15, 3) := by decide +kernel
theorem dX9_advance_23 : decode M_X9_advance.2.2.1 23 = .ok (.aload_n 0, 1) := by decide +kernel
theorem dX9_advance_24 : decode M_X9_advance.2.2.1 24 = .ok (.getfield 56, 3) := by decide +kernel
theorem dX9_advance_27 : decode M_X9_advance.2.2.1 27 = .ok (.aload_n 0, 1) := by decide +kernel
theorem dX9_advance_28 : decode M_X9_advance.2.2.1 28 = .ok (.getfield 9, 3) := by decide +kernel
theorem dX9_advance_31 : decode M_X9_advance.2.2.1 31 = .ok (.arraylength, 1) := by decide +kernel
theorem dX9_advance_32 : decode M_X9_advance.2.2.1 32 = .ok (.if_icmp .lt 10, 3) := by decide +kernel
theorem dX9_advance_35 : decode M_X9_advance.2.2.1 35 = .ok (.aload_n 0, 1) := by decide +kernel
theorem dX9_advance_36 : decode M_X9_advance.2.2.1 36 = .ok (.bipush 21, 2) := by decide +kernel
theorem dX9_advance_38 : decode M_X9_advance.2.2.1 38 = .ok (.putfield 44, 3) := by decide +kernel
theorem dX9_advance_41 : decode M_X9_advance.2.2.1 41 = .ok (.return_, 1) := by decide +kernel
theorem dX9_advance_42 : decode M_X9_advance.2.2.1 42 = .ok (.aload_n 0, 1) := by decide +kernel
theorem dX9_advance_43 : decode M_X9_advance.2.2.1 43 = .ok (.getfield 9, 3) := by decide +kernel
theorem dX9_advance_46 : decode M_X9_advance.2.2.1 46 = .ok (.aload_n 0, 1) := by decide +kernel
theorem dX9_advance_47 : decode M_X9_advance.2.2.1 47 = .ok (.getfield 56, 3) := by decide +kernel
theorem dX9_advance_50 : decode M_X9_advance.2.2.1 50 = .ok (.iaload, 1) := by decide +kernel
theorem dX9_advance_51 : decode M_X9_advance.2.2.1 51 = .ok (.istore_n 1, 1) := by decide +kernel
theorem dX9_advance_52 : decode M_X9_advance.2.2.1 52 = .ok (.iload_n 1, 1) := by decide +kernel
theorem dX9_advance_53 : decode M_X9_advance.2.2.1 53 = .ok (.invokestatic 132, 3) := by decide +kernel
theorem dX9_advance_56 : decode M_X9_advance.2.2.1 56 = .ok (.ifCond .eq 18, 3) := by decide +kernel
theorem dX9_advance_59 : decode M_X9_advance.2.2.1 59 = .ok (.aload_n 0, 1) := by decide +kernel
theorem dX9_advance_60 : decode M_X9_advance.2.2.1 60 = .ok (.invokevirtual 136, 3) := by decide +kernel
theorem dX9_advance_63 : decode M_X9_advance.2.2.1 63 = .ok (.aload_n 0, 1) := by decide +kernel
theorem dX9_advance_64 : decode M_X9_advance.2.2.1 64 = .ok (.aload_n 0, 1) := by decide +kernel
theorem dX9_advance_65 : decode M_X9_advance.2.2.1 65 = .ok (.invokevirtual 139, 3) := by decide +kernel
theorem dX9_advance_68 : decode M_X9_advance.2.2.1 68 = .ok (.putfield 44, 3) := by decide +kernel
theorem dX9_advance_71 : decode M_X9_advance.2.2.1 71 = .ok (.goto 50, 3) := by decide +kernel
theorem dX9_advance_74 : decode M_X9_advance.2.2.1 74 = .ok (.iload_n 1, 1) := by decide +kernel
theorem dX9_advance_75 : decode M_X9_advance.2.2.1 75 = .ok (.invokestatic 143, 3) := by decide +kernel
theorem dX9_advance_78 : decode M_X9_advance.2.2.1 78 = .ok (.ifCond .eq 10, 3) := by decide +kernel
theorem dX9_advance_81 : decode M_X9_advance.2.2.1 81 = .ok (.aload_n 0, 1) := by decide +kernel
theorem dX9_advance_82 : decode M_X9_advance.2.2.1 82 = .ok (.invokevirtual 146, 3) := by decide +kernel
theorem dX9_advance_85 : decode M_X9_advance.2.2.1 85 = .ok (.goto 36, 3) := by decide +kernel
theorem dX9_advance_88 : decode M_X9_advance.2.2.1 88 = .ok (.aload_n 0, 1) := by decide +kernel
theorem dX9_advance_89 : decode M_X9_advance.2.2.1 89 = .ok (.dup, 1) := by decide +kernel
theorem dX9_advance_90 : decode M_X9_advance.2.2.1 90 = .ok (.getfield 56, 3) := by decide +kernel
theorem dX9_advance_93 : decode M_X9_advance.2.2.1 93 = .ok (.iconst 1, 1) := by decide +kernel
theorem dX9_advance_94 : decode M_X9_advance.2.2.1 94 = .ok (.iadd, 1) := by decide +kernel
theorem dX9_advance_95 : decode M_X9_advance.2.2.1 95 = .ok (.putfield 56, 3) := by decide +kernel
theorem dX9_advance_98 : decode M_X9_advance.2.2.1 98 = .ok (.aload_n 0, 1) := by decide +kernel
theorem dX9_advance_99 : decode M_X9_advance.2.2.1 99 = .ok (.ldc 149, 2) := by decide +kernel
theorem dX9_advance_101 : decode M_X9_advance.2.2.1 101 = .ok (.iload_n 1, 1) := by decide +kernel
theorem dX9_advance_102 : decode M_X9_advance.2.2.1 102 = .ok (.i2c, 1) := by decide +kernel
theorem dX9_advance_103 : decode M_X9_advance.2.2.1 103 = .ok (.invokevirtual 151, 3) := by decide +kernel
theorem dX9_advance_106 : decode M_X9_advance.2.2.1 106 = .ok (.ifCond .lt 10, 3) := by decide +kernel
theorem dX9_advance_109 : decode M_X9_advance.2.2.1 109 = .ok (.bipush 100, 2) := by decide +kernel
theorem dX9_advance_111 : decode M_X9_advance.2.2.1 111 = .ok (.iload_n 1, 1) := by decide +kernel
theorem dX9_advance_112 : decode M_X9_advance.2.2.1 112 = .ok (.iadd, 1) := by decide +kernel
theorem dX9_advance_113 : decode M_X9_advance.2.2.1 113 = .ok (.goto 5, 3) := by decide +kernel
theorem dX9_advance_116 : decode M_X9_advance.2.2.1 116 = .ok (.bipush 22, 2) := by decide +kernel
theorem dX9_advance_118 : decode M_X9_advance.2.2.1 118 = .ok (.putfield 44, 3) := by decide +kernel
theorem dX9_advance_121 : decode M_X9_advance.2.2.1 121 = .ok (.return_, 1) := by decide +kernel
theorem dX9_skipBlanks_0 : decode M_X9_skipBlanks.2.2.1 0 = .ok (.aload_n 0, 1) := by decide +kernel
theorem dX9_skipBlanks_1 : decode M_X9_skipBlanks.2.2.1 1 = .ok (.getfield 56, 3) := by decide +kernel
theorem dX9_skipBlanks_4 : decode M_X9_skipBlanks.2.2.1 4 = .ok (.aload_n 0, 1) := by decide +kernel
theorem dX9_skipBlanks_5 : decode M_X9_skipBlanks.2.2.1 5 = .ok (.getfield 32, 3) := by decide +kernel
theorem dX9_skipBlanks_8 : decode M_X9_skipBlanks.2.2.1 8 = .ok (.if_icmp .ge 57, 3) := by decide +kernel
theorem dX9_skipBlanks_11 : decode M_X9_skipBlanks.2.2.1 11 = .ok (.aload_n 0, 1) := by decide +kernel
theorem dX9_skipBlanks_12 : decode M_X9_skipBlanks.2.2.1 12 = .ok (.getfield 56, 3) := by decide +kernel
theorem dX9_skipBlanks_15 : decode M_X9_skipBlanks.2.2.1 15 = .ok (.aload_n 0, 1) := by decide +kernel
theorem dX9_skipBlanks_16 : decode M_X9_skipBlanks.2.2.1 16 = .ok (.getfield 9, 3) := by decide +kernel
theorem dX9_skipBlanks_19 : decode M_X9_skipBlanks.2.2.1 19 = .ok (.arraylength, 1) := by decide +kernel
theorem dX9_skipBlanks_20 : decode M_X9_skipBlanks.2.2.1 20 = .ok (.if_icmp .ge 45, 3) := by decide +kernel
theorem dX9_skipBlanks_23 : decode M_X9_skipBlanks.2.2.1 23 = .ok (.aload_n 0, 1) := by decide +kernel
theorem dX9_skipBlanks_24 : decode M_X9_skipBlanks.2.2.1 24 = .ok (.getfield 9, 3) := by decide +kernel
theorem dX9_skipBlanks_27 : decode M_X9_skipBlanks.2.2.1 27 = .ok (.aload_n 0, 1) := by decide +kernel
theorem dX9_skipBlanks_28 : decode M_X9_skipBlanks.2.2.1 28 = .ok (.getfield 56, 3) := by decide +kernel
theorem dX9_skipBlanks_31 : decode M_X9_skipBlanks.2.2.1 31 = .ok (.iaload, 1) := by decide +kernel
theorem dX9_skipBlanks_32 : decode M_X9_skipBlanks.2.2.1 32 = .ok (.bipush 32, 2) := by decide +kernel
theorem dX9_skipBlanks_34 : decode M_X9_skipBlanks.2.2.1 34 = .ok (.if_icmp .eq 18, 3) := by decide +kernel
theorem dX9_skipBlanks_37 : decode M_X9_skipBlanks.2.2.1 37 = .ok (.aload_n 0, 1) := by decide +kernel
theorem dX9_skipBlanks_38 : decode M_X9_skipBlanks.2.2.1 38 = .ok (.getfield 9, 3) := by decide +kernel
theorem dX9_skipBlanks_41 : decode M_X9_skipBlanks.2.2.1 41 = .ok (.aload_n 0, 1) := by decide +kernel
theorem dX9_skipBlanks_42 : decode M_X9_skipBlanks.2.2.1 42 = .ok (.getfield 56, 3) := by decide +kernel
theorem dX9_skipBlanks_45 : decode M_X9_skipBlanks.2.2.1 45 = .ok (.iaload, 1) := by decide +kernel
theorem dX9_skipBlanks_46 : decode M_X9_skipBlanks.2.2.1 46 = .ok (.bipush 10, 2) := by decide +kernel
theorem dX9_skipBlanks_48 : decode M_X9_skipBlanks.2.2.1 48 = .ok (.if_icmp .eq 4, 3) := by decide +kernel
theorem dX9_skipBlanks_51 : decode M_X9_skipBlanks.2.2.1 51 = .ok (.return_, 1) := by decide +kernel
theorem dX9_skipBlanks_52 : decode M_X9_skipBlanks.2.2.1 52 = .ok (.aload_n 0, 1) := by decide +kernel
theorem dX9_skipBlanks_53 : decode M_X9_skipBlanks.2.2.1 53 = .ok (.dup, 1) := by decide +kernel
theorem dX9_skipBlanks_54 : decode M_X9_skipBlanks.2.2.1 54 = .ok (.getfield 56, 3) := by decide +kernel
theorem dX9_skipBlanks_57 : decode M_X9_skipBlanks.2.2.1 57 = .ok (.iconst 1, 1) := by decide +kernel
theorem dX9_skipBlanks_58 : decode M_X9_skipBlanks.2.2.1 58 = .ok (.iadd, 1) := by decide +kernel
theorem dX9_skipBlanks_59 : decode M_X9_skipBlanks.2.2.1 59 = .ok (.putfield 56, 3) := by decide +kernel
theorem dX9_skipBlanks_62 : decode M_X9_skipBlanks.2.2.1 62 = .ok (.goto (-62), 3) := by decide +kernel
theorem dX9_skipBlanks_65 : decode M_X9_skipBlanks.2.2.1 65 = .ok (.return_, 1) := by decide +kernel
theorem dX9_skipLetters_0 : decode M_X9_skipLetters.2.2.1 0 = .ok (.aload_n 0, 1) := by decide +kernel
theorem dX9_skipLetters_1 : decode M_X9_skipLetters.2.2.1 1 = .ok (.getfield 56, 3) := by decide +kernel
theorem dX9_skipLetters_4 : decode M_X9_skipLetters.2.2.1 4 = .ok (.aload_n 0, 1) := by decide +kernel
theorem dX9_skipLetters_5 : decode M_X9_skipLetters.2.2.1 5 = .ok (.getfield 32, 3) := by decide +kernel
theorem dX9_skipLetters_8 : decode M_X9_skipLetters.2.2.1 8 = .ok (.if_icmp .ge 44, 3) := by decide +kernel
theorem dX9_skipLetters_11 : decode M_X9_skipLetters.2.2.1 11 = .ok (.aload_n 0, 1) := by decide +kernel
theorem dX9_skipLetters_12 : decode M_X9_skipLetters.2.2.1 12 = .ok (.getfield 56, 3) := by decide +kernel
theorem dX9_skipLetters_15 : decode M_X9_skipLetters.2.2.1 15 = .ok (.aload_n 0, 1) := by decide +kernel
theorem dX9_skipLetters_16 : decode M_X9_skipLetters.2.2.1 16 = .ok (.getfield 9, 3) := by decide +kernel
theorem dX9_skipLetters_19 : decode M_X9_skipLetters.2.2.1 19 = .ok (.arraylength, 1) := by decide +kernel
theorem dX9_skipLetters_20 : decode M_X9_skipLetters.2.2.1 20 = .ok (.if_icmp .ge 32, 3) := by decide +kernel
theorem dX9_skipLetters_23 : decode M_X9_skipLetters.2.2.1 23 = .ok (.aload_n 0, 1) := by decide +kernel
theorem dX9_skipLetters_24 : decode M_X9_skipLetters.2.2.1 24 = .ok (.getfield 9, 3) := by decide +kernel
theorem dX9_skipLetters_27 : decode M_X9_skipLetters.2.2.1 27 = .ok (.aload_n 0, 1) := by decide +kernel
theorem dX9_skipLetters_28 : decode M_X9_skipLetters.2.2.1 28 = .ok (.getfield 56, 3) := by decide +kernel
theorem dX9_skipLetters_31 : decode M_X9_skipLetters.2.2.1 31 = .ok (.iaload, 1) := by decide +kernel
theorem dX9_skipLetters_32 : decode M_X9_skipLetters.2.2.1 32 = .ok (.invokestatic 132, 3) := by decide +kernel
theorem dX9_skipLetters_35 : decode M_X9_skipLetters.2.2.1 35 = .ok (.ifCond .ne 4, 3) := by decide +kernel
theorem dX9_skipLetters_38 : decode M_X9_skipLetters.2.2.1 38 = .ok (.return_, 1) := by decide +kernel
theorem dX9_skipLetters_39 : decode M_X9_skipLetters.2.2.1 39 = .ok (.aload_n 0, 1) := by decide +kernel
theorem dX9_skipLetters_40 : decode M_X9_skipLetters.2.2.1 40 = .ok (.dup, 1) := by decide +kernel
theorem dX9_skipLetters_41 : decode M_X9_skipLetters.2.2.1 41 = .ok (.getfield 56, 3) := by decide +kernel
theorem dX9_skipLetters_44 : decode M_X9_skipLetters.2.2.1 44 = .ok (.iconst 1, 1) := by decide +kernel
theorem dX9_skipLetters_45 : decode M_X9_skipLetters.2.2.1 45 = .ok (.iadd, 1) := by decide +kernel
theorem dX9_skipLetters_46 : decode M_X9_skipLetters.2.2.1 46 = .ok (.putfield 56, 3) := by decide +kernel
theorem dX9_skipLetters_49 : decode M_X9_skipLetters.2.2.1 49 = .ok (.goto (-49), 3) := by decide +kernel
theorem dX9_skipLetters_52 : decode M_X9_skipLetters.2.2.1 52 = .ok (.return_, 1) := by decide +kernel
theorem dX9_takeNumber_0 : decode M_X9_takeNumber.2.2.1 0 = .ok (.aload_n 0, 1) := by decide +kernel
theorem dX9_takeNumber_1 : decode M_X9_takeNumber.2.2.1 1 = .ok (.iconst 0, 1) := by decide +kernel
theorem dX9_takeNumber_2 : decode M_X9_takeNumber.2.2.1 2 = .ok (.putfield 106, 3) := by decide +kernel
theorem dX9_takeNumber_5 : decode M_X9_takeNumber.2.2.1 5 = .ok (.aload_n 0, 1) := by decide +kernel
theorem dX9_takeNumber_6 : decode M_X9_takeNumber.2.2.1 6 = .ok (.getfield 56, 3) := by decide +kernel
theorem dX9_takeNumber_9 : decode M_X9_takeNumber.2.2.1 9 = .ok (.aload_n 0, 1) := by decide +kernel
theorem dX9_takeNumber_10 : decode M_X9_takeNumber.2.2.1 10 = .ok (.getfield 32, 3) := by decide +kernel
theorem dX9_takeNumber_13 : decode M_X9_takeNumber.2.2.1 13 = .ok (.if_icmp .ge 70, 3) := by decide +kernel
theorem dX9_takeNumber_16 : decode M_X9_takeNumber.2.2.1 16 = .ok (.aload_n 0, 1) := by decide +kernel
theorem dX9_takeNumber_17 : decode M_X9_takeNumber.2.2.1 17 = .ok (.getfield 56, 3) := by decide +kernel
theorem dX9_takeNumber_20 : decode M_X9_takeNumber.2.2.1 20 = .ok (.aload_n 0, 1) := by decide +kernel
theorem dX9_takeNumber_21 : decode M_X9_takeNumber.2.2.1 21 = .ok (.getfield 9, 3) := by decide +kernel
theorem dX9_takeNumber_24 : decode M_X9_takeNumber.2.2.1 24 = .ok (.arraylength, 1) := by decide +kernel
theorem dX9_takeNumber_25 : decode M_X9_takeNumber.2.2.1 25 = .ok (.if_icmp .ge 58, 3) := by decide +kernel
theorem dX9_takeNumber_28 : decode M_X9_takeNumber.2.2.1 28 = .ok (.aload_n 0, 1) := by decide +kernel
theorem dX9_takeNumber_29 : decode M_X9_takeNumber.2.2.1 29 = .ok (.getfield 9, 3) := by decide +kernel
theorem dX9_takeNumber_32 : decode M_X9_takeNumber.2.2.1 32 = .ok (.aload_n 0, 1) := by decide +kernel
theorem dX9_takeNumber_33 : decode M_X9_takeNumber.2.2.1 33 = .ok (.getfield 56, 3) := by decide +kernel
theorem dX9_takeNumber_36 : decode M_X9_takeNumber.2.2.1 36 = .ok (.iaload, 1) := by decide +kernel
theorem dX9_takeNumber_37 : decode M_X9_takeNumber.2.2.1 37 = .ok (.invokestatic 143, 3) := by decide +kernel
theorem dX9_takeNumber_40 : decode M_X9_takeNumber.2.2.1 40 = .ok (.ifCond .ne 6, 3) := by decide +kernel
theorem dX9_takeNumber_43 : decode M_X9_takeNumber.2.2.1 43 = .ok (.goto 40, 3) := by decide +kernel
theorem dX9_takeNumber_46 : decode M_X9_takeNumber.2.2.1 46 = .ok (.aload_n 0, 1) := by decide +kernel
theorem dX9_takeNumber_47 : decode M_X9_takeNumber.2.2.1 47 = .ok (.bipush 10, 2) := by decide +kernel
theorem dX9_takeNumber_49 : decode M_X9_takeNumber.2.2.1 49 = .ok (.aload_n 0, 1) := by decide +kernel
theorem dX9_takeNumber_50 : decode M_X9_takeNumber.2.2.1 50 = .ok (.getfield 106, 3) := by decide +kernel
theorem dX9_takeNumber_53 : decode M_X9_takeNumber.2.2.1 53 = .ok (.imul, 1) := by decide +kernel
theorem dX9_takeNumber_54 : decode M_X9_takeNumber.2.2.1 54 = .ok (.aload_n 0, 1) := by decide +kernel
theorem dX9_takeNumber_55 : decode M_X9_takeNumber.2.2.1 55 = .ok (.getfield 9, 3) := by decide +kernel
theorem dX9_takeNumber_58 : decode M_X9_takeNumber.2.2.1 58 = .ok (.aload_n 0, 1) := by decide +kernel
theorem dX9_takeNumber_59 : decode M_X9_takeNumber.2.2.1 59 = .ok (.getfield 56, 3) := by decide +kernel
theorem dX9_takeNumber_62 : decode M_X9_takeNumber.2.2.1 62 = .ok (.iaload, 1) := by decide +kernel
theorem dX9_takeNumber_63 : decode M_X9_takeNumber.2.2.1 63 = .ok (.iadd, 1) := by decide +kernel
theorem dX9_takeNumber_64 : decode M_X9_takeNumber.2.2.1 64 = .ok (.bipush 48, 2) := by decide +kernel
theorem dX9_takeNumber_66 : decode M_X9_takeNumber.2.2.1 66 = .ok (.isub, 1) := by decide +kernel
theorem dX9_takeNumber_67 : decode M_X9_takeNumber.2.2.1 67 = .ok (.putfield 106, 3) := by decide +kernel
theorem dX9_takeNumber_70 : decode M_X9_takeNumber.2.2.1 70 = .ok (.aload_n 0, 1) := by decide +kernel
theorem dX9_takeNumber_71 : decode M_X9_takeNumber.2.2.1 71 = .ok (.dup, 1) := by decide +kernel
theorem dX9_takeNumber_72 : decode M_X9_takeNumber.2.2.1 72 = .ok (.getfield 56, 3) := by decide +kernel
theorem dX9_takeNumber_75 : decode M_X9_takeNumber.2.2.1 75 = .ok (.iconst 1, 1) := by decide +kernel
theorem dX9_takeNumber_76 : decode M_X9_takeNumber.2.2.1 76 = .ok (.iadd, 1) := by decide +kernel
theorem dX9_takeNumber_77 : decode M_X9_takeNumber.2.2.1 77 = .ok (.putfield 56, 3) := by decide +kernel
theorem dX9_takeNumber_80 : decode M_X9_takeNumber.2.2.1 80 = .ok (.goto (-75), 3) := by decide +kernel
theorem dX9_takeNumber_83 : decode M_X9_takeNumber.2.2.1 83 = .ok (.aload_n 0, 1) := by decide +kernel
theorem dX9_takeNumber_84 : decode M_X9_takeNumber.2.2.1 84 = .ok (.aload_n 0, 1) := by decide +kernel
theorem dX9_takeNumber_85 : decode M_X9_takeNumber.2.2.1 85 = .ok (.getfield 56, 3) := by decide +kernel
theorem dX9_takeNumber_88 : decode M_X9_takeNumber.2.2.1 88 = .ok (.aload_n 0, 1) := by decide +kernel
theorem dX9_takeNumber_89 : decode M_X9_takeNumber.2.2.1 89 = .ok (.getfield 68, 3) := by decide +kernel
theorem dX9_takeNumber_92 : decode M_X9_takeNumber.2.2.1 92 = .ok (.isub, 1) := by decide +kernel
theorem dX9_takeNumber_93 : decode M_X9_takeNumber.2.2.1 93 = .ok (.iconst 4, 1) := by decide +kernel
theorem dX9_takeNumber_94 : decode M_X9_takeNumber.2.2.1 94 = .ok (.if_icmp .gt 8, 3) := by decide +kernel
theorem dX9_takeNumber_97 : decode M_X9_takeNumber.2.2.1 97 = .ok (.bipush 20, 2) := by decide +kernel
theorem dX9_takeNumber_99 : decode M_X9_takeNumber.2.2.1 99 = .ok (.goto 5, 3) := by decide +kernel
theorem dX9_takeNumber_102 : decode M_X9_takeNumber.2.2.1 102 = .ok (.bipush 22, 2) := by decide +kernel
theorem dX9_takeNumber_104 : decode M_X9_takeNumber.2.2.1 104 = .ok (.putfield 44, 3) := by decide +kernel
theorem dX9_takeNumber_107 : decode M_X9_takeNumber.2.2.1 107 = .ok (.return_, 1) := by decide +kernel
theorem dX9_keyword_0 : decode M_X9_keyword.2.2.1 0 = .ok (.iconst 0, 1) := by decide +kernel
theorem dX9_keyword_1 : decode M_X9_keyword.2.2.1 1 = .ok (.istore_n 1, 1) := by decide +kernel
theorem dX9_keyword_2 : decode M_X9_keyword.2.2.1 2 = .ok (.iload_n 1, 1) := by decide +kernel
theorem dX9_keyword_3 : decode M_X9_keyword.2.2.1 3 = .ok (.bipush 13, 2) := by decide +kernel
theorem dX9_keyword_5 : decode M_X9_keyword.2.2.1 5 = .ok (.if_icmp .gt 22, 3) := by decide +kernel
theorem dX9_keyword_8 : decode M_X9_keyword.2.2.1 8 = .ok (.aload_n 0, 1) := by decide +kernel
theorem dX9_keyword_9 : decode M_X9_keyword.2.2.1 9 = .ok (.iload_n 1, 1) := by decide +kernel
theorem dX9_keyword_10 : decode M_X9_keyword.2.2.1 10 = .ok (.invokestatic 156, 3) := by decide +kernel
theorem dX9_keyword_13 : decode M_X9_keyword.2.2.1 13 = .ok (.invokevirtual 160, 3) := by decide +kernel
theorem dX9_keyword_16 : decode M_X9_keyword.2.2.1 16 = .ok (.ifCond .eq 5, 3) := by decide +kernel
theorem dX9_keyword_19 : decode M_X9_keyword.2.2.1 19 = .ok (.iload_n 1, 1) := by decide +kernel
theorem dX9_keyword_20 : decode M_X9_keyword.2.2.1 20 = .ok (.ireturn, 1) := by decide +kernel
theorem dX9_keyword_21 : decode M_X9_keyword.2.2.1 21 = .ok (.iinc 1 1, 3) := by decide +kernel
theorem dX9_keyword_24 : decode M_X9_keyword.2.2.1 24 = .ok (.goto (-22), 3) := by decide +kernel
theorem dX9_keyword_27 : decode M_X9_keyword.2.2.1 27 = .ok (.bipush 22, 2) := by decide +kernel
theorem dX9_keyword_29 : decode M_X9_keyword.2.2.1 29 = .ok (.ireturn, 1) := by decide +kernel
theorem dX9_isTokenText_0 : decode M_X9_isTokenText.2.2.1 0 = .ok (.aload_n 1, 1) := by decide +kernel
theorem dX9_isTokenText_1 : decode M_X9_isTokenText.2.2.1 1 = .ok (.invokevirtual 164, 3) := by decide +kernel
theorem dX9_isTokenText_4 : decode M_X9_isTokenText.2.2.1 4 = .ok (.aload_n 0, 1) := by decide +kernel
theorem dX9_isTokenText_5 : decode M_X9_isTokenText.2.2.1 5 = .ok (.getfield 56, 3) := by decide +kernel
theorem dX9_isTokenText_8 : decode M_X9_isTokenText.2.2.1 8 = .ok (.aload_n 0, 1) := by decide +kernel
theorem dX9_isTokenText_9 : decode M_X9_isTokenText.2.2.1 9 = .ok (.getfield 68, 3) := by decide +kernel
theorem dX9_isTokenText_12 : decode M_X9_isTokenText.2.2.1 12 = .ok (.isub, 1) := by decide +kernel
theorem dX9_isTokenText_13 : decode M_X9_isTokenText.2.2.1 13 = .ok (.if_icmp .ne 15, 3) := by decide +kernel
theorem dX9_isTokenText_16 : decode M_X9_isTokenText.2.2.1 16 = .ok (.aload_n 0, 1) := by decide +kernel
theorem dX9_isTokenText_17 : decode M_X9_isTokenText.2.2.1 17 = .ok (.getfield 56, 3) := by decide +kernel
theorem dX9_isTokenText_20 : decode M_X9_isTokenText.2.2.1 20 = .ok (.aload_n 0, 1) := by decide +kernel
theorem dX9_isTokenText_21 : decode M_X9_isTokenText.2.2.1 21 = .ok (.getfield 9, 3) := by decide +kernel
theorem dX9_isTokenText_24 : decode M_X9_isTokenText.2.2.1 24 = .ok (.arraylength, 1) := by decide +kernel
theorem dX9_isTokenText_25 : decode M_X9_isTokenText.2.2.1 25 = .ok (.if_icmp .le 5, 3) := by decide +kernel
theorem dX9_isTokenText_28 : decode M_X9_isTokenText.2.2.1 28 = .ok (.iconst 0, 1) := by decide +kernel
theorem dX9_isTokenText_29 : decode M_X9_isTokenText.2.2.1 29 = .ok (.ireturn, 1) := by decide +kernel
theorem dX9_isTokenText_30 : decode M_X9_isTokenText.2.2.1 30 = .ok (.iconst 0, 1) := by decide +kernel
theorem dX9_isTokenText_31 : decode M_X9_isTokenText.2.2.1 31 = .ok (.istore_n 2, 1) := by decide +kernel
theorem dX9_isTokenText_32 : decode M_X9_isTokenText.2.2.1 32 = .ok (.iload_n 2, 1) := by decide +kernel
theorem dX9_isTokenText_33 : decode M_X9_isTokenText.2.2.1 33 = .ok (.aload_n 1, 1) := by decide +kernel
theorem dX9_isTokenText_34 : decode M_X9_isTokenText.2.2.1 34 = .ok (.invokevirtual 164, 3) := by decide +kernel
theorem dX9_isTokenText_37 : decode M_X9_isTokenText.2.2.1 37 = .ok (.if_icmp .ge 30, 3) := by decide +kernel
theorem dX9_isTokenText_40 : decode M_X9_isTokenText.2.2.1 40 = .ok (.aload_n 0, 1) := by decide +kernel
theorem dX9_isTokenText_41 : decode M_X9_isTokenText.2.2.1 41 = .ok (.getfield 9, 3) := by decide +kernel
theorem dX9_isTokenText_44 : decode M_X9_isTokenText.2.2.1 44 = .ok (.aload_n 0, 1) := by decide +kernel
theorem dX9_isTokenText_45 : decode M_X9_isTokenText.2.2.1 45 = .ok (.getfield 68, 3) := by decide +kernel
theorem dX9_isTokenText_48 : decode M_X9_isTokenText.2.2.1 48 = .ok (.iload_n 2, 1) := by decide +kernel
theorem dX9_isTokenText_49 : decode M_X9_isTokenText.2.2.1 49 = .ok (.iadd, 1) := by decide +kernel
theorem dX9_isTokenText_50 : decode M_X9_isTokenText.2.2.1 50 = .ok (.iaload, 1) := by decide +kernel
theorem dX9_isTokenText_51 : decode M_X9_isTokenText.2.2.1 51 = .ok (.aload_n 1, 1) := by decide +kernel
theorem dX9_isTokenText_52 : decode M_X9_isTokenText.2.2.1 52 = .ok (.iload_n 2, 1) := by decide +kernel
theorem dX9_isTokenText_53 : decode M_X9_isTokenText.2.2.1 53 = .ok (.invokevirtual 167, 3) := by decide +kernel
theorem dX9_isTokenText_56 : decode M_X9_isTokenText.2.2.1 56 = .ok (.if_icmp .eq 5, 3) := by decide +kernel
theorem dX9_isTokenText_59 : decode M_X9_isTokenText.2.2.1 59 = .ok (.iconst 0, 1) := by decide +kernel
theorem dX9_isTokenText_60 : decode M_X9_isTokenText.2.2.1 60 = .ok (.ireturn, 1) := by decide +kernel
theorem dX9_isTokenText_61 : decode M_X9_isTokenText.2.2.1 61 = .ok (.iinc 2 1, 3) := by decide +kernel
theorem dX9_isTokenText_64 : decode M_X9_isTokenText.2.2.1 64 = .ok (.goto (-32), 3) := by decide +kernel
theorem dX9_isTokenText_67 : decode M_X9_isTokenText.2.2.1 67 = .ok (.iconst 1, 1) := by decide +kernel
theorem dX9_isTokenText_68 : decode M_X9_isTokenText.2.2.1 68 = .ok (.ireturn, 1) := by decide +kernel
theorem dX9_isLetter_0 : decode M_X9_isLetter.2.2.1 0 = .ok (.iload_n 0, 1) := by decide +kernel
theorem dX9_isLetter_1 : decode M_X9_isLetter.2.2.1 1 = .ok (.bipush 97, 2) := by decide +kernel
theorem dX9_isLetter_3 : decode M_X9_isLetter.2.2.1 3 = .ok (.if_icmp .lt 9, 3) := by decide +kernel
theorem dX9_isLetter_6 : decode M_X9_isLetter.2.2.1 6 = .ok (.iload_n 0, 1) := by decide +kernel
theorem dX9_isLetter_7 : decode M_X9_isLetter.2.2.1 7 = .ok (.bipush 122, 2) := by decide +kernel
theorem dX9_isLetter_9 : decode M_X9_isLetter.2.2.1 9 = .ok (.if_icmp .le 15, 3) := by decide +kernel
theorem dX9_isLetter_12 : decode M_X9_isLetter.2.2.1 12 = .ok (.iload_n 0, 1) := by decide +kernel
theorem dX9_isLetter_13 : decode M_X9_isLetter.2.2.1 13 = .ok (.bipush 65, 2) := by decide +kernel
theorem dX9_isLetter_15 : decode M_X9_isLetter.2.2.1 15 = .ok (.if_icmp .lt 13, 3) := by decide +kernel
theorem dX9_isLetter_18 : decode M_X9_isLetter.2.2.1 18 = .ok (.iload_n 0, 1) := by decide +kernel
theorem dX9_isLetter_19 : decode M_X9_isLetter.2.2.1 19 = .ok (.bipush 90, 2) := by decide +kernel
theorem dX9_isLetter_21 : decode M_X9_isLetter.2.2.1 21 = .ok (.if_icmp .gt 7, 3) := by decide +kernel
theorem dX9_isLetter_24 : decode M_X9_isLetter.2.2.1 24 = .ok (.iconst 1, 1) := by decide +kernel
theorem dX9_isLetter_25 : decode M_X9_isLetter.2.2.1 25 = .ok (.goto 4, 3) := by decide +kernel
theorem dX9_isLetter_28 : decode M_X9_isLetter.2.2.1 28 = .ok (.iconst 0, 1) := by decide +kernel
theorem dX9_isLetter_29 : decode M_X9_isLetter.2.2.1 29 = .ok (.ireturn, 1) := by decide +kernel
theorem dX9_isDigit_0 : decode M_X9_isDigit.2.2.1 0 = .ok (.iload_n 0, 1) := by decide +kernel
theorem dX9_isDigit_1 : decode M_X9_isDigit.2.2.1 1 = .ok (.bipush 48, 2) := by decide +kernel
theorem dX9_isDigit_3 : decode M_X9_isDigit.2.2.1 3 = .ok (.if_icmp .lt 13, 3) := by decide +kernel
theorem dX9_isDigit_6 : decode M_X9_isDigit.2.2.1 6 = .ok (.iload_n 0, 1) := by decide +kernel
theorem dX9_isDigit_7 : decode M_X9_isDigit.2.2.1 7 = .ok (.bipush 57, 2) := by decide +kernel
theorem dX9_isDigit_9 : decode M_X9_isDigit.2.2.1 9 = .ok (.if_icmp .gt 7, 3) := by decide +kernel
theorem dX9_isDigit_12 : decode M_X9_isDigit.2.2.1 12 = .ok (.iconst 1, 1) := by decide +kernel
theorem dX9_isDigit_13 : decode M_X9_isDigit.2.2.1 13 = .ok (.goto 4, 3) := by decide +kernel
theorem dX9_isDigit_16 : decode M_X9_isDigit.2.2.1 16 = .ok (.iconst 0, 1) := by decide +kernel
theorem dX9_isDigit_17 : decode M_X9_isDigit.2.2.1 17 = .ok (.ireturn, 1) := by decide +kernel
theorem dX9_spelling_0 : decode M_X9_spelling.2.2.1 0 = .ok (.iload_n 0, 1) := by decide +kernel
theorem dX9_spelling_1 : decode M_X9_spelling.2.2.1 1 = .ok (.tableswitch 106 0 12 #[67, 70, 73, 76, 79, 82, 85, 88, 91, 94, 97, 100, 103], 67) := by decide +kernel
theorem dX9_spelling_68 : decode M_X9_spelling.2.2.1 68 = .ok (.ldc 171, 2) := by decide +kernel
theorem dX9_spelling_70 : decode M_X9_spelling.2.2.1 70 = .ok (.areturn, 1) := by decide +kernel
theorem dX9_spelling_71 : decode M_X9_spelling.2.2.1 71 = .ok (.ldc 173, 2) := by decide +kernel
theorem dX9_spelling_73 : decode M_X9_spelling.2.2.1 73 = .ok (.areturn, 1) := by decide +kernel
theorem dX9_spelling_74 : decode M_X9_spelling.2.2.1 74 = .ok (.ldc 175, 2) := by decide +kernel
theorem dX9_spelling_76 : decode M_X9_spelling.2.2.1 76 = .ok (.areturn, 1) := by decide +kernel
theorem dX9_spelling_77 : decode M_X9_spelling.2.2.1 77 = .ok (.ldc 177, 2) := by decide +kernel
theorem dX9_spelling_79 : decode M_X9_spelling.2.2.1 79 = .ok (.areturn, 1) := by decide +kernel
theorem dX9_spelling_80 : decode M_X9_spelling.2.2.1 80 = .ok (.ldc 179, 2) := by decide +kernel
theorem dX9_spelling_82 : decode M_X9_spelling.2.2.1 82 = .ok (.areturn, 1) := by decide +kernel
theorem dX9_spelling_83 : decode M_X9_spelling.2.2.1 83 = .ok (.ldc 181, 2) := by decide +kernel
theorem dX9_spelling_85 : decode M_X9_spelling.2.2.1 85 = .ok (.areturn, 1) := by decide +kernel
theorem dX9_spelling_86 : decode M_X9_spelling.2.2.1 86 = .ok (.ldc 183, 2) := by decide +kernel
theorem dX9_spelling_88 : decode M_X9_spelling.2.2.1 88 = .ok (.areturn, 1) := by decide +kernel
theorem dX9_spelling_89 : decode M_X9_spelling.2.2.1 89 = .ok (.ldc 185, 2) := by decide +kernel
theorem dX9_spelling_91 : decode M_X9_spelling.2.2.1 91 = .ok (.areturn, 1) := by decide +kernel
theorem dX9_spelling_92 : decode M_X9_spelling.2.2.1 92 = .ok (.ldc 187, 2) := by decide +kernel
theorem dX9_spelling_94 : decode M_X9_spelling.2.2.1 94 = .ok (.areturn, 1) := by decide +kernel
theorem dX9_spelling_95 : decode M_X9_spelling.2.2.1 95 = .ok (.ldc 189, 2) := by decide +kernel
theorem dX9_spelling_97 : decode M_X9_spelling.2.2.1 97 = .ok (.areturn, 1) := by decide +kernel
theorem dX9_spelling_98 : decode M_X9_spelling.2.2.1 98 = .ok (.ldc 191, 2) := by decide +kernel
theorem dX9_spelling_100 : decode M_X9_spelling.2.2.1 100 = .ok (.areturn, 1) := by decide +kernel
theorem dX9_spelling_101 : decode M_X9_spelling.2.2.1 101 = .ok (.ldc 192, 2) := by decide +kernel
theorem dX9_spelling_103 : decode M_X9_spelling.2.2.1 103 = .ok (.areturn, 1) := by decide +kernel
theorem dX9_spelling_104 : decode M_X9_spelling.2.2.1 104 = .ok (.ldc 194, 2) := by decide +kernel
theorem dX9_spelling_106 : decode M_X9_spelling.2.2.1 106 = .ok (.areturn, 1) := by decide +kernel
theorem dX9_spelling_107 : decode M_X9_spelling.2.2.1 107 = .ok (.ldc 196, 2) := by decide +kernel
theorem dX9_spelling_109 : decode M_X9_spelling.2.2.1 109 = .ok (.areturn, 1) := by decide +kernel
theorem dX10_init_0 : decode M_X10_init.2.2.1 0 = .ok (.aload_n 0, 1) := by decide +kernel
theorem dX10_init_1 : decode M_X10_init.2.2.1 1 = .ok (.invokespecial 3, 3) := by decide +kernel
theorem dX10_init_4 : decode M_X10_init.2.2.1 4 = .ok (.aload_n 0, 1) := by decide +kernel
theorem dX10_init_5 : decode M_X10_init.2.2.1 5 = .ok (.bipush 8, 2) := by decide +kernel
theorem dX10_init_7 : decode M_X10_init.2.2.1 7 = .ok (.newarray .int, 2) := by decide +kernel
theorem dX10_init_9 : decode M_X10_init.2.2.1 9 = .ok (.putfield 9, 3) := by decide +kernel
theorem dX10_init_12 : decode M_X10_init.2.2.1 12 = .ok (.return_, 1) := by decide +kernel
theorem dX10_append_0 : decode M_X10_append.2.2.1 0 = .ok (.iload_n 1, 1) := by decide +kernel
theorem dX10_append_1 : decode M_X10_append.2.2.1 1 = .ok (.iconst 0, 1) := by decide +kernel
theorem dX10_append_2 : decode M_X10_append.2.2.1 2 = .ok (.ldc 15, 2) := by decide +kernel
theorem dX10_append_4 : decode M_X10_append.2.2.1 4 = .ok (.invokestatic 16, 3) := by decide +kernel
theorem dX10_append_7 : decode M_X10_append.2.2.1 7 = .ok (.ifCond .eq 15, 3) := by decide +kernel
theorem dX10_append_10 : decode M_X10_append.2.2.1 10 = .ok (.aload_n 0, 1) := by decide +kernel
theorem dX10_append_11 : decode M_X10_append.2.2.1 11 = .ok (.getfield 20, 3) := by decide +kernel
theorem dX10_append_14 : decode M_X10_append.2.2.1 14 = .ok (.aload_n 0, 1) := by decide +kernel
theorem dX10_append_15 : decode M_X10_append.2.2.1 15 = .ok (.getfield 9, 3) := by decide +kernel
theorem dX10_append_18 : decode M_X10_append.2.2.1 18 = .ok (.arraylength, 1) := by decide +kernel
theorem dX10_append_19 : decode M_X10_append.2.2.1 19 = .ok (.if_icmp .lt 5, 3) := by decide +kernel
theorem dX10_append_22 : decode M_X10_append.2.2.1 22 = .ok (.iconst 0, 1) := by decide +kernel
theorem dX10_append_23 : decode M_X10_append.2.2.1 23 = .ok (.ireturn, 1) := by decide +kernel
theorem dX10_append_24 : decode M_X10_append.2.2.1 24 = .ok (.aload_n 0, 1) := by decide +kernel
theorem dX10_append_25 : decode M_X10_append.2.2.1 25 = .ok (.getfield 20, 3) := by decide +kernel
theorem dX10_append_28 : decode M_X10_append.2.2.1 28 = .ok (.ifCond .le 20, 3) := by decide +kernel
theorem dX10_append_31 : decode M_X10_append.2.2.1 31 = .ok (.iload_n 1, 1) := by decide +kernel
theorem dX10_append_32 : decode M_X10_append.2.2.1 32 = .ok (.aload_n 0, 1) := by decide +kernel
theorem dX10_append_33 : decode M_X10_append.2.2.1 33 = .ok (.getfield 9, 3) := by decide +kernel
theorem dX10_append_36 : decode M_X10_append.2.2.1 36 = .ok (.aload_n 0, 1) := by decide +kernel
theorem dX10_append_37 : decode M_X10_append.2.2.1 37 = .ok (.getfield 20, 3) := by decide +kernel
theorem dX10_append_40 : decode M_X10_append.2.2.1 40 = .ok (.iconst 1, 1) := by decide +kernel
theorem dX10_append_41 : decode M_X10_append.2.2.1 41 = .ok (.isub, 1) := by decide +kernel
theorem dX10_append_42 : decode M_X10_append.2.2.1 42 = .ok (.iaload, 1) := by decide +kernel
theorem dX10_append_43 : decode M_X10_append.2.2.1 43 = .ok (.if_icmp .gt 5, 3) := by decide +kernel
theorem dX10_append_46 : decode M_X10_append.2.2.1 46 = .ok (.iconst 0, 1) := by decide +kernel
theorem dX10_append_47 : decode M_X10_append.2.2.1 47 = .ok (.ireturn, 1) := by decide +kernel
theorem dX10_append_48 : decode M_X10_append.2.2.1 48 = .ok (.aload_n 0, 1) := by decide +kernel
theorem dX10_append_49 : decode M_X10_append.2.2.1 49 = .ok (.getfield 9, 3) := by decide +kernel
theorem dX10_append_52 : decode M_X10_append.2.2.1 52 = .ok (.aload_n 0, 1) := by decide +kernel
theorem dX10_append_53 : decode M_X10_append.2.2.1 53 = .ok (.getfield 20, 3) := by decide +kernel
theorem dX10_append_56 : decode M_X10_append.2.2.1 56 = .ok (.iload_n 1, 1) := by decide +kernel
theorem dX10_append_57 : decode M_X10_append.2.2.1 57 = .ok (.iastore, 1) := by decide +kernel
theorem dX10_append_58 : decode M_X10_append.2.2.1 58 = .ok (.aload_n 0, 1) := by decide +kernel
theorem dX10_append_59 : decode M_X10_append.2.2.1 59 = .ok (.dup, 1) := by decide +kernel
theorem dX10_append_60 : decode M_X10_append.2.2.1 60 = .ok (.getfield 20, 3) := by decide +kernel
theorem dX10_append_63 : decode M_X10_append.2.2.1 63 = .ok (.iconst 1, 1) := by decide +kernel
theorem dX10_append_64 : decode M_X10_append.2.2.1 64 = .ok (.iadd, 1) := by decide +kernel
theorem dX10_append_65 : decode M_X10_append.2.2.1 65 = .ok (.putfield 20, 3) := by decide +kernel
theorem dX10_append_68 : decode M_X10_append.2.2.1 68 = .ok (.iconst 1, 1) := by decide +kernel
theorem dX10_append_69 : decode M_X10_append.2.2.1 69 = .ok (.ireturn, 1) := by decide +kernel
theorem dX10_waysToPart_0 : decode M_X10_waysToPart.2.2.1 0 = .ok (.aload_n 0, 1) := by decide +kernel
theorem dX10_waysToPart_1 : decode M_X10_waysToPart.2.2.1 1 = .ok (.getfield 20, 3) := by decide +kernel
theorem dX10_waysToPart_4 : decode M_X10_waysToPart.2.2.1 4 = .ok (.iconst 2, 1) := by decide +kernel
theorem dX10_waysToPart_5 : decode M_X10_waysToPart.2.2.1 5 = .ok (.irem, 1) := by decide +kernel
theorem dX10_waysToPart_6 : decode M_X10_waysToPart.2.2.1 6 = .ok (.ifCond .ne 20, 3) := by decide +kernel
theorem dX10_waysToPart_9 : decode M_X10_waysToPart.2.2.1 9 = .ok (.aload_n 0, 1) := by decide +kernel
theorem dX10_waysToPart_10 : decode M_X10_waysToPart.2.2.1 10 = .ok (.getfield 9, 3) := by decide +kernel
theorem dX10_waysToPart_13 : decode M_X10_waysToPart.2.2.1 13 = .ok (.aload_n 0, 1) := by decide +kernel
theorem dX10_waysToPart_14 : decode M_X10_waysToPart.2.2.1 14 = .ok (.getfield 20, 3) := by decide +kernel
theorem dX10_waysToPart_17 : decode M_X10_waysToPart.2.2.1 17 = .ok (.iconst 0, 1) := by decide +kernel
theorem dX10_waysToPart_18 : decode M_X10_waysToPart.2.2.1 18 = .ok (.iload_n 1, 1) := by decide +kernel
theorem dX10_waysToPart_19 : decode M_X10_waysToPart.2.2.1 19 = .ok (.iconst 0, 1) := by decide +kernel
theorem dX10_waysToPart_20 : decode M_X10_waysToPart.2.2.1 20 = .ok (.invokestatic 24, 3) := by decide +kernel
theorem dX10_waysToPart_23 : decode M_X10_waysToPart.2.2.1 23 = .ok (.goto 4, 3) := by decide +kernel
theorem dX10_waysToPart_26 : decode M_X10_waysToPart.2.2.1 26 = .ok (.iconst 0, 1) := by decide +kernel
theorem dX10_waysToPart_27 : decode M_X10_waysToPart.2.2.1 27 = .ok (.ireturn, 1) := by decide +kernel
theorem dX10_waysFrom_0 : decode M_X10_waysFrom.2.2.1 0 = .ok (.iconst 0, 1) := by decide +kernel
theorem dX10_waysFrom_1 : decode M_X10_waysFrom.2.2.1 1 = .ok (.istore 5, 2) := by decide +kernel
theorem dX10_waysFrom_3 : decode M_X10_waysFrom.2.2.1 3 = .ok (.iload 5, 2) := by decide +kernel
theorem dX10_waysFrom_5 : decode M_X10_waysFrom.2.2.1 5 = .ok (.iload_n 1, 1) := by decide +kernel
theorem dX10_waysFrom_6 : decode M_X10_waysFrom.2.2.1 6 = .ok (.if_icmp .ge 19, 3) := by decide +kernel
theorem dX10_waysFrom_9 : decode M_X10_waysFrom.2.2.1 9 = .ok (.iload_n 2, 1) := by decide +kernel
theorem dX10_waysFrom_10 : decode M_X10_waysFrom.2.2.1 10 = .ok (.iload 5, 2) := by decide +kernel
theorem dX10_waysFrom_12 : decode M_X10_waysFrom.2.2.1 12 = .ok (.ishr, 1) := by decide +kernel
theorem dX10_waysFrom_13 : decode M_X10_waysFrom.2.2.1 13 = .ok (.iconst 1, 1) := by decide +kernel
theorem dX10_waysFrom_14 : decode M_X10_waysFrom.2.2.1 14 = .ok (.iand, 1) := by decide +kernel
theorem dX10_waysFrom_15 : decode M_X10_waysFrom.2.2.1 15 = .ok (.iconst 1, 1) := by decide +kernel
theorem dX10_waysFrom_16 : decode M_X10_waysFrom.2.2.1 16 = .ok (.if_icmp .ne 9, 3) := by decide +kernel
theorem dX10_waysFrom_19 : decode M_X10_waysFrom.2.2.1 19 = .ok (.iinc 5 1, 3) := by decide +kernel
theorem dX10_waysFrom_22 : decode M_X10_waysFrom.2.2.1 22 = .ok (.goto (-19), 3) := by decide +kernel
theorem dX10_waysFrom_25 : decode M_X10_waysFrom.2.2.1 25 = .ok (.iload 5, 2) := by decide +kernel
theorem dX10_waysFrom_27 : decode M_X10_waysFrom.2.2.1 27 = .ok (.iload_n 1, 1) := by decide +kernel
theorem dX10_waysFrom_28 : decode M_X10_waysFrom.2.2.1 28 = .ok (.if_icmp .ge 10, 3) := by decide +kernel
theorem dX10_waysFrom_31 : decode M_X10_waysFrom.2.2.1 31 = .ok (.iload 5, 2) := by decide +kernel
theorem dX10_waysFrom_33 : decode M_X10_waysFrom.2.2.1 33 = .ok (.aload_n 0, 1) := by decide +kernel
theorem dX10_waysFrom_34 : decode M_X10_waysFrom.2.2.1 34 = .ok (.arraylength, 1) := by decide +kernel
theorem dX10_waysFrom_35 : decode M_X10_waysFrom.2.2.1 35 = .ok (.if_icmp .lt 5, 3) := by decide +kernel
theorem dX10_waysFrom_38 : decode M_X10_waysFrom.2.2.1 38 = .ok (.iconst 1, 1) := by decide +kernel
theorem dX10_waysFrom_39 : decode M_X10_waysFrom.2.2.1 39 = .ok (.ireturn, 1) := by decide +kernel
theorem dX10_waysFrom_40 : decode M_X10_waysFrom.2.2.1 40 = .ok (.iconst 0, 1) := by decide +kernel
theorem dX10_waysFrom_41 : decode M_X10_waysFrom.2.2.1 41 = .ok (.istore 6, 2) := by decide +kernel
theorem dX10_waysFrom_43 : decode M_X10_waysFrom.2.2.1 43 = .ok (.iload 5, 2) := by decide +kernel
theorem dX10_waysFrom_45 : decode M_X10_waysFrom.2.2.1 45 = .ok (.iconst 1, 1) := by decide +kernel
theorem dX10_waysFrom_46 : decode M_X10_waysFrom.2.2.1 46 = .ok (.iadd, 1) := by decide +kernel
theorem dX10_waysFrom_47 : decode M_X10_waysFrom.2.2.1 47 = .ok (.istore 7, 2) := by decide +kernel
theorem dX10_waysFrom_49 : decode M_X10_waysFrom.2.2.1 49 = .ok (.iload 7, 2) := by decide +kernel
theorem dX10_waysFrom_51 : decode M_X10_waysFrom.2.2.1 51 = .ok (.iload_n 1, 1) := by decide +kernel
theorem dX10_waysFrom_52 : decode M_X10_waysFrom.2.2.1 52 = .ok (.if_icmp .ge 73, 3) := by decide +kernel
theorem dX10_waysFrom_55 : decode M_X10_waysFrom.2.2.1 55 = .ok (.iload 7, 2) := by decide +kernel
theorem dX10_waysFrom_57 : decode M_X10_waysFrom.2.2.1 57 = .ok (.aload_n 0, 1) := by decide +kernel
theorem dX10_waysFrom_58 : decode M_X10_waysFrom.2.2.1 58 = .ok (.arraylength, 1) := by decide +kernel
theorem dX10_waysFrom_59 : decode M_X10_waysFrom.2.2.1 59 = .ok (.if_icmp .ge 66, 3) := by decide +kernel
theorem dX10_waysFrom_62 : decode M_X10_waysFrom.2.2.1 62 = .ok (.iconst 2, 1) := by decide +kernel
theorem dX10_waysFrom_63 : decode M_X10_waysFrom.2.2.1 63 = .ok (.iload 4, 2) := by decide +kernel
theorem dX10_waysFrom_65 : decode M_X10_waysFrom.2.2.1 65 = .ok (.imul, 1) := by decide +kernel
theorem dX10_waysFrom_66 : decode M_X10_waysFrom.2.2.1 66 = .ok (.bipush 8, 2) := by decide +kernel
theorem dX10_waysFrom_68 : decode M_X10_waysFrom.2.2.1 68 = .ok (.if_icmp .ge 57, 3) := by decide +kernel
theorem dX10_waysFrom_71 : decode M_X10_waysFrom.2.2.1 71 = .ok (.iload_n 2, 1) := by decide +kernel
theorem dX10_waysFrom_72 : decode M_X10_waysFrom.2.2.1 72 = .ok (.iload 7, 2) := by decide +kernel
theorem dX10_waysFrom_74 : decode M_X10_waysFrom.2.2.1 74 = .ok (.ishr, 1) := by decide +kernel
theorem dX10_waysFrom_75 : decode M_X10_waysFrom.2.2.1 75 = .ok (.iconst 1, 1) := by decide +kernel
theorem dX10_waysFrom_76 : decode M_X10_waysFrom.2.2.1 76 = .ok (.iand, 1) := by decide +kernel
theorem dX10_waysFrom_77 : decode M_X10_waysFrom.2.2.1 77 = .ok (.ifCond .ne 42, 3) := by decide +kernel
theorem dX10_waysFrom_80 : decode M_X10_waysFrom.2.2.1 80 = .ok (.aload_n 0, 1) := by decide +kernel
theorem dX10_waysFrom_81 : decode M_X10_waysFrom.2.2.1 81 = .ok (.iload 7, 2) := by decide +kernel
theorem dX10_waysFrom_83 : decode M_X10_waysFrom.2.2.1 83 = .ok (.iaload, 1) := by decide +kernel
theorem dX10_waysFrom_84 : decode M_X10_waysFrom.2.2.1 84 = .ok (.aload_n 0, 1) := by decide +kernel
theorem dX10_waysFrom_85 : decode M_X10_waysFrom.2.2.1 85 = .ok (.iload 5, 2) := by decide +kernel
theorem dX10_waysFrom_87 : decode M_X10_waysFrom.2.2.1 87 = .ok (.iaload, 1) := by decide +kernel
theorem dX10_waysFrom_88 : decode M_X10_waysFrom.2.2.1 88 = .ok (.isub, 1) := by decide +kernel
theorem dX10_waysFrom_89 : decode M_X10_waysFrom.2.2.1 89 = .ok (.iload_n 3, 1) := by decide +kernel
theorem dX10_waysFrom_90 : decode M_X10_waysFrom.2.2.1 90 = .ok (.if_icmp .gt 29, 3) := by decide +kernel
theorem dX10_waysFrom_93 : decode M_X10_waysFrom.2.2.1 93 = .ok (.iload 6, 2) := by decide +kernel
theorem dX10_waysFrom_95 : decode M_X10_waysFrom.2.2.1 95 = .ok (.aload_n 0, 1) := by decide +kernel
theorem dX10_waysFrom_96 : decode M_X10_waysFrom.2.2.1 96 = .ok (.iload_n 1, 1) := by decide +kernel
theorem dX10_waysFrom_97 : decode M_X10_waysFrom.2.2.1 97 = .ok (.iload_n 2, 1) := by decide +kernel
theorem dX10_waysFrom_98 : decode M_X10_waysFrom.2.2.1 98 = .ok (.iconst 1, 1) := by decide +kernel
theorem dX10_waysFrom_99 : decode M_X10_waysFrom.2.2.1 99 = .ok (.iload 5, 2) := by decide +kernel
theorem dX10_waysFrom_101 : decode M_X10_waysFrom.2.2.1 101 = .ok (.ishl, 1) := by decide +kernel
theorem dX10_waysFrom_102 : decode M_X10_waysFrom.2.2.1 102 = .ok (.ior, 1) := by decide +kernel
theorem dX10_waysFrom_103 : decode M_X10_waysFrom.2.2.1 103 = .ok (.iconst 1, 1) := by decide +kernel
theorem dX10_waysFrom_104 : decode M_X10_waysFrom.2.2.1 104 = .ok (.iload 7, 2) := by decide +kernel
theorem dX10_waysFrom_106 : decode M_X10_waysFrom.2.2.1 106 = .ok (.ishl, 1) := by decide +kernel
theorem dX10_waysFrom_107 : decode M_X10_waysFrom.2.2.1 107 = .ok (.ior, 1) := by decide +kernel
theorem dX10_waysFrom_108 : decode M_X10_waysFrom.2.2.1 108 = .ok (.iload_n 3, 1) := by decide +kernel
theorem dX10_waysFrom_109 : decode M_X10_waysFrom.2.2.1 109 = .ok (.iload 4, 2) := by decide +kernel
theorem dX10_waysFrom_111 : decode M_X10_waysFrom.2.2.1 111 = .ok (.iconst 1, 1) := by decide +kernel
theorem dX10_waysFrom_112 : decode M_X10_waysFrom.2.2.1 112 = .ok (.iadd, 1) := by decide +kernel
theorem dX10_waysFrom_113 : decode M_X10_waysFrom.2.2.1 113 = .ok (.invokestatic 24, 3) := by decide +kernel
theorem dX10_waysFrom_116 : decode M_X10_waysFrom.2.2.1 116 = .ok (.iadd, 1) := by decide +kernel
theorem dX10_waysFrom_117 : decode M_X10_waysFrom.2.2.1 117 = .ok (.istore 6, 2) := by decide +kernel
theorem dX10_waysFrom_119 : decode M_X10_waysFrom.2.2.1 119 = .ok (.iinc 7 1, 3) := by decide +kernel
theorem dX10_waysFrom_122 : decode M_X10_waysFrom.2.2.1 122 = .ok (.goto (-73), 3) := by decide +kernel
theorem dX10_waysFrom_125 : decode M_X10_waysFrom.2.2.1 125 = .ok (.iload 6, 2) := by decide +kernel
theorem dX10_waysFrom_127 : decode M_X10_waysFrom.2.2.1 127 = .ok (.ireturn, 1) := by decide +kernel
theorem dX10_waysToCouple_0 : decode M_X10_waysToCouple.2.2.1 0 = .ok (.iconst 0, 1) := by decide +kernel
theorem dX10_waysToCouple_1 : decode M_X10_waysToCouple.2.2.1 1 = .ok (.istore 4, 2) := by decide +kernel
theorem dX10_waysToCouple_3 : decode M_X10_waysToCouple.2.2.1 3 = .ok (.iconst 1, 1) := by decide +kernel
theorem dX10_waysToCouple_4 : decode M_X10_waysToCouple.2.2.1 4 = .ok (.istore 5, 2) := by decide +kernel
theorem dX10_waysToCouple_6 : decode M_X10_waysToCouple.2.2.1 6 = .ok (.iload 5, 2) := by decide +kernel
theorem dX10_waysToCouple_8 : decode M_X10_waysToCouple.2.2.1 8 = .ok (.iconst 3, 1) := by decide +kernel
theorem dX10_waysToCouple_9 : decode M_X10_waysToCouple.2.2.1 9 = .ok (.if_icmp .gt 97, 3) := by decide +kernel
theorem dX10_waysToCouple_12 : decode M_X10_waysToCouple.2.2.1 12 = .ok (.iload 5, 2) := by decide +kernel
theorem dX10_waysToCouple_14 : decode M_X10_waysToCouple.2.2.1 14 = .ok (.iconst 1, 1) := by decide +kernel
theorem dX10_waysToCouple_15 : decode M_X10_waysToCouple.2.2.1 15 = .ok (.if_icmp .ne 7, 3) := by decide +kernel
theorem dX10_waysToCouple_18 : decode M_X10_waysToCouple.2.2.1 18 = .ok (.iconst 2, 1) := by decide +kernel
theorem dX10_waysToCouple_19 : decode M_X10_waysToCouple.2.2.1 19 = .ok (.goto 4, 3) := by decide +kernel
theorem dX10_waysToCouple_22 : decode M_X10_waysToCouple.2.2.1 22 = .ok (.iconst 1, 1) := by decide +kernel
theorem dX10_waysToCouple_23 : decode M_X10_waysToCouple.2.2.1 23 = .ok (.istore 6, 2) := by decide +kernel
theorem dX10_waysToCouple_25 : decode M_X10_waysToCouple.2.2.1 25 = .ok (.iload 5, 2) := by decide +kernel
theorem dX10_waysToCouple_27 : decode M_X10_waysToCouple.2.2.1 27 = .ok (.iconst 3, 1) := by decide +kernel
theorem dX10_waysToCouple_28 : decode M_X10_waysToCouple.2.2.1 28 = .ok (.if_icmp .ne 7, 3) := by decide +kernel
theorem dX10_waysToCouple_31 : decode M_X10_waysToCouple.2.2.1 31 = .ok (.iconst 2, 1) := by decide +kernel
theorem dX10_waysToCouple_32 : decode M_X10_waysToCouple.2.2.1 32 = .ok (.goto 4, 3) := by decide +kernel
theorem dX10_waysToCouple_35 : decode M_X10_waysToCouple.2.2.1 35 = .ok (.iconst 3, 1) := by decide +kernel
theorem dX10_waysToCouple_36 : decode M_X10_waysToCouple.2.2.1 36 = .ok (.istore 7, 2) := by decide +kernel
theorem dX10_waysToCouple_38 : decode M_X10_waysToCouple.2.2.1 38 = .ok (.aload_n 0, 1) := by decide +kernel
theorem dX10_waysToCouple_39 : decode M_X10_waysToCouple.2.2.1 39 = .ok (.getfield 9, 3) := by decide +kernel
theorem dX10_waysToCouple_42 : decode M_X10_waysToCouple.2.2.1 42 = .ok (.iload 5, 2) := by decide +kernel
theorem dX10_waysToCouple_44 : decode M_X10_waysToCouple.2.2.1 44 = .ok (.iaload, 1) := by decide +kernel
theorem dX10_waysToCouple_45 : decode M_X10_waysToCouple.2.2.1 45 = .ok (.aload_n 0, 1) := by decide +kernel
theorem dX10_waysToCouple_46 : decode M_X10_waysToCouple.2.2.1 46 = .ok (.getfield 9, 3) := by decide +kernel
theorem dX10_waysToCouple_49 : decode M_X10_waysToCouple.2.2.1 49 = .ok (.iconst 0, 1) := by decide +kernel
theorem dX10_waysToCouple_50 : decode M_X10_waysToCouple.2.2.1 50 = .ok (.iaload, 1) := by decide +kernel
theorem dX10_waysToCouple_51 : decode M_X10_waysToCouple.2.2.1 51 = .ok (.isub, 1) := by decide +kernel
theorem dX10_waysToCouple_52 : decode M_X10_waysToCouple.2.2.1 52 = .ok (.istore 8, 2) := by decide +kernel
theorem dX10_waysToCouple_54 : decode M_X10_waysToCouple.2.2.1 54 = .ok (.aload_n 0, 1) := by decide +kernel
theorem dX10_waysToCouple_55 : decode M_X10_waysToCouple.2.2.1 55 = .ok (.getfield 9, 3) := by decide +kernel
theorem dX10_waysToCouple_58 : decode M_X10_waysToCouple.2.2.1 58 = .ok (.iload 7, 2) := by decide +kernel
theorem dX10_waysToCouple_60 : decode M_X10_waysToCouple.2.2.1 60 = .ok (.iaload, 1) := by decide +kernel
theorem dX10_waysToCouple_61 : decode M_X10_waysToCouple.2.2.1 61 = .ok (.aload_n 0, 1) := by decide +kernel
theorem dX10_waysToCouple_62 : decode M_X10_waysToCouple.2.2.1 62 = .ok (.getfield 9, 3) := by decide +kernel
theorem dX10_waysToCouple_65 : decode M_X10_waysToCouple.2.2.1 65 = .ok (.iload 6, 2) := by decide +kernel
theorem dX10_waysToCouple_67 : decode M_X10_waysToCouple.2.2.1 67 = .ok (.iaload, 1) := by decide +kernel
theorem dX10_waysToCouple_68 : decode M_X10_waysToCouple.2.2.1 68 = .ok (.isub, 1) := by decide +kernel
theorem dX10_waysToCouple_69 : decode M_X10_waysToCouple.2.2.1 69 = .ok (.istore 9, 2) := by decide +kernel
theorem dX10_waysToCouple_71 : decode M_X10_waysToCouple.2.2.1 71 = .ok (.iload 8, 2) := by decide +kernel
theorem dX10_waysToCouple_73 : decode M_X10_waysToCouple.2.2.1 73 = .ok (.iload_n 1, 1) := by decide +kernel
theorem dX10_waysToCouple_74 : decode M_X10_waysToCouple.2.2.1 74 = .ok (.iload 9, 2) := by decide +kernel
theorem dX10_waysToCouple_76 : decode M_X10_waysToCouple.2.2.1 76 = .ok (.iload_n 2, 1) := by decide +kernel
theorem dX10_waysToCouple_77 : decode M_X10_waysToCouple.2.2.1 77 = .ok (.iload_n 3, 1) := by decide +kernel
theorem dX10_waysToCouple_78 : decode M_X10_waysToCouple.2.2.1 78 = .ok (.invokestatic 28, 3) := by decide +kernel
theorem dX10_waysToCouple_81 : decode M_X10_waysToCouple.2.2.1 81 = .ok (.ifCond .ne 16, 3) := by decide +kernel
theorem dX10_waysToCouple_84 : decode M_X10_waysToCouple.2.2.1 84 = .ok (.iload 8, 2) := by decide +kernel
theorem dX10_waysToCouple_86 : decode M_X10_waysToCouple.2.2.1 86 = .ok (.iload_n 2, 1) := by decide +kernel
theorem dX10_waysToCouple_87 : decode M_X10_waysToCouple.2.2.1 87 = .ok (.iload 9, 2) := by decide +kernel
theorem dX10_waysToCouple_89 : decode M_X10_waysToCouple.2.2.1 89 = .ok (.iload_n 1, 1) := by decide +kernel
theorem dX10_waysToCouple_90 : decode M_X10_waysToCouple.2.2.1 90 = .ok (.iload_n 3, 1) := by decide +kernel
theorem dX10_waysToCouple_91 : decode M_X10_waysToCouple.2.2.1 91 = .ok (.invokestatic 28, 3) := by decide +kernel
theorem dX10_waysToCouple_94 : decode M_X10_waysToCouple.2.2.1 94 = .ok (.ifCond .eq 6, 3) := by decide +kernel
theorem dX10_waysToCouple_97 : decode M_X10_waysToCouple.2.2.1 97 = .ok (.iinc 4 1, 3) := by decide +kernel
theorem dX10_waysToCouple_100 : decode M_X10_waysToCouple.2.2.1 100 = .ok (.iinc 5 1, 3) := by decide +kernel
theorem dX10_waysToCouple_103 : decode M_X10_waysToCouple.2.2.1 103 = .ok (.goto (-97), 3) := by decide +kernel
theorem dX10_waysToCouple_106 : decode M_X10_waysToCouple.2.2.1 106 = .ok (.iload 4, 2) := by decide +kernel
theorem dX10_waysToCouple_108 : decode M_X10_waysToCouple.2.2.1 108 = .ok (.ireturn, 1) := by decide +kernel
theorem dX10_isNear_0 : decode M_X10_isNear.2.2.1 0 = .ok (.iload_n 0, 1) := by decide +kernel
theorem dX10_isNear_1 : decode M_X10_isNear.2.2.1 1 = .ok (.iload_n 1, 1) := by decide +kernel
theorem dX10_isNear_2 : decode M_X10_isNear.2.2.1 2 = .ok (.isub, 1) := by decide +kernel
theorem dX10_isNear_3 : decode M_X10_isNear.2.2.1 3 = .ok (.invokestatic 32, 3) := by decide +kernel
theorem dX10_isNear_6 : decode M_X10_isNear.2.2.1 6 = .ok (.iload 4, 2) := by decide +kernel
theorem dX10_isNear_8 : decode M_X10_isNear.2.2.1 8 = .ok (.if_icmp .gt 18, 3) := by decide +kernel
theorem dX10_isNear_11 : decode M_X10_isNear.2.2.1 11 = .ok (.iload_n 2, 1) := by decide +kernel
theorem dX10_isNear_12 : decode M_X10_isNear.2.2.1 12 = .ok (.iload_n 3, 1) := by decide +kernel
theorem dX10_isNear_13 : decode M_X10_isNear.2.2.1 13 = .ok (.isub, 1) := by decide +kernel
theorem dX10_isNear_14 : decode M_X10_isNear.2.2.1 14 = .ok (.invokestatic 32, 3) := by decide +kernel
theorem dX10_isNear_17 : decode M_X10_isNear.2.2.1 17 = .ok (.iload 4, 2) := by decide +kernel
theorem dX10_isNear_19 : decode M_X10_isNear.2.2.1 19 = .ok (.if_icmp .gt 7, 3) := by decide +kernel
theorem dX10_isNear_22 : decode M_X10_isNear.2.2.1 22 = .ok (.iconst 1, 1) := by decide +kernel
theorem dX10_isNear_23 : decode M_X10_isNear.2.2.1 23 = .ok (.goto 4, 3) := by decide +kernel
theorem dX10_isNear_26 : decode M_X10_isNear.2.2.1 26 = .ok (.iconst 0, 1) := by decide +kernel
theorem dX10_isNear_27 : decode M_X10_isNear.2.2.1 27 = .ok (.ireturn, 1) := by decide +kernel
theorem dJ11_isValidCodePoint_9a6ad_0 : decode M_J11_isValidCodePoint_9a6ad.2.2.1 0 = .ok (.iload_n 0, 1) := by decide +kernel
theorem dJ11_isValidCodePoint_9a6ad_1 : decode M_J11_isValidCodePoint_9a6ad.2.2.1 1 = .ok (.bipush 16, 2) := by decide +kernel
theorem dJ11_isValidCodePoint_9a6ad_3 : decode M_J11_isValidCodePoint_9a6ad.2.2.1 3 = .ok (.iushr, 1) := by decide +kernel
theorem dJ11_isValidCodePoint_9a6ad_4 : decode M_J11_isValidCodePoint_9a6ad.2.2.1 4 = .ok (.istore_n 1, 1) := by decide +kernel
theorem dJ11_isValidCodePoint_9a6ad_5 : decode M_J11_isValidCodePoint_9a6ad.2.2.1 5 = .ok (.iload_n 1, 1) := by decide +kernel
theorem dJ11_isValidCodePoint_9a6ad_6 : decode M_J11_isValidCodePoint_9a6ad.2.2.1 6 = .ok (.bipush 17, 2) := by decide +kernel
theorem dJ11_isValidCodePoint_9a6ad_8 : decode M_J11_isValidCodePoint_9a6ad.2.2.1 8 = .ok (.if_icmp .ge 7, 3) := by decide +kernel
theorem dJ11_isValidCodePoint_9a6ad_11 : decode M_J11_isValidCodePoint_9a6ad.2.2.1 11 = .ok (.iconst 1, 1) := by decide +kernel
theorem dJ11_isValidCodePoint_9a6ad_12 : decode M_J11_isValidCodePoint_9a6ad.2.2.1 12 = .ok (.goto 4, 3) := by decide +kernel
theorem dJ11_isValidCodePoint_9a6ad_15 : decode M_J11_isValidCodePoint_9a6ad.2.2.1 15 = .ok (.iconst 0, 1) := by decide +kernel
theorem dJ11_isValidCodePoint_9a6ad_16 : decode M_J11_isValidCodePoint_9a6ad.2.2.1 16 = .ok (.ireturn, 1) := by decide +kernel
theorem dJ11_highSurrogate_5068e_0 : decode M_J11_highSurrogate_5068e.2.2.1 0 = .ok (.iload_n 0, 1) := by decide +kernel
theorem dJ11_highSurrogate_5068e_1 : decode M_J11_highSurrogate_5068e.2.2.1 1 = .ok (.bipush 10, 2) := by decide +kernel
theorem dJ11_highSurrogate_5068e_3 : decode M_J11_highSurrogate_5068e.2.2.1 3 = .ok (.iushr, 1) := by decide +kernel
theorem dJ11_highSurrogate_5068e_4 : decode M_J11_highSurrogate_5068e.2.2.1 4 = .ok (.ldc 110, 2) := by decide +kernel
theorem dJ11_highSurrogate_5068e_6 : decode M_J11_highSurrogate_5068e.2.2.1 6 = .ok (.iadd, 1) := by decide +kernel
theorem dJ11_highSurrogate_5068e_7 : decode M_J11_highSurrogate_5068e.2.2.1 7 = .ok (.i2c, 1) := by decide +kernel
theorem dJ11_highSurrogate_5068e_8 : decode M_J11_highSurrogate_5068e.2.2.1 8 = .ok (.ireturn, 1) := by decide +kernel
theorem dJ11_lowSurrogate_5068e_0 : decode M_J11_lowSurrogate_5068e.2.2.1 0 = .ok (.iload_n 0, 1) := by decide +kernel
theorem dJ11_lowSurrogate_5068e_1 : decode M_J11_lowSurrogate_5068e.2.2.1 1 = .ok (.sipush 1023, 3) := by decide +kernel
theorem dJ11_lowSurrogate_5068e_4 : decode M_J11_lowSurrogate_5068e.2.2.1 4 = .ok (.iand, 1) := by decide +kernel
theorem dJ11_lowSurrogate_5068e_5 : decode M_J11_lowSurrogate_5068e.2.2.1 5 = .ok (.ldc 76, 2) := by decide +kernel
theorem dJ11_lowSurrogate_5068e_7 : decode M_J11_lowSurrogate_5068e.2.2.1 7 = .ok (.iadd, 1) := by decide +kernel
theorem dJ11_lowSurrogate_5068e_8 : decode M_J11_lowSurrogate_5068e.2.2.1 8 = .ok (.i2c, 1) := by decide +kernel
theorem dJ11_lowSurrogate_5068e_9 : decode M_J11_lowSurrogate_5068e.2.2.1 9 = .ok (.ireturn, 1) := by decide +kernel
theorem dJ9_floorDiv_7cf53_0 : decode M_J9_floorDiv_7cf53.2.2.1 0 = .ok (.iload_n 0, 1) := by decide +kernel
theorem dJ9_floorDiv_7cf53_1 : decode M_J9_floorDiv_7cf53.2.2.1 1 = .ok (.iload_n 1, 1) := by decide +kernel
theorem dJ9_floorDiv_7cf53_2 : decode M_J9_floorDiv_7cf53.2.2.1 2 = .ok (.idiv, 1) := by decide +kernel
theorem dJ9_floorDiv_7cf53_3 : decode M_J9_floorDiv_7cf53.2.2.1 3 = .ok (.istore_n 2, 1) := by decide +kernel
theorem dJ9_floorDiv_7cf53_4 : decode M_J9_floorDiv_7cf53.2.2.1 4 = .ok (.iload_n 0, 1) := by decide +kernel
theorem dJ9_floorDiv_7cf53_5 : decode M_J9_floorDiv_7cf53.2.2.1 5 = .ok (.iload_n 1, 1) := by decide +kernel
theorem dJ9_floorDiv_7cf53_6 : decode M_J9_floorDiv_7cf53.2.2.1 6 = .ok (.ixor, 1) := by decide +kernel
theorem dJ9_floorDiv_7cf53_7 : decode M_J9_floorDiv_7cf53.2.2.1 7 = .ok (.ifCond .ge 14, 3) := by decide +kernel
theorem dJ9_floorDiv_7cf53_10 : decode M_J9_floorDiv_7cf53.2.2.1 10 = .ok (.iload_n 2, 1) := by decide +kernel
theorem dJ9_floorDiv_7cf53_11 : decode M_J9_floorDiv_7cf53.2.2.1 11 = .ok (.iload_n 1, 1) := by decide +kernel
theorem dJ9_floorDiv_7cf53_12 : decode M_J9_floorDiv_7cf53.2.2.1 12 = .ok (.imul, 1) := by decide +kernel
theorem dJ9_floorDiv_7cf53_13 : decode M_J9_floorDiv_7cf53.2.2.1 13 = .ok (.iload_n 0, 1) := by decide +kernel
theorem dJ9_floorDiv_7cf53_14 : decode M_J9_floorDiv_7cf53.2.2.1 14 = .ok (.if_icmp .eq 7, 3) := by decide +kernel
theorem dJ9_floorDiv_7cf53_17 : decode M_J9_floorDiv_7cf53.2.2.1 17 = .ok (.iload_n 2, 1) := by decide +kernel
theorem dJ9_floorDiv_7cf53_18 : decode M_J9_floorDiv_7cf53.2.2.1 18 = .ok (.iconst 1, 1) := by decide +kernel
theorem dJ9_floorDiv_7cf53_19 : decode M_J9_floorDiv_7cf53.2.2.1 19 = .ok (.isub, 1) := by decide +kernel
theorem dJ9_floorDiv_7cf53_20 : decode M_J9_floorDiv_7cf53.2.2.1 20 = .ok (.ireturn, 1) := by decide +kernel
theorem dJ9_floorDiv_7cf53_21 : decode M_J9_floorDiv_7cf53.2.2.1 21 = .ok (.iload_n 2, 1) := by decide +kernel
theorem dJ9_floorDiv_7cf53_22 : decode M_J9_floorDiv_7cf53.2.2.1 22 = .ok (.ireturn, 1) := by decide +kernel
theorem dJ9_floorMod_7cf53_0 : decode M_J9_floorMod_7cf53.2.2.1 0 = .ok (.iload_n 0, 1) := by decide +kernel
theorem dJ9_floorMod_7cf53_1 : decode M_J9_floorMod_7cf53.2.2.1 1 = .ok (.iload_n 1, 1) := by decide +kernel
theorem dJ9_floorMod_7cf53_2 : decode M_J9_floorMod_7cf53.2.2.1 2 = .ok (.irem, 1) := by decide +kernel
theorem dJ9_floorMod_7cf53_3 : decode M_J9_floorMod_7cf53.2.2.1 3 = .ok (.istore_n 2, 1) := by decide +kernel
theorem dJ9_floorMod_7cf53_4 : decode M_J9_floorMod_7cf53.2.2.1 4 = .ok (.iload_n 0, 1) := by decide +kernel
theorem dJ9_floorMod_7cf53_5 : decode M_J9_floorMod_7cf53.2.2.1 5 = .ok (.iload_n 1, 1) := by decide +kernel
theorem dJ9_floorMod_7cf53_6 : decode M_J9_floorMod_7cf53.2.2.1 6 = .ok (.ixor, 1) := by decide +kernel
theorem dJ9_floorMod_7cf53_7 : decode M_J9_floorMod_7cf53.2.2.1 7 = .ok (.ifCond .ge 11, 3) := by decide +kernel
theorem dJ9_floorMod_7cf53_10 : decode M_J9_floorMod_7cf53.2.2.1 10 = .ok (.iload_n 2, 1) := by decide +kernel
theorem dJ9_floorMod_7cf53_11 : decode M_J9_floorMod_7cf53.2.2.1 11 = .ok (.ifCond .eq 7, 3) := by decide +kernel
theorem dJ9_floorMod_7cf53_14 : decode M_J9_floorMod_7cf53.2.2.1 14 = .ok (.iload_n 2, 1) := by decide +kernel
theorem dJ9_floorMod_7cf53_15 : decode M_J9_floorMod_7cf53.2.2.1 15 = .ok (.iload_n 1, 1) := by decide +kernel
theorem dJ9_floorMod_7cf53_16 : decode M_J9_floorMod_7cf53.2.2.1 16 = .ok (.iadd, 1) := by decide +kernel
theorem dJ9_floorMod_7cf53_17 : decode M_J9_floorMod_7cf53.2.2.1 17 = .ok (.ireturn, 1) := by decide +kernel
theorem dJ9_floorMod_7cf53_18 : decode M_J9_floorMod_7cf53.2.2.1 18 = .ok (.iload_n 2, 1) := by decide +kernel
theorem dJ9_floorMod_7cf53_19 : decode M_J9_floorMod_7cf53.2.2.1 19 = .ok (.ireturn, 1) := by decide +kernel
theorem dJ9_abs_0f7a4_0 : decode M_J9_abs_0f7a4.2.2.1 0 = .ok (.iload_n 0, 1) := by decide +kernel
theorem dJ9_abs_0f7a4_1 : decode M_J9_abs_0f7a4.2.2.1 1 = .ok (.ifCond .ge 8, 3) := by decide +kernel
theorem dJ9_abs_0f7a4_4 : decode M_J9_abs_0f7a4.2.2.1 4 = .ok (.iload_n 0, 1) := by decide +kernel
theorem dJ9_abs_0f7a4_5 : decode M_J9_abs_0f7a4.2.2.1 5 = .ok (.ineg, 1) := by decide +kernel
theorem dJ9_abs_0f7a4_6 : decode M_J9_abs_0f7a4.2.2.1 6 = .ok (.goto 4, 3) := by decide +kernel
theorem dJ9_abs_0f7a4_9 : decode M_J9_abs_0f7a4.2.2.1 9 = .ok (.iload_n 0, 1) := by decide +kernel
theorem dJ9_abs_0f7a4_10 : decode M_J9_abs_0f7a4.2.2.1 10 = .ok (.ireturn, 1) := by decide +kernel
theorem dJ9_max_7cf53_0 : decode M_J9_max_7cf53.2.2.1 0 = .ok (.iload_n 0, 1) := by decide +kernel
theorem dJ9_max_7cf53_1 : decode M_J9_max_7cf53.2.2.1 1 = .ok (.iload_n 1, 1) := by decide +kernel
theorem dJ9_max_7cf53_2 : decode M_J9_max_7cf53.2.2.1 2 = .ok (.if_icmp .lt 7, 3) := by decide +kernel
theorem dJ9_max_7cf53_5 : decode M_J9_max_7cf53.2.2.1 5 = .ok (.iload_n 0, 1) := by decide +kernel
theorem dJ9_max_7cf53_6 : decode M_J9_max_7cf53.2.2.1 6 = .ok (.goto 4, 3) := by decide +kernel
theorem dJ9_max_7cf53_9 : decode M_J9_max_7cf53.2.2.1 9 = .ok (.iload_n 1, 1) := by decide +kernel
theorem dJ9_max_7cf53_10 : decode M_J9_max_7cf53.2.2.1 10 = .ok (.ireturn, 1) := by decide +kernel
theorem dJ9_min_7cf53_0 : decode M_J9_min_7cf53.2.2.1 0 = .ok (.iload_n 0, 1) := by decide +kernel
theorem dJ9_min_7cf53_1 : decode M_J9_min_7cf53.2.2.1 1 = .ok (.iload_n 1, 1) := by decide +kernel
theorem dJ9_min_7cf53_2 : decode M_J9_min_7cf53.2.2.1 2 = .ok (.if_icmp .gt 7, 3) := by decide +kernel
theorem dJ9_min_7cf53_5 : decode M_J9_min_7cf53.2.2.1 5 = .ok (.iload_n 0, 1) := by decide +kernel
theorem dJ9_min_7cf53_6 : decode M_J9_min_7cf53.2.2.1 6 = .ok (.goto 4, 3) := by decide +kernel
theorem dJ9_min_7cf53_9 : decode M_J9_min_7cf53.2.2.1 9 = .ok (.iload_n 1, 1) := by decide +kernel
theorem dJ9_min_7cf53_10 : decode M_J9_min_7cf53.2.2.1 10 = .ok (.ireturn, 1) := by decide +kernel
theorem dJ0_length_8abf5_0 : decode M_J0_length_8abf5.2.2.1 0 = .ok (.aload_n 0, 1) := by decide +kernel
theorem dJ0_length_8abf5_1 : decode M_J0_length_8abf5.2.2.1 1 = .ok (.getfield 9, 3) := by decide +kernel
theorem dJ0_length_8abf5_4 : decode M_J0_length_8abf5.2.2.1 4 = .ok (.arraylength, 1) := by decide +kernel
theorem dJ0_length_8abf5_5 : decode M_J0_length_8abf5.2.2.1 5 = .ok (.aload_n 0, 1) := by decide +kernel
theorem dJ0_length_8abf5_6 : decode M_J0_length_8abf5.2.2.1 6 = .ok (.invokevirtual 335, 3) := by decide +kernel
theorem dJ0_length_8abf5_9 : decode M_J0_length_8abf5.2.2.1 9 = .ok (.ishr, 1) := by decide +kernel
theorem dJ0_length_8abf5_10 : decode M_J0_length_8abf5.2.2.1 10 = .ok (.ireturn, 1) := by decide +kernel
theorem dJ0_charAt_5068e_0 : decode M_J0_charAt_5068e.2.2.1 0 = .ok (.aload_n 0, 1) := by decide +kernel
theorem dJ0_charAt_5068e_1 : decode M_J0_charAt_5068e.2.2.1 1 = .ok (.invokevirtual 492, 3) := by decide +kernel
theorem dJ0_charAt_5068e_4 : decode M_J0_charAt_5068e.2.2.1 4 = .ok (.ifCond .eq 12, 3) := by decide +kernel
theorem dJ0_charAt_5068e_7 : decode M_J0_charAt_5068e.2.2.1 7 = .ok (.aload_n 0, 1) := by decide +kernel
theorem dJ0_charAt_5068e_8 : decode M_J0_charAt_5068e.2.2.1 8 = .ok (.getfield 9, 3) := by decide +kernel
theorem dJ0_charAt_5068e_11 : decode M_J0_charAt_5068e.2.2.1 11 = .ok (.iload_n 1, 1) := by decide +kernel
theorem dJ0_charAt_5068e_12 : decode M_J0_charAt_5068e.2.2.1 12 = .ok (.invokestatic 495, 3) := by decide +kernel
theorem dJ0_charAt_5068e_15 : decode M_J0_charAt_5068e.2.2.1 15 = .ok (.ireturn, 1) := by decide +kernel
theorem dJ0_charAt_5068e_16 : decode M_J0_charAt_5068e.2.2.1 16 = .ok (.aload_n 0, 1) := by decide +kernel
theorem dJ0_charAt_5068e_17 : decode M_J0_charAt_5068e.2.2.1 17 = .ok (.getfield 9, 3) := by decide +kernel
theorem dJ0_charAt_5068e_20 : decode M_J0_charAt_5068e.2.2.1 20 = .ok (.iload_n 1, 1) := by decide +kernel
theorem dJ0_charAt_5068e_21 : decode M_J0_charAt_5068e.2.2.1 21 = .ok (.invokestatic 498, 3) := by decide +kernel
theorem dJ0_charAt_5068e_24 : decode M_J0_charAt_5068e.2.2.1 24 = .ok (.ireturn, 1) := by decide +kernel
theorem dJ0_indexOf_0f7a4_0 : decode M_J0_indexOf_0f7a4.2.2.1 0 = .ok (.aload_n 0, 1) := by decide +kernel
theorem dJ0_indexOf_0f7a4_1 : decode M_J0_indexOf_0f7a4.2.2.1 1 = .ok (.iload_n 1, 1) := by decide +kernel
theorem dJ0_indexOf_0f7a4_2 : decode M_J0_indexOf_0f7a4.2.2.1 2 = .ok (.iconst 0, 1) := by decide +kernel
theorem dJ0_indexOf_0f7a4_3 : decode M_J0_indexOf_0f7a4.2.2.1 3 = .ok (.invokevirtual 633, 3) := by decide +kernel
theorem dJ0_indexOf_0f7a4_6 : decode M_J0_indexOf_0f7a4.2.2.1 6 = .ok (.ireturn, 1) := by decide +kernel
theorem dJ0_indexOf_7cf53_0 : decode M_J0_indexOf_7cf53.2.2.1 0 = .ok (.aload_n 0, 1) := by decide +kernel
theorem dJ0_indexOf_7cf53_1 : decode M_J0_indexOf_7cf53.2.2.1 1 = .ok (.invokevirtual 492, 3) := by decide +kernel
theorem dJ0_indexOf_7cf53_4 : decode M_J0_indexOf_7cf53.2.2.1 4 = .ok (.ifCond .eq 19, 3) := by decide +kernel
theorem dJ0_indexOf_7cf53_7 : decode M_J0_indexOf_7cf53.2.2.1 7 = .ok (.aload_n 0, 1) := by decide +kernel
theorem dJ0_indexOf_7cf53_8 : decode M_J0_indexOf_7cf53.2.2.1 8 = .ok (.getfield 9, 3) := by decide +kernel
theorem dJ0_indexOf_7cf53_11 : decode M_J0_indexOf_7cf53.2.2.1 11 = .ok (.iload_n 1, 1) := by decide +kernel
theorem dJ0_indexOf_7cf53_12 : decode M_J0_indexOf_7cf53.2.2.1 12 = .ok (.iload_n 2, 1) := by decide +kernel
theorem dJ0_indexOf_7cf53_13 : decode M_J0_indexOf_7cf53.2.2.1 13 = .ok (.aload_n 0, 1) := by decide +kernel
theorem dJ0_indexOf_7cf53_14 : decode M_J0_indexOf_7cf53.2.2.1 14 = .ok (.invokevirtual 505, 3) := by decide +kernel
theorem dJ0_indexOf_7cf53_17 : decode M_J0_indexOf_7cf53.2.2.1 17 = .ok (.invokestatic 637, 3) := by decide +kernel
theorem dJ0_indexOf_7cf53_20 : decode M_J0_indexOf_7cf53.2.2.1 20 = .ok (.goto 16, 3) := by decide +kernel
theorem dJ0_indexOf_7cf53_23 : decode M_J0_indexOf_7cf53.2.2.1 23 = .ok (.aload_n 0, 1) := by decide +kernel
theorem dJ0_indexOf_7cf53_24 : decode M_J0_indexOf_7cf53.2.2.1 24 = .ok (.getfield 9, 3) := by decide +kernel
theorem dJ0_indexOf_7cf53_27 : decode M_J0_indexOf_7cf53.2.2.1 27 = .ok (.iload_n 1, 1) := by decide +kernel
theorem dJ0_indexOf_7cf53_28 : decode M_J0_indexOf_7cf53.2.2.1 28 = .ok (.iload_n 2, 1) := by decide +kernel
theorem dJ0_indexOf_7cf53_29 : decode M_J0_indexOf_7cf53.2.2.1 29 = .ok (.aload_n 0, 1) := by decide +kernel
theorem dJ0_indexOf_7cf53_30 : decode M_J0_indexOf_7cf53.2.2.1 30 = .ok (.invokevirtual 505, 3) := by decide +kernel
theorem dJ0_indexOf_7cf53_33 : decode M_J0_indexOf_7cf53.2.2.1 33 = .ok (.invokestatic 640, 3) := by decide +kernel
theorem dJ0_indexOf_7cf53_36 : decode M_J0_indexOf_7cf53.2.2.1 36 = .ok (.ireturn, 1) := by decide +kernel
theorem dJ0_coder_7d493_0 : decode M_J0_coder_7d493.2.2.1 0 = .ok (.getstatic 38, 3) := by decide +kernel
theorem dJ0_coder_7d493_3 : decode M_J0_coder_7d493.2.2.1 3 = .ok (.ifCond .eq 10, 3) := by decide +kernel
theorem dJ0_coder_7d493_6 : decode M_J0_coder_7d493.2.2.1 6 = .ok (.aload_n 0, 1) := by decide +kernel
theorem dJ0_coder_7d493_7 : decode M_J0_coder_7d493.2.2.1 7 = .ok (.getfield 15, 3) := by decide +kernel
theorem dJ0_coder_7d493_10 : decode M_J0_coder_7d493.2.2.1 10 = .ok (.goto 4, 3) := by decide +kernel
theorem dJ0_coder_7d493_13 : decode M_J0_coder_7d493.2.2.1 13 = .ok (.iconst 1, 1) := by decide +kernel
theorem dJ0_coder_7d493_14 : decode M_J0_coder_7d493.2.2.1 14 = .ok (.ireturn, 1) := by decide +kernel
theorem dJ0_isLatin1_aae02_0 : decode M_J0_isLatin1_aae02.2.2.1 0 = .ok (.getstatic 38, 3) := by decide +kernel
theorem dJ0_isLatin1_aae02_3 : decode M_J0_isLatin1_aae02.2.2.1 3 = .ok (.ifCond .eq 14, 3) := by decide +kernel
theorem dJ0_isLatin1_aae02_6 : decode M_J0_isLatin1_aae02.2.2.1 6 = .ok (.aload_n 0, 1) := by decide +kernel
theorem dJ0_isLatin1_aae02_7 : decode M_J0_isLatin1_aae02.2.2.1 7 = .ok (.getfield 15, 3) := by decide +kernel
theorem dJ0_isLatin1_aae02_10 : decode M_J0_isLatin1_aae02.2.2.1 10 = .ok (.ifCond .ne 7, 3) := by decide +kernel
theorem dJ0_isLatin1_aae02_13 : decode M_J0_isLatin1_aae02.2.2.1 13 = .ok (.iconst 1, 1) := by decide +kernel
theorem dJ0_isLatin1_aae02_14 : decode M_J0_isLatin1_aae02.2.2.1 14 = .ok (.goto 4, 3) := by decide +kernel
theorem dJ0_isLatin1_aae02_17 : decode M_J0_isLatin1_aae02.2.2.1 17 = .ok (.iconst 0, 1) := by decide +kernel
theorem dJ0_isLatin1_aae02_18 : decode M_J0_isLatin1_aae02.2.2.1 18 = .ok (.ireturn, 1) := by decide +kernel
theorem dJ0_checkIndex_df160_0 : decode M_J0_checkIndex_df160.2.2.1 0 = .ok (.iload_n 0, 1) := by decide +kernel
theorem dJ0_checkIndex_df160_1 : decode M_J0_checkIndex_df160.2.2.1 1 = .ok (.iload_n 1, 1) := by decide +kernel
theorem dJ0_checkIndex_df160_2 : decode M_J0_checkIndex_df160.2.2.1 2 = .ok (.getstatic 1053, 3) := by decide +kernel
theorem dJ0_checkIndex_df160_5 : decode M_J0_checkIndex_df160.2.2.1 5 = .ok (.invokestatic 1059, 3) := by decide +kernel
theorem dJ0_checkIndex_df160_8 : decode M_J0_checkIndex_df160.2.2.1 8 = .ok (.pop, 1) := by decide +kernel
theorem dJ0_checkIndex_df160_9 : decode M_J0_checkIndex_df160.2.2.1 9 = .ok (.return_, 1) := by decide +kernel
theorem dJ0_checkBoundsBeginEnd_23922_0 : decode M_J0_checkBoundsBeginEnd_23922.2.2.1 0 = .ok (.iload_n 0, 1) := by decide +kernel
theorem dJ0_checkBoundsBeginEnd_23922_1 : decode M_J0_checkBoundsBeginEnd_23922.2.2.1 1 = .ok (.iload_n 1, 1) := by decide +kernel
theorem dJ0_checkBoundsBeginEnd_23922_2 : decode M_J0_checkBoundsBeginEnd_23922.2.2.1 2 = .ok (.iload_n 2, 1) := by decide +kernel
theorem dJ0_checkBoundsBeginEnd_23922_3 : decode M_J0_checkBoundsBeginEnd_23922.2.2.1 3 = .ok (.getstatic 1053, 3) := by decide +kernel
theorem dJ0_checkBoundsBeginEnd_23922_6 : decode M_J0_checkBoundsBeginEnd_23922.2.2.1 6 = .ok (.invokestatic 1062, 3) := by decide +kernel
theorem dJ0_checkBoundsBeginEnd_23922_9 : decode M_J0_checkBoundsBeginEnd_23922.2.2.1 9 = .ok (.pop, 1) := by decide +kernel
theorem dJ0_checkBoundsBeginEnd_23922_10 : decode M_J0_checkBoundsBeginEnd_23922.2.2.1 10 = .ok (.return_, 1) := by decide +kernel
theorem dJ1_charAt_3b067_0 : decode M_J1_charAt_3b067.2.2.1 0 = .ok (.iload_n 1, 1) := by decide +kernel
theorem dJ1_charAt_3b067_1 : decode M_J1_charAt_3b067.2.2.1 1 = .ok (.aload_n 0, 1) := by decide +kernel
theorem dJ1_charAt_3b067_2 : decode M_J1_charAt_3b067.2.2.1 2 = .ok (.arraylength, 1) := by decide +kernel
theorem dJ1_charAt_3b067_3 : decode M_J1_charAt_3b067.2.2.1 3 = .ok (.invokestatic 9, 3) := by decide +kernel
theorem dJ1_charAt_3b067_6 : decode M_J1_charAt_3b067.2.2.1 6 = .ok (.aload_n 0, 1) := by decide +kernel
theorem dJ1_charAt_3b067_7 : decode M_J1_charAt_3b067.2.2.1 7 = .ok (.iload_n 1, 1) := by decide +kernel
theorem dJ1_charAt_3b067_8 : decode M_J1_charAt_3b067.2.2.1 8 = .ok (.baload, 1) := by decide +kernel
theorem dJ1_charAt_3b067_9 : decode M_J1_charAt_3b067.2.2.1 9 = .ok (.sipush 255, 3) := by decide +kernel
theorem dJ1_charAt_3b067_12 : decode M_J1_charAt_3b067.2.2.1 12 = .ok (.iand, 1) := by decide +kernel
theorem dJ1_charAt_3b067_13 : decode M_J1_charAt_3b067.2.2.1 13 = .ok (.i2c, 1) := by decide +kernel
theorem dJ1_charAt_3b067_14 : decode M_J1_charAt_3b067.2.2.1 14 = .ok (.ireturn, 1) := by decide +kernel
theorem dJ1_canEncode_9a6ad_0 : decode M_J1_canEncode_9a6ad.2.2.1 0 = .ok (.iload_n 0, 1) := by decide +kernel
theorem dJ1_canEncode_9a6ad_1 : decode M_J1_canEncode_9a6ad.2.2.1 1 = .ok (.ifCond .lt 14, 3) := by decide +kernel
theorem dJ1_canEncode_9a6ad_4 : decode M_J1_canEncode_9a6ad.2.2.1 4 = .ok (.iload_n 0, 1) := by decide +kernel
theorem dJ1_canEncode_9a6ad_5 : decode M_J1_canEncode_9a6ad.2.2.1 5 = .ok (.sipush 255, 3) := by decide +kernel
theorem dJ1_canEncode_9a6ad_8 : decode M_J1_canEncode_9a6ad.2.2.1 8 = .ok (.if_icmp .gt 7, 3) := by decide +kernel
theorem dJ1_canEncode_9a6ad_11 : decode M_J1_canEncode_9a6ad.2.2.1 11 = .ok (.iconst 1, 1) := by decide +kernel
theorem dJ1_canEncode_9a6ad_12 : decode M_J1_canEncode_9a6ad.2.2.1 12 = .ok (.goto 4, 3) := by decide +kernel
theorem dJ1_canEncode_9a6ad_15 : decode M_J1_canEncode_9a6ad.2.2.1 15 = .ok (.iconst 0, 1) := by decide +kernel
theorem dJ1_canEncode_9a6ad_16 : decode M_J1_canEncode_9a6ad.2.2.1 16 = .ok (.ireturn, 1) := by decide +kernel
theorem dJ1_indexOf_4cfef_0 : decode M_J1_indexOf_4cfef.2.2.1 0 = .ok (.iload_n 1, 1) := by decide +kernel
theorem dJ1_indexOf_4cfef_1 : decode M_J1_indexOf_4cfef.2.2.1 1 = .ok (.invokestatic 88, 3) := by decide +kernel
theorem dJ1_indexOf_4cfef_4 : decode M_J1_indexOf_4cfef.2.2.1 4 = .ok (.ifCond .ne 5, 3) := by decide +kernel
theorem dJ1_indexOf_4cfef_7 : decode M_J1_indexOf_4cfef.2.2.1 7 = .ok (.iconst (-1), 1) := by decide +kernel
theorem dJ1_indexOf_4cfef_8 : decode M_J1_indexOf_4cfef.2.2.1 8 = .ok (.ireturn, 1) := by decide +kernel
theorem dJ1_indexOf_4cfef_9 : decode M_J1_indexOf_4cfef.2.2.1 9 = .ok (.iload_n 2, 1) := by decide +kernel
theorem dJ1_indexOf_4cfef_10 : decode M_J1_indexOf_4cfef.2.2.1 10 = .ok (.iconst 0, 1) := by decide +kernel
theorem dJ1_indexOf_4cfef_11 : decode M_J1_indexOf_4cfef.2.2.1 11 = .ok (.invokestatic 92, 3) := by decide +kernel
theorem dJ1_indexOf_4cfef_14 : decode M_J1_indexOf_4cfef.2.2.1 14 = .ok (.istore_n 2, 1) := by decide +kernel
theorem dJ1_indexOf_4cfef_15 : decode M_J1_indexOf_4cfef.2.2.1 15 = .ok (.iload_n 3, 1) := by decide +kernel
theorem dJ1_indexOf_4cfef_16 : decode M_J1_indexOf_4cfef.2.2.1 16 = .ok (.aload_n 0, 1) := by decide +kernel
theorem dJ1_indexOf_4cfef_17 : decode M_J1_indexOf_4cfef.2.2.1 17 = .ok (.arraylength, 1) := by decide +kernel
theorem dJ1_indexOf_4cfef_18 : decode M_J1_indexOf_4cfef.2.2.1 18 = .ok (.invokestatic 38, 3) := by decide +kernel
theorem dJ1_indexOf_4cfef_21 : decode M_J1_indexOf_4cfef.2.2.1 21 = .ok (.istore_n 3, 1) := by decide +kernel
theorem dJ1_indexOf_4cfef_22 : decode M_J1_indexOf_4cfef.2.2.1 22 = .ok (.iload_n 2, 1) := by decide +kernel
theorem dJ1_indexOf_4cfef_23 : decode M_J1_indexOf_4cfef.2.2.1 23 = .ok (.iload_n 3, 1) := by decide +kernel
theorem dJ1_indexOf_4cfef_24 : decode M_J1_indexOf_4cfef.2.2.1 24 = .ok (.if_icmp .lt 5, 3) := by decide +kernel
theorem dJ1_indexOf_4cfef_27 : decode M_J1_indexOf_4cfef.2.2.1 27 = .ok (.iconst (-1), 1) := by decide +kernel
theorem dJ1_indexOf_4cfef_28 : decode M_J1_indexOf_4cfef.2.2.1 28 = .ok (.ireturn, 1) := by decide +kernel
theorem dJ1_indexOf_4cfef_29 : decode M_J1_indexOf_4cfef.2.2.1 29 = .ok (.aload_n 0, 1) := by decide +kernel
theorem dJ1_indexOf_4cfef_30 : decode M_J1_indexOf_4cfef.2.2.1 30 = .ok (.iload_n 1, 1) := by decide +kernel
theorem dJ1_indexOf_4cfef_31 : decode M_J1_indexOf_4cfef.2.2.1 31 = .ok (.iload_n 2, 1) := by decide +kernel
theorem dJ1_indexOf_4cfef_32 : decode M_J1_indexOf_4cfef.2.2.1 32 = .ok (.iload_n 3, 1) := by decide +kernel
theorem dJ1_indexOf_4cfef_33 : decode M_J1_indexOf_4cfef.2.2.1 33 = .ok (.invokestatic 95, 3) := by decide +kernel
theorem dJ1_indexOf_4cfef_36 : decode M_J1_indexOf_4cfef.2.2.1 36 = .ok (.ireturn, 1) := by decide +kernel
theorem dJ1_indexOfChar_4cfef_0 : decode M_J1_indexOfChar_4cfef.2.2.1 0 = .ok (.iload_n 1, 1) := by decide +kernel
theorem dJ1_indexOfChar_4cfef_1 : decode M_J1_indexOfChar_4cfef.2.2.1 1 = .ok (.i2b, 1) := by decide +kernel
theorem dJ1_indexOfChar_4cfef_2 : decode M_J1_indexOfChar_4cfef.2.2.1 2 = .ok (.istore 4, 2) := by decide +kernel
theorem dJ1_indexOfChar_4cfef_4 : decode M_J1_indexOfChar_4cfef.2.2.1 4 = .ok (.iload_n 2, 1) := by decide +kernel
theorem dJ1_indexOfChar_4cfef_5 : decode M_J1_indexOfChar_4cfef.2.2.1 5 = .ok (.istore 5, 2) := by decide +kernel
theorem dJ1_indexOfChar_4cfef_7 : decode M_J1_indexOfChar_4cfef.2.2.1 7 = .ok (.iload 5, 2) := by decide +kernel
theorem dJ1_indexOfChar_4cfef_9 : decode M_J1_indexOfChar_4cfef.2.2.1 9 = .ok (.iload_n 3, 1) := by decide +kernel
theorem dJ1_indexOfChar_4cfef_10 : decode M_J1_indexOfChar_4cfef.2.2.1 10 = .ok (.if_icmp .ge 21, 3) := by decide +kernel
theorem dJ1_indexOfChar_4cfef_13 : decode M_J1_indexOfChar_4cfef.2.2.1 13 = .ok (.aload_n 0, 1) := by decide +kernel
theorem dJ1_indexOfChar_4cfef_14 : decode M_J1_indexOfChar_4cfef.2.2.1 14 = .ok (.iload 5, 2) := by decide +kernel
theorem dJ1_indexOfChar_4cfef_16 : decode M_J1_indexOfChar_4cfef.2.2.1 16 = .ok (.baload, 1) := by decide +kernel
theorem dJ1_indexOfChar_4cfef_17 : decode M_J1_indexOfChar_4cfef.2.2.1 17 = .ok (.iload 4, 2) := by decide +kernel
theorem dJ1_indexOfChar_4cfef_19 : decode M_J1_indexOfChar_4cfef.2.2.1 19 = .ok (.if_icmp .ne 6, 3) := by decide +kernel
theorem dJ1_indexOfChar_4cfef_22 : decode M_J1_indexOfChar_4cfef.2.2.1 22 = .ok (.iload 5, 2) := by decide +kernel
theorem dJ1_indexOfChar_4cfef_24 : decode M_J1_indexOfChar_4cfef.2.2.1 24 = .ok (.ireturn, 1) := by decide +kernel
theorem dJ1_indexOfChar_4cfef_25 : decode M_J1_indexOfChar_4cfef.2.2.1 25 = .ok (.iinc 5 1, 3) := by decide +kernel
theorem dJ1_indexOfChar_4cfef_28 : decode M_J1_indexOfChar_4cfef.2.2.1 28 = .ok (.goto (-21), 3) := by decide +kernel
theorem dJ1_indexOfChar_4cfef_31 : decode M_J1_indexOfChar_4cfef.2.2.1 31 = .ok (.iconst (-1), 1) := by decide +kernel
theorem dJ1_indexOfChar_4cfef_32 : decode M_J1_indexOfChar_4cfef.2.2.1 32 = .ok (.ireturn, 1) := by decide +kernel
theorem dJ2_getChar_3b067_0 : decode M_J2_getChar_3b067.2.2.1 0 = .ok (.getstatic 44, 3) := by decide +kernel
theorem dJ2_getChar_3b067_3 : decode M_J2_getChar_3b067.2.2.1 3 = .ok (.ifCond .ne 25, 3) := by decide +kernel
theorem dJ2_getChar_3b067_6 : decode M_J2_getChar_3b067.2.2.1 6 = .ok (.iload_n 1, 1) := by decide +kernel
theorem dJ2_getChar_3b067_7 : decode M_J2_getChar_3b067.2.2.1 7 = .ok (.ifCond .lt 11, 3) := by decide +kernel
theorem dJ2_getChar_3b067_10 : decode M_J2_getChar_3b067.2.2.1 10 = .ok (.iload_n 1, 1) := by decide +kernel
theorem dJ2_getChar_3b067_11 : decode M_J2_getChar_3b067.2.2.1 11 = .ok (.aload_n 0, 1) := by decide +kernel
theorem dJ2_getChar_3b067_12 : decode M_J2_getChar_3b067.2.2.1 12 = .ok (.invokestatic 48, 3) := by decide +kernel
theorem dJ2_getChar_3b067_15 : decode M_J2_getChar_3b067.2.2.1 15 = .ok (.if_icmp .lt 13, 3) := by decide +kernel
theorem dJ2_getChar_3b067_18 : decode M_J2_getChar_3b067.2.2.1 18 = .ok (.new 52, 3) := by decide +kernel
theorem dJ2_getChar_3b067_21 : decode M_J2_getChar_3b067.2.2.1 21 = .ok (.dup, 1) := by decide +kernel
theorem dJ2_getChar_3b067_22 : decode M_J2_getChar_3b067.2.2.1 22 = .ok (.ldc 54, 2) := by decide +kernel
theorem dJ2_getChar_3b067_24 : decode M_J2_getChar_3b067.2.2.1 24 = .ok (.invokespecial 56, 3) := by decide +kernel
theorem dJ2_getChar_3b067_27 : decode M_J2_getChar_3b067.2.2.1 27 = .ok (.athrow, 1) := by decide +kernel
theorem dJ2_getChar_3b067_28 : decode M_J2_getChar_3b067.2.2.1 28 = .ok (.iload_n 1, 1) := by decide +kernel
theorem dJ2_getChar_3b067_29 : decode M_J2_getChar_3b067.2.2.1 29 = .ok (.iconst 1, 1) := by decide +kernel
theorem dJ2_getChar_3b067_30 : decode M_J2_getChar_3b067.2.2.1 30 = .ok (.ishl, 1) := by decide +kernel
theorem dJ2_getChar_3b067_31 : decode M_J2_getChar_3b067.2.2.1 31 = .ok (.istore_n 1, 1) := by decide +kernel
theorem dJ2_getChar_3b067_32 : decode M_J2_getChar_3b067.2.2.1 32 = .ok (.aload_n 0, 1) := by decide +kernel
theorem dJ2_getChar_3b067_33 : decode M_J2_getChar_3b067.2.2.1 33 = .ok (.iload_n 1, 1) := by decide +kernel
theorem dJ2_getChar_3b067_34 : decode M_J2_getChar_3b067.2.2.1 34 = .ok (.iinc 1 1, 3) := by decide +kernel
theorem dJ2_getChar_3b067_37 : decode M_J2_getChar_3b067.2.2.1 37 = .ok (.baload, 1) := by decide +kernel
theorem dJ2_getChar_3b067_38 : decode M_J2_getChar_3b067.2.2.1 38 = .ok (.sipush 255, 3) := by decide +kernel
theorem dJ2_getChar_3b067_41 : decode M_J2_getChar_3b067.2.2.1 41 = .ok (.iand, 1) := by decide +kernel
theorem dJ2_getChar_3b067_42 : decode M_J2_getChar_3b067.2.2.1 42 = .ok (.getstatic 59, 3) := by decide +kernel
theorem dJ2_getChar_3b067_45 : decode M_J2_getChar_3b067.2.2.1 45 = .ok (.ishl, 1) := by decide +kernel
theorem dJ2_getChar_3b067_46 : decode M_J2_getChar_3b067.2.2.1 46 = .ok (.aload_n 0, 1) := by decide +kernel
theorem dJ2_getChar_3b067_47 : decode M_J2_getChar_3b067.2.2.1 47 = .ok (.iload_n 1, 1) := by decide +kernel
theorem dJ2_getChar_3b067_48 : decode M_J2_getChar_3b067.2.2.1 48 = .ok (.baload, 1) := by decide +kernel
theorem dJ2_getChar_3b067_49 : decode M_J2_getChar_3b067.2.2.1 49 = .ok (.sipush 255, 3) := by decide +kernel
theorem dJ2_getChar_3b067_52 : decode M_J2_getChar_3b067.2.2.1 52 = .ok (.iand, 1) := by decide +kernel
theorem dJ2_getChar_3b067_53 : decode M_J2_getChar_3b067.2.2.1 53 = .ok (.getstatic 63, 3) := by decide +kernel
theorem dJ2_getChar_3b067_56 : decode M_J2_getChar_3b067.2.2.1 56 = .ok (.ishl, 1) := by decide +kernel
theorem dJ2_getChar_3b067_57 : decode M_J2_getChar_3b067.2.2.1 57 = .ok (.ior, 1) := by decide +kernel
theorem dJ2_getChar_3b067_58 : decode M_J2_getChar_3b067.2.2.1 58 = .ok (.i2c, 1) := by decide +kernel
theorem dJ2_getChar_3b067_59 : decode M_J2_getChar_3b067.2.2.1 59 = .ok (.ireturn, 1) := by decide +kernel
theorem dJ2_length_9d52b_0 : decode M_J2_length_9d52b.2.2.1 0 = .ok (.aload_n 0, 1) := by decide +kernel
theorem dJ2_length_9d52b_1 : decode M_J2_length_9d52b.2.2.1 1 = .ok (.arraylength, 1) := by decide +kernel
theorem dJ2_length_9d52b_2 : decode M_J2_length_9d52b.2.2.1 2 = .ok (.iconst 1, 1) := by decide +kernel
theorem dJ2_length_9d52b_3 : decode M_J2_length_9d52b.2.2.1 3 = .ok (.ishr, 1) := by decide +kernel
theorem dJ2_length_9d52b_4 : decode M_J2_length_9d52b.2.2.1 4 = .ok (.ireturn, 1) := by decide +kernel
theorem dJ2_indexOf_4cfef_0 : decode M_J2_indexOf_4cfef.2.2.1 0 = .ok (.iload_n 2, 1) := by decide +kernel
theorem dJ2_indexOf_4cfef_1 : decode M_J2_indexOf_4cfef.2.2.1 1 = .ok (.iconst 0, 1) := by decide +kernel
theorem dJ2_indexOf_4cfef_2 : decode M_J2_indexOf_4cfef.2.2.1 2 = .ok (.invokestatic 224, 3) := by decide +kernel
theorem dJ2_indexOf_4cfef_5 : decode M_J2_indexOf_4cfef.2.2.1 5 = .ok (.istore_n 2, 1) := by decide +kernel
theorem dJ2_indexOf_4cfef_6 : decode M_J2_indexOf_4cfef.2.2.1 6 = .ok (.iload_n 3, 1) := by decide +kernel
theorem dJ2_indexOf_4cfef_7 : decode M_J2_indexOf_4cfef.2.2.1 7 = .ok (.aload_n 0, 1) := by decide +kernel
theorem dJ2_indexOf_4cfef_8 : decode M_J2_indexOf_4cfef.2.2.1 8 = .ok (.arraylength, 1) := by decide +kernel
theorem dJ2_indexOf_4cfef_9 : decode M_J2_indexOf_4cfef.2.2.1 9 = .ok (.iconst 1, 1) := by decide +kernel
theorem dJ2_indexOf_4cfef_10 : decode M_J2_indexOf_4cfef.2.2.1 10 = .ok (.ishr, 1) := by decide +kernel
theorem dJ2_indexOf_4cfef_11 : decode M_J2_indexOf_4cfef.2.2.1 11 = .ok (.invokestatic 183, 3) := by decide +kernel
theorem dJ2_indexOf_4cfef_14 : decode M_J2_indexOf_4cfef.2.2.1 14 = .ok (.istore_n 3, 1) := by decide +kernel
theorem dJ2_indexOf_4cfef_15 : decode M_J2_indexOf_4cfef.2.2.1 15 = .ok (.iload_n 2, 1) := by decide +kernel
theorem dJ2_indexOf_4cfef_16 : decode M_J2_indexOf_4cfef.2.2.1 16 = .ok (.iload_n 3, 1) := by decide +kernel
theorem dJ2_indexOf_4cfef_17 : decode M_J2_indexOf_4cfef.2.2.1 17 = .ok (.if_icmp .lt 5, 3) := by decide +kernel
theorem dJ2_indexOf_4cfef_20 : decode M_J2_indexOf_4cfef.2.2.1 20 = .ok (.iconst (-1), 1) := by decide +kernel
theorem dJ2_indexOf_4cfef_21 : decode M_J2_indexOf_4cfef.2.2.1 21 = .ok (.ireturn, 1) := by decide +kernel
theorem dJ2_indexOf_4cfef_22 : decode M_J2_indexOf_4cfef.2.2.1 22 = .ok (.iload_n 1, 1) := by decide +kernel
theorem dJ2_indexOf_4cfef_23 : decode M_J2_indexOf_4cfef.2.2.1 23 = .ok (.ldc 227, 2) := by decide +kernel
theorem dJ2_indexOf_4cfef_25 : decode M_J2_indexOf_4cfef.2.2.1 25 = .ok (.if_icmp .ge 11, 3) := by decide +kernel
theorem dJ2_indexOf_4cfef_28 : decode M_J2_indexOf_4cfef.2.2.1 28 = .ok (.aload_n 0, 1) := by decide +kernel
theorem dJ2_indexOf_4cfef_29 : decode M_J2_indexOf_4cfef.2.2.1 29 = .ok (.iload_n 1, 1) := by decide +kernel
theorem dJ2_indexOf_4cfef_30 : decode M_J2_indexOf_4cfef.2.2.1 30 = .ok (.iload_n 2, 1) := by decide +kernel
theorem dJ2_indexOf_4cfef_31 : decode M_J2_indexOf_4cfef.2.2.1 31 = .ok (.iload_n 3, 1) := by decide +kernel
theorem dJ2_indexOf_4cfef_32 : decode M_J2_indexOf_4cfef.2.2.1 32 = .ok (.invokestatic 228, 3) := by decide +kernel
theorem dJ2_indexOf_4cfef_35 : decode M_J2_indexOf_4cfef.2.2.1 35 = .ok (.ireturn, 1) := by decide +kernel
theorem dJ2_indexOf_4cfef_36 : decode M_J2_indexOf_4cfef.2.2.1 36 = .ok (.aload_n 0, 1) := by decide +kernel
theorem dJ2_indexOf_4cfef_37 : decode M_J2_indexOf_4cfef.2.2.1 37 = .ok (.iload_n 1, 1) := by decide +kernel
theorem dJ2_indexOf_4cfef_38 : decode M_J2_indexOf_4cfef.2.2.1 38 = .ok (.iload_n 2, 1) := by decide +kernel
theorem dJ2_indexOf_4cfef_39 : decode M_J2_indexOf_4cfef.2.2.1 39 = .ok (.iload_n 3, 1) := by decide +kernel
theorem dJ2_indexOf_4cfef_40 : decode M_J2_indexOf_4cfef.2.2.1 40 = .ok (.invokestatic 232, 3) := by decide +kernel
theorem dJ2_indexOf_4cfef_43 : decode M_J2_indexOf_4cfef.2.2.1 43 = .ok (.ireturn, 1) := by decide +kernel
theorem dJ2_indexOfChar_4cfef_0 : decode M_J2_indexOfChar_4cfef.2.2.1 0 = .ok (.iload_n 2, 1) := by decide +kernel
theorem dJ2_indexOfChar_4cfef_1 : decode M_J2_indexOfChar_4cfef.2.2.1 1 = .ok (.iload_n 3, 1) := by decide +kernel
theorem dJ2_indexOfChar_4cfef_2 : decode M_J2_indexOfChar_4cfef.2.2.1 2 = .ok (.aload_n 0, 1) := by decide +kernel
theorem dJ2_indexOfChar_4cfef_3 : decode M_J2_indexOfChar_4cfef.2.2.1 3 = .ok (.invokestatic 96, 3) := by decide +kernel
theorem dJ2_indexOfChar_4cfef_6 : decode M_J2_indexOfChar_4cfef.2.2.1 6 = .ok (.aload_n 0, 1) := by decide +kernel
theorem dJ2_indexOfChar_4cfef_7 : decode M_J2_indexOfChar_4cfef.2.2.1 7 = .ok (.iload_n 1, 1) := by decide +kernel
theorem dJ2_indexOfChar_4cfef_8 : decode M_J2_indexOfChar_4cfef.2.2.1 8 = .ok (.iload_n 2, 1) := by decide +kernel
theorem dJ2_indexOfChar_4cfef_9 : decode M_J2_indexOfChar_4cfef.2.2.1 9 = .ok (.iload_n 3, 1) := by decide +kernel
theorem dJ2_indexOfChar_4cfef_10 : decode M_J2_indexOfChar_4cfef.2.2.1 10 = .ok (.invokestatic 244, 3) := by decide +kernel
theorem dJ2_indexOfChar_4cfef_13 : decode M_J2_indexOfChar_4cfef.2.2.1 13 = .ok (.ireturn, 1) := by decide +kernel
theorem dJ2_indexOfCharUnsafe_4cfef_0 : decode M_J2_indexOfCharUnsafe_4cfef.2.2.1 0 = .ok (.iload_n 2, 1) := by decide +kernel
theorem dJ2_indexOfCharUnsafe_4cfef_1 : decode M_J2_indexOfCharUnsafe_4cfef.2.2.1 1 = .ok (.istore 4, 2) := by decide +kernel
theorem dJ2_indexOfCharUnsafe_4cfef_3 : decode M_J2_indexOfCharUnsafe_4cfef.2.2.1 3 = .ok (.iload 4, 2) := by decide +kernel
theorem dJ2_indexOfCharUnsafe_4cfef_5 : decode M_J2_indexOfCharUnsafe_4cfef.2.2.1 5 = .ok (.iload_n 3, 1) := by decide +kernel
theorem dJ2_indexOfCharUnsafe_4cfef_6 : decode M_J2_indexOfCharUnsafe_4cfef.2.2.1 6 = .ok (.if_icmp .ge 22, 3) := by decide +kernel
theorem dJ2_indexOfCharUnsafe_4cfef_9 : decode M_J2_indexOfCharUnsafe_4cfef.2.2.1 9 = .ok (.aload_n 0, 1) := by decide +kernel
theorem dJ2_indexOfCharUnsafe_4cfef_10 : decode M_J2_indexOfCharUnsafe_4cfef.2.2.1 10 = .ok (.iload 4, 2) := by decide +kernel
theorem dJ2_indexOfCharUnsafe_4cfef_12 : decode M_J2_indexOfCharUnsafe_4cfef.2.2.1 12 = .ok (.invokestatic 71, 3) := by decide +kernel
theorem dJ2_indexOfCharUnsafe_4cfef_15 : decode M_J2_indexOfCharUnsafe_4cfef.2.2.1 15 = .ok (.iload_n 1, 1) := by decide +kernel
theorem dJ2_indexOfCharUnsafe_4cfef_16 : decode M_J2_indexOfCharUnsafe_4cfef.2.2.1 16 = .ok (.if_icmp .ne 6, 3) := by decide +kernel
theorem dJ2_indexOfCharUnsafe_4cfef_19 : decode M_J2_indexOfCharUnsafe_4cfef.2.2.1 19 = .ok (.iload 4, 2) := by decide +kernel
theorem dJ2_indexOfCharUnsafe_4cfef_21 : decode M_J2_indexOfCharUnsafe_4cfef.2.2.1 21 = .ok (.ireturn, 1) := by decide +kernel
theorem dJ2_indexOfCharUnsafe_4cfef_22 : decode M_J2_indexOfCharUnsafe_4cfef.2.2.1 22 = .ok (.iinc 4 1, 3) := by decide +kernel
theorem dJ2_indexOfCharUnsafe_4cfef_25 : decode M_J2_indexOfCharUnsafe_4cfef.2.2.1 25 = .ok (.goto (-22), 3) := by decide +kernel
theorem dJ2_indexOfCharUnsafe_4cfef_28 : decode M_J2_indexOfCharUnsafe_4cfef.2.2.1 28 = .ok (.iconst (-1), 1) := by decide +kernel
theorem dJ2_indexOfCharUnsafe_4cfef_29 : decode M_J2_indexOfCharUnsafe_4cfef.2.2.1 29 = .ok (.ireturn, 1) := by decide +kernel
theorem dJ2_indexOfSupplementary_4cfef_0 : decode M_J2_indexOfSupplementary_4cfef.2.2.1 0 = .ok (.iload_n 1, 1) := by decide +kernel
theorem dJ2_indexOfSupplementary_4cfef_1 : decode M_J2_indexOfSupplementary_4cfef.2.2.1 1 = .ok (.invokestatic 164, 3) := by decide +kernel
theorem dJ2_indexOfSupplementary_4cfef_4 : decode M_J2_indexOfSupplementary_4cfef.2.2.1 4 = .ok (.ifCond .eq 65, 3) := by decide +kernel
theorem dJ2_indexOfSupplementary_4cfef_7 : decode M_J2_indexOfSupplementary_4cfef.2.2.1 7 = .ok (.iload_n 1, 1) := by decide +kernel
theorem dJ2_indexOfSupplementary_4cfef_8 : decode M_J2_indexOfSupplementary_4cfef.2.2.1 8 = .ok (.invokestatic 157, 3) := by decide +kernel
theorem dJ2_indexOfSupplementary_4cfef_11 : decode M_J2_indexOfSupplementary_4cfef.2.2.1 11 = .ok (.istore 4, 2) := by decide +kernel
theorem dJ2_indexOfSupplementary_4cfef_13 : decode M_J2_indexOfSupplementary_4cfef.2.2.1 13 = .ok (.iload_n 1, 1) := by decide +kernel
theorem dJ2_indexOfSupplementary_4cfef_14 : decode M_J2_indexOfSupplementary_4cfef.2.2.1 14 = .ok (.invokestatic 161, 3) := by decide +kernel
theorem dJ2_indexOfSupplementary_4cfef_17 : decode M_J2_indexOfSupplementary_4cfef.2.2.1 17 = .ok (.istore 5, 2) := by decide +kernel
theorem dJ2_indexOfSupplementary_4cfef_19 : decode M_J2_indexOfSupplementary_4cfef.2.2.1 19 = .ok (.iload_n 2, 1) := by decide +kernel
theorem dJ2_indexOfSupplementary_4cfef_20 : decode M_J2_indexOfSupplementary_4cfef.2.2.1 20 = .ok (.iload_n 3, 1) := by decide +kernel
theorem dJ2_indexOfSupplementary_4cfef_21 : decode M_J2_indexOfSupplementary_4cfef.2.2.1 21 = .ok (.aload_n 0, 1) := by decide +kernel
theorem dJ2_indexOfSupplementary_4cfef_22 : decode M_J2_indexOfSupplementary_4cfef.2.2.1 22 = .ok (.invokestatic 96, 3) := by decide +kernel
theorem dJ2_indexOfSupplementary_4cfef_25 : decode M_J2_indexOfSupplementary_4cfef.2.2.1 25 = .ok (.iload_n 2, 1) := by decide +kernel
theorem dJ2_indexOfSupplementary_4cfef_26 : decode M_J2_indexOfSupplementary_4cfef.2.2.1 26 = .ok (.istore 6, 2) := by decide +kernel
theorem dJ2_indexOfSupplementary_4cfef_28 : decode M_J2_indexOfSupplementary_4cfef.2.2.1 28 = .ok (.iload 6, 2) := by decide +kernel
theorem dJ2_indexOfSupplementary_4cfef_30 : decode M_J2_indexOfSupplementary_4cfef.2.2.1 30 = .ok (.iload_n 3, 1) := by decide +kernel
theorem dJ2_indexOfSupplementary_4cfef_31 : decode M_J2_indexOfSupplementary_4cfef.2.2.1 31 = .ok (.iconst 1, 1) := by decide +kernel
theorem dJ2_indexOfSupplementary_4cfef_32 : decode M_J2_indexOfSupplementary_4cfef.2.2.1 32 = .ok (.isub, 1) := by decide +kernel
theorem dJ2_indexOfSupplementary_4cfef_33 : decode M_J2_indexOfSupplementary_4cfef.2.2.1 33 = .ok (.if_icmp .ge 36, 3) := by decide +kernel
theorem dJ2_indexOfSupplementary_4cfef_36 : decode M_J2_indexOfSupplementary_4cfef.2.2.1 36 = .ok (.aload_n 0, 1) := by decide +kernel
theorem dJ2_indexOfSupplementary_4cfef_37 : decode M_J2_indexOfSupplementary_4cfef.2.2.1 37 = .ok (.iload 6, 2) := by decide +kernel
theorem dJ2_indexOfSupplementary_4cfef_39 : decode M_J2_indexOfSupplementary_4cfef.2.2.1 39 = .ok (.invokestatic 71, 3) := by decide +kernel
theorem dJ2_indexOfSupplementary_4cfef_42 : decode M_J2_indexOfSupplementary_4cfef.2.2.1 42 = .ok (.iload 4, 2) := by decide +kernel
theorem dJ2_indexOfSupplementary_4cfef_44 : decode M_J2_indexOfSupplementary_4cfef.2.2.1 44 = .ok (.if_icmp .ne 19, 3) := by decide +kernel
theorem dJ2_indexOfSupplementary_4cfef_47 : decode M_J2_indexOfSupplementary_4cfef.2.2.1 47 = .ok (.aload_n 0, 1) := by decide +kernel
theorem dJ2_indexOfSupplementary_4cfef_48 : decode M_J2_indexOfSupplementary_4cfef.2.2.1 48 = .ok (.iload 6, 2) := by decide +kernel
theorem dJ2_indexOfSupplementary_4cfef_50 : decode M_J2_indexOfSupplementary_4cfef.2.2.1 50 = .ok (.iconst 1, 1) := by decide +kernel
theorem dJ2_indexOfSupplementary_4cfef_51 : decode M_J2_indexOfSupplementary_4cfef.2.2.1 51 = .ok (.iadd, 1) := by decide +kernel
theorem dJ2_indexOfSupplementary_4cfef_52 : decode M_J2_indexOfSupplementary_4cfef.2.2.1 52 = .ok (.invokestatic 71, 3) := by decide +kernel
theorem dJ2_indexOfSupplementary_4cfef_55 : decode M_J2_indexOfSupplementary_4cfef.2.2.1 55 = .ok (.iload 5, 2) := by decide +kernel
theorem dJ2_indexOfSupplementary_4cfef_57 : decode M_J2_indexOfSupplementary_4cfef.2.2.1 57 = .ok (.if_icmp .ne 6, 3) := by decide +kernel
theorem dJ2_indexOfSupplementary_4cfef_60 : decode M_J2_indexOfSupplementary_4cfef.2.2.1 60 = .ok (.iload 6, 2) := by decide +kernel
theorem dJ2_indexOfSupplementary_4cfef_62 : decode M_J2_indexOfSupplementary_4cfef.2.2.1 62 = .ok (.ireturn, 1) := by decide +kernel
theorem dJ2_indexOfSupplementary_4cfef_63 : decode M_J2_indexOfSupplementary_4cfef.2.2.1 63 = .ok (.iinc 6 1, 3) := by decide +kernel
theorem dJ2_indexOfSupplementary_4cfef_66 : decode M_J2_indexOfSupplementary_4cfef.2.2.1 66 = .ok (.goto (-38), 3) := by decide +kernel
theorem dJ2_indexOfSupplementary_4cfef_69 : decode M_J2_indexOfSupplementary_4cfef.2.2.1 69 = .ok (.iconst (-1), 1) := by decide +kernel
theorem dJ2_indexOfSupplementary_4cfef_70 : decode M_J2_indexOfSupplementary_4cfef.2.2.1 70 = .ok (.ireturn, 1) := by decide +kernel
theorem dJ2_charAt_3b067_0 : decode M_J2_charAt_3b067.2.2.1 0 = .ok (.iload_n 1, 1) := by decide +kernel
theorem dJ2_charAt_3b067_1 : decode M_J2_charAt_3b067.2.2.1 1 = .ok (.aload_n 0, 1) := by decide +kernel
theorem dJ2_charAt_3b067_2 : decode M_J2_charAt_3b067.2.2.1 2 = .ok (.invokestatic 67, 3) := by decide +kernel
theorem dJ2_charAt_3b067_5 : decode M_J2_charAt_3b067.2.2.1 5 = .ok (.aload_n 0, 1) := by decide +kernel
theorem dJ2_charAt_3b067_6 : decode M_J2_charAt_3b067.2.2.1 6 = .ok (.iload_n 1, 1) := by decide +kernel
theorem dJ2_charAt_3b067_7 : decode M_J2_charAt_3b067.2.2.1 7 = .ok (.invokestatic 71, 3) := by decide +kernel
theorem dJ2_charAt_3b067_10 : decode M_J2_charAt_3b067.2.2.1 10 = .ok (.ireturn, 1) := by decide +kernel
theorem dJ2_checkIndex_2214a_0 : decode M_J2_checkIndex_2214a.2.2.1 0 = .ok (.iload_n 0, 1) := by decide +kernel
theorem dJ2_checkIndex_2214a_1 : decode M_J2_checkIndex_2214a.2.2.1 1 = .ok (.aload_n 1, 1) := by decide +kernel
theorem dJ2_checkIndex_2214a_2 : decode M_J2_checkIndex_2214a.2.2.1 2 = .ok (.invokestatic 48, 3) := by decide +kernel
theorem dJ2_checkIndex_2214a_5 : decode M_J2_checkIndex_2214a.2.2.1 5 = .ok (.invokestatic 414, 3) := by decide +kernel
theorem dJ2_checkIndex_2214a_8 : decode M_J2_checkIndex_2214a.2.2.1 8 = .ok (.return_, 1) := by decide +kernel
theorem dJ2_checkBoundsBeginEnd_d044e_0 : decode M_J2_checkBoundsBeginEnd_d044e.2.2.1 0 = .ok (.iload_n 0, 1) := by decide +kernel
theorem dJ2_checkBoundsBeginEnd_d044e_1 : decode M_J2_checkBoundsBeginEnd_d044e.2.2.1 1 = .ok (.iload_n 1, 1) := by decide +kernel
theorem dJ2_checkBoundsBeginEnd_d044e_2 : decode M_J2_checkBoundsBeginEnd_d044e.2.2.1 2 = .ok (.aload_n 2, 1) := by decide +kernel
theorem dJ2_checkBoundsBeginEnd_d044e_3 : decode M_J2_checkBoundsBeginEnd_d044e.2.2.1 3 = .ok (.invokestatic 48, 3) := by decide +kernel
theorem dJ2_checkBoundsBeginEnd_d044e_6 : decode M_J2_checkBoundsBeginEnd_d044e.2.2.1 6 = .ok (.invokestatic 241, 3) := by decide +kernel
theorem dJ2_checkBoundsBeginEnd_d044e_9 : decode M_J2_checkBoundsBeginEnd_d044e.2.2.1 9 = .ok (.return_, 1) := by decide +kernel
theorem dJ3_checkIndex_8e157_0 : decode M_J3_checkIndex_8e157.2.2.1 0 = .ok (.iload_n 0, 1) := by decide +kernel
theorem dJ3_checkIndex_8e157_1 : decode M_J3_checkIndex_8e157.2.2.1 1 = .ok (.ifCond .lt 8, 3) := by decide +kernel
theorem dJ3_checkIndex_8e157_4 : decode M_J3_checkIndex_8e157.2.2.1 4 = .ok (.iload_n 0, 1) := by decide +kernel
theorem dJ3_checkIndex_8e157_5 : decode M_J3_checkIndex_8e157.2.2.1 5 = .ok (.iload_n 1, 1) := by decide +kernel
theorem dJ3_checkIndex_8e157_6 : decode M_J3_checkIndex_8e157.2.2.1 6 = .ok (.if_icmp .lt 10, 3) := by decide +kernel
theorem dJ3_checkIndex_8e157_9 : decode M_J3_checkIndex_8e157.2.2.1 9 = .ok (.aload_n 2, 1) := by decide +kernel
theorem dJ3_checkIndex_8e157_10 : decode M_J3_checkIndex_8e157.2.2.1 10 = .ok (.iload_n 0, 1) := by decide +kernel
theorem dJ3_checkIndex_8e157_11 : decode M_J3_checkIndex_8e157.2.2.1 11 = .ok (.iload_n 1, 1) := by decide +kernel
theorem dJ3_checkIndex_8e157_12 : decode M_J3_checkIndex_8e157.2.2.1 12 = .ok (.invokestatic 95, 3) := by decide +kernel
theorem dJ3_checkIndex_8e157_15 : decode M_J3_checkIndex_8e157.2.2.1 15 = .ok (.athrow, 1) := by decide +kernel
theorem dJ3_checkIndex_8e157_16 : decode M_J3_checkIndex_8e157.2.2.1 16 = .ok (.iload_n 0, 1) := by decide +kernel
theorem dJ3_checkIndex_8e157_17 : decode M_J3_checkIndex_8e157.2.2.1 17 = .ok (.ireturn, 1) := by decide +kernel
theorem dJ3_checkFromToIndex_8c36e_0 : decode M_J3_checkFromToIndex_8c36e.2.2.1 0 = .ok (.iload_n 0, 1) := by decide +kernel
theorem dJ3_checkFromToIndex_8c36e_1 : decode M_J3_checkFromToIndex_8c36e.2.2.1 1 = .ok (.ifCond .lt 13, 3) := by decide +kernel
theorem dJ3_checkFromToIndex_8c36e_4 : decode M_J3_checkFromToIndex_8c36e.2.2.1 4 = .ok (.iload_n 0, 1) := by decide +kernel
theorem dJ3_checkFromToIndex_8c36e_5 : decode M_J3_checkFromToIndex_8c36e.2.2.1 5 = .ok (.iload_n 1, 1) := by decide +kernel
theorem dJ3_checkFromToIndex_8c36e_6 : decode M_J3_checkFromToIndex_8c36e.2.2.1 6 = .ok (.if_icmp .gt 8, 3) := by decide +kernel
theorem dJ3_checkFromToIndex_8c36e_9 : decode M_J3_checkFromToIndex_8c36e.2.2.1 9 = .ok (.iload_n 1, 1) := by decide +kernel
theorem dJ3_checkFromToIndex_8c36e_10 : decode M_J3_checkFromToIndex_8c36e.2.2.1 10 = .ok (.iload_n 2, 1) := by decide +kernel
theorem dJ3_checkFromToIndex_8c36e_11 : decode M_J3_checkFromToIndex_8c36e.2.2.1 11 = .ok (.if_icmp .le 11, 3) := by decide +kernel
theorem dJ3_checkFromToIndex_8c36e_14 : decode M_J3_checkFromToIndex_8c36e.2.2.1 14 = .ok (.aload_n 3, 1) := by decide +kernel
theorem dJ3_checkFromToIndex_8c36e_15 : decode M_J3_checkFromToIndex_8c36e.2.2.1 15 = .ok (.iload_n 0, 1) := by decide +kernel
theorem dJ3_checkFromToIndex_8c36e_16 : decode M_J3_checkFromToIndex_8c36e.2.2.1 16 = .ok (.iload_n 1, 1) := by decide +kernel
theorem dJ3_checkFromToIndex_8c36e_17 : decode M_J3_checkFromToIndex_8c36e.2.2.1 17 = .ok (.iload_n 2, 1) := by decide +kernel
theorem dJ3_checkFromToIndex_8c36e_18 : decode M_J3_checkFromToIndex_8c36e.2.2.1 18 = .ok (.invokestatic 99, 3) := by decide +kernel
theorem dJ3_checkFromToIndex_8c36e_21 : decode M_J3_checkFromToIndex_8c36e.2.2.1 21 = .ok (.athrow, 1) := by decide +kernel
theorem dJ3_checkFromToIndex_8c36e_22 : decode M_J3_checkFromToIndex_8c36e.2.2.1 22 = .ok (.iload_n 0, 1) := by decide +kernel
theorem dJ3_checkFromToIndex_8c36e_23 : decode M_J3_checkFromToIndex_8c36e.2.2.1 23 = .ok (.ireturn, 1) := by decide +kernel
