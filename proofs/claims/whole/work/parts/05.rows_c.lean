/-! what each instruction decodes to (written by program) -/
theorem dX11_init_0 : decode M_X11_init.2.2.1 0 = .ok (.aload_n 0, 1) := by decide +kernel
theorem dX11_init_1 : decode M_X11_init.2.2.1 1 = .ok (.invokespecial 1, 3) := by decide +kernel
theorem dX11_init_4 : decode M_X11_init.2.2.1 4 = .ok (.aload_n 0, 1) := by decide +kernel
theorem dX11_init_5 : decode M_X11_init.2.2.1 5 = .ok (.new 7, 3) := by decide +kernel
theorem dX11_init_8 : decode M_X11_init.2.2.1 8 = .ok (.dup, 1) := by decide +kernel
theorem dX11_init_9 : decode M_X11_init.2.2.1 9 = .ok (.invokespecial 9, 3) := by decide +kernel
theorem dX11_init_12 : decode M_X11_init.2.2.1 12 = .ok (.putfield 10, 3) := by decide +kernel
theorem dX11_init_15 : decode M_X11_init.2.2.1 15 = .ok (.aload_n 0, 1) := by decide +kernel
theorem dX11_init_16 : decode M_X11_init.2.2.1 16 = .ok (.bipush 6, 2) := by decide +kernel
theorem dX11_init_18 : decode M_X11_init.2.2.1 18 = .ok (.anewarray 16, 3) := by decide +kernel
theorem dX11_init_21 : decode M_X11_init.2.2.1 21 = .ok (.putfield 18, 3) := by decide +kernel
theorem dX11_init_24 : decode M_X11_init.2.2.1 24 = .ok (.aload_n 0, 1) := by decide +kernel
theorem dX11_init_25 : decode M_X11_init.2.2.1 25 = .ok (.new 22, 3) := by decide +kernel
theorem dX11_init_28 : decode M_X11_init.2.2.1 28 = .ok (.dup, 1) := by decide +kernel
theorem dX11_init_29 : decode M_X11_init.2.2.1 29 = .ok (.invokespecial 24, 3) := by decide +kernel
theorem dX11_init_32 : decode M_X11_init.2.2.1 32 = .ok (.putfield 25, 3) := by decide +kernel
theorem dX11_init_35 : decode M_X11_init.2.2.1 35 = .ok (.aload_n 0, 1) := by decide +kernel
theorem dX11_init_36 : decode M_X11_init.2.2.1 36 = .ok (.new 29, 3) := by decide +kernel
theorem dX11_init_39 : decode M_X11_init.2.2.1 39 = .ok (.dup, 1) := by decide +kernel
theorem dX11_init_40 : decode M_X11_init.2.2.1 40 = .ok (.invokespecial 31, 3) := by decide +kernel
theorem dX11_init_43 : decode M_X11_init.2.2.1 43 = .ok (.putfield 32, 3) := by decide +kernel
theorem dX11_init_46 : decode M_X11_init.2.2.1 46 = .ok (.aload_n 0, 1) := by decide +kernel
theorem dX11_init_47 : decode M_X11_init.2.2.1 47 = .ok (.new 36, 3) := by decide +kernel
theorem dX11_init_50 : decode M_X11_init.2.2.1 50 = .ok (.dup, 1) := by decide +kernel
theorem dX11_init_51 : decode M_X11_init.2.2.1 51 = .ok (.invokespecial 38, 3) := by decide +kernel
theorem dX11_init_54 : decode M_X11_init.2.2.1 54 = .ok (.putfield 39, 3) := by decide +kernel
theorem dX11_init_57 : decode M_X11_init.2.2.1 57 = .ok (.aload_n 0, 1) := by decide +kernel
theorem dX11_init_58 : decode M_X11_init.2.2.1 58 = .ok (.bipush 16, 2) := by decide +kernel
theorem dX11_init_60 : decode M_X11_init.2.2.1 60 = .ok (.anewarray 43, 3) := by decide +kernel
theorem dX11_init_63 : decode M_X11_init.2.2.1 63 = .ok (.putfield 45, 3) := by decide +kernel
theorem dX11_init_66 : decode M_X11_init.2.2.1 66 = .ok (.aload_n 0, 1) := by decide +kernel
theorem dX11_init_67 : decode M_X11_init.2.2.1 67 = .ok (.bipush 10, 2) := by decide +kernel
theorem dX11_init_69 : decode M_X11_init.2.2.1 69 = .ok (.putfield 49, 3) := by decide +kernel
theorem dX11_init_72 : decode M_X11_init.2.2.1 72 = .ok (.aload_n 0, 1) := by decide +kernel
theorem dX11_init_73 : decode M_X11_init.2.2.1 73 = .ok (.bipush 17, 2) := by decide +kernel
theorem dX11_init_75 : decode M_X11_init.2.2.1 75 = .ok (.putfield 53, 3) := by decide +kernel
theorem dX11_init_78 : decode M_X11_init.2.2.1 78 = .ok (.aload_n 0, 1) := by decide +kernel
theorem dX11_init_79 : decode M_X11_init.2.2.1 79 = .ok (.new 56, 3) := by decide +kernel
theorem dX11_init_82 : decode M_X11_init.2.2.1 82 = .ok (.dup, 1) := by decide +kernel
theorem dX11_init_83 : decode M_X11_init.2.2.1 83 = .ok (.invokespecial 58, 3) := by decide +kernel
theorem dX11_init_86 : decode M_X11_init.2.2.1 86 = .ok (.putfield 59, 3) := by decide +kernel
theorem dX11_init_89 : decode M_X11_init.2.2.1 89 = .ok (.aload_n 0, 1) := by decide +kernel
theorem dX11_init_90 : decode M_X11_init.2.2.1 90 = .ok (.new 63, 3) := by decide +kernel
theorem dX11_init_93 : decode M_X11_init.2.2.1 93 = .ok (.dup, 1) := by decide +kernel
theorem dX11_init_94 : decode M_X11_init.2.2.1 94 = .ok (.invokespecial 65, 3) := by decide +kernel
theorem dX11_init_97 : decode M_X11_init.2.2.1 97 = .ok (.putfield 66, 3) := by decide +kernel
theorem dX11_init_100 : decode M_X11_init.2.2.1 100 = .ok (.aload_n 0, 1) := by decide +kernel
theorem dX11_init_101 : decode M_X11_init.2.2.1 101 = .ok (.new 63, 3) := by decide +kernel
theorem dX11_init_104 : decode M_X11_init.2.2.1 104 = .ok (.dup, 1) := by decide +kernel
theorem dX11_init_105 : decode M_X11_init.2.2.1 105 = .ok (.invokespecial 65, 3) := by decide +kernel
theorem dX11_init_108 : decode M_X11_init.2.2.1 108 = .ok (.putfield 70, 3) := by decide +kernel
theorem dX11_init_111 : decode M_X11_init.2.2.1 111 = .ok (.aload_n 0, 1) := by decide +kernel
theorem dX11_init_112 : decode M_X11_init.2.2.1 112 = .ok (.new 73, 3) := by decide +kernel
theorem dX11_init_115 : decode M_X11_init.2.2.1 115 = .ok (.dup, 1) := by decide +kernel
theorem dX11_init_116 : decode M_X11_init.2.2.1 116 = .ok (.invokespecial 75, 3) := by decide +kernel
theorem dX11_init_119 : decode M_X11_init.2.2.1 119 = .ok (.putfield 76, 3) := by decide +kernel
theorem dX11_init_122 : decode M_X11_init.2.2.1 122 = .ok (.return_, 1) := by decide +kernel
theorem dX11_cellar_0 : decode M_X11_cellar.2.2.1 0 = .ok (.iload_n 1, 1) := by decide +kernel
theorem dX11_cellar_1 : decode M_X11_cellar.2.2.1 1 = .ok (.iload_n 2, 1) := by decide +kernel
theorem dX11_cellar_2 : decode M_X11_cellar.2.2.1 2 = .ok (.invokestatic 80, 3) := by decide +kernel
theorem dX11_cellar_5 : decode M_X11_cellar.2.2.1 5 = .ok (.ifCond .eq 12, 3) := by decide +kernel
theorem dX11_cellar_8 : decode M_X11_cellar.2.2.1 8 = .ok (.aload_n 0, 1) := by decide +kernel
theorem dX11_cellar_9 : decode M_X11_cellar.2.2.1 9 = .ok (.getfield 84, 3) := by decide +kernel
theorem dX11_cellar_12 : decode M_X11_cellar.2.2.1 12 = .ok (.bipush 6, 2) := by decide +kernel
theorem dX11_cellar_14 : decode M_X11_cellar.2.2.1 14 = .ok (.if_icmp .lt 5, 3) := by decide +kernel
theorem dX11_cellar_17 : decode M_X11_cellar.2.2.1 17 = .ok (.iconst (-1), 1) := by decide +kernel
theorem dX11_cellar_18 : decode M_X11_cellar.2.2.1 18 = .ok (.ireturn, 1) := by decide +kernel
theorem dX11_cellar_19 : decode M_X11_cellar.2.2.1 19 = .ok (.aload_n 0, 1) := by decide +kernel
theorem dX11_cellar_20 : decode M_X11_cellar.2.2.1 20 = .ok (.getfield 18, 3) := by decide +kernel
theorem dX11_cellar_23 : decode M_X11_cellar.2.2.1 23 = .ok (.aload_n 0, 1) := by decide +kernel
theorem dX11_cellar_24 : decode M_X11_cellar.2.2.1 24 = .ok (.getfield 84, 3) := by decide +kernel
theorem dX11_cellar_27 : decode M_X11_cellar.2.2.1 27 = .ok (.new 16, 3) := by decide +kernel
theorem dX11_cellar_30 : decode M_X11_cellar.2.2.1 30 = .ok (.dup, 1) := by decide +kernel
theorem dX11_cellar_31 : decode M_X11_cellar.2.2.1 31 = .ok (.iload_n 1, 1) := by decide +kernel
theorem dX11_cellar_32 : decode M_X11_cellar.2.2.1 32 = .ok (.iload_n 2, 1) := by decide +kernel
theorem dX11_cellar_33 : decode M_X11_cellar.2.2.1 33 = .ok (.invokespecial 87, 3) := by decide +kernel
theorem dX11_cellar_36 : decode M_X11_cellar.2.2.1 36 = .ok (.aastore, 1) := by decide +kernel
theorem dX11_cellar_37 : decode M_X11_cellar.2.2.1 37 = .ok (.aload_n 0, 1) := by decide +kernel
theorem dX11_cellar_38 : decode M_X11_cellar.2.2.1 38 = .ok (.dup, 1) := by decide +kernel
theorem dX11_cellar_39 : decode M_X11_cellar.2.2.1 39 = .ok (.getfield 84, 3) := by decide +kernel
theorem dX11_cellar_42 : decode M_X11_cellar.2.2.1 42 = .ok (.iconst 1, 1) := by decide +kernel
theorem dX11_cellar_43 : decode M_X11_cellar.2.2.1 43 = .ok (.iadd, 1) := by decide +kernel
theorem dX11_cellar_44 : decode M_X11_cellar.2.2.1 44 = .ok (.putfield 84, 3) := by decide +kernel
theorem dX11_cellar_47 : decode M_X11_cellar.2.2.1 47 = .ok (.aload_n 0, 1) := by decide +kernel
theorem dX11_cellar_48 : decode M_X11_cellar.2.2.1 48 = .ok (.getfield 84, 3) := by decide +kernel
theorem dX11_cellar_51 : decode M_X11_cellar.2.2.1 51 = .ok (.iconst 1, 1) := by decide +kernel
theorem dX11_cellar_52 : decode M_X11_cellar.2.2.1 52 = .ok (.isub, 1) := by decide +kernel
theorem dX11_cellar_53 : decode M_X11_cellar.2.2.1 53 = .ok (.ireturn, 1) := by decide +kernel
theorem dX11_pen_0 : decode M_X11_pen.2.2.1 0 = .ok (.aload_n 0, 1) := by decide +kernel
theorem dX11_pen_1 : decode M_X11_pen.2.2.1 1 = .ok (.iload_n 1, 1) := by decide +kernel
theorem dX11_pen_2 : decode M_X11_pen.2.2.1 2 = .ok (.invokevirtual 90, 3) := by decide +kernel
theorem dX11_pen_5 : decode M_X11_pen.2.2.1 5 = .ok (.astore 5, 2) := by decide +kernel
theorem dX11_pen_7 : decode M_X11_pen.2.2.1 7 = .ok (.aload 5, 2) := by decide +kernel
theorem dX11_pen_9 : decode M_X11_pen.2.2.1 9 = .ok (.ifnull 36, 3) := by decide +kernel
theorem dX11_pen_12 : decode M_X11_pen.2.2.1 12 = .ok (.iload_n 2, 1) := by decide +kernel
theorem dX11_pen_13 : decode M_X11_pen.2.2.1 13 = .ok (.iconst 0, 1) := by decide +kernel
theorem dX11_pen_14 : decode M_X11_pen.2.2.1 14 = .ok (.bipush 63, 2) := by decide +kernel
theorem dX11_pen_16 : decode M_X11_pen.2.2.1 16 = .ok (.invokestatic 94, 3) := by decide +kernel
theorem dX11_pen_19 : decode M_X11_pen.2.2.1 19 = .ok (.ifCond .eq 26, 3) := by decide +kernel
theorem dX11_pen_22 : decode M_X11_pen.2.2.1 22 = .ok (.iload_n 3, 1) := by decide +kernel
theorem dX11_pen_23 : decode M_X11_pen.2.2.1 23 = .ok (.iconst 0, 1) := by decide +kernel
theorem dX11_pen_24 : decode M_X11_pen.2.2.1 24 = .ok (.bipush 63, 2) := by decide +kernel
theorem dX11_pen_26 : decode M_X11_pen.2.2.1 26 = .ok (.invokestatic 94, 3) := by decide +kernel
theorem dX11_pen_29 : decode M_X11_pen.2.2.1 29 = .ok (.ifCond .eq 16, 3) := by decide +kernel
theorem dX11_pen_32 : decode M_X11_pen.2.2.1 32 = .ok (.iload 4, 2) := by decide +kernel
theorem dX11_pen_34 : decode M_X11_pen.2.2.1 34 = .ok (.bipush 10, 2) := by decide +kernel
theorem dX11_pen_36 : decode M_X11_pen.2.2.1 36 = .ok (.sipush 999, 3) := by decide +kernel
theorem dX11_pen_39 : decode M_X11_pen.2.2.1 39 = .ok (.invokestatic 94, 3) := by decide +kernel
theorem dX11_pen_42 : decode M_X11_pen.2.2.1 42 = .ok (.ifCond .ne 5, 3) := by decide +kernel
theorem dX11_pen_45 : decode M_X11_pen.2.2.1 45 = .ok (.iconst 0, 1) := by decide +kernel
theorem dX11_pen_46 : decode M_X11_pen.2.2.1 46 = .ok (.ireturn, 1) := by decide +kernel
theorem dX11_pen_47 : decode M_X11_pen.2.2.1 47 = .ok (.aload 5, 2) := by decide +kernel
theorem dX11_pen_49 : decode M_X11_pen.2.2.1 49 = .ok (.iload_n 2, 1) := by decide +kernel
theorem dX11_pen_50 : decode M_X11_pen.2.2.1 50 = .ok (.putfield 98, 3) := by decide +kernel
theorem dX11_pen_53 : decode M_X11_pen.2.2.1 53 = .ok (.aload 5, 2) := by decide +kernel
theorem dX11_pen_55 : decode M_X11_pen.2.2.1 55 = .ok (.iload_n 3, 1) := by decide +kernel
theorem dX11_pen_56 : decode M_X11_pen.2.2.1 56 = .ok (.putfield 101, 3) := by decide +kernel
theorem dX11_pen_59 : decode M_X11_pen.2.2.1 59 = .ok (.aload 5, 2) := by decide +kernel
theorem dX11_pen_61 : decode M_X11_pen.2.2.1 61 = .ok (.iload 4, 2) := by decide +kernel
theorem dX11_pen_63 : decode M_X11_pen.2.2.1 63 = .ok (.putfield 104, 3) := by decide +kernel
theorem dX11_pen_66 : decode M_X11_pen.2.2.1 66 = .ok (.iconst 1, 1) := by decide +kernel
theorem dX11_pen_67 : decode M_X11_pen.2.2.1 67 = .ok (.ireturn, 1) := by decide +kernel
theorem dX11_ground_0 : decode M_X11_ground.2.2.1 0 = .ok (.aload_n 0, 1) := by decide +kernel
theorem dX11_ground_1 : decode M_X11_ground.2.2.1 1 = .ok (.iload_n 1, 1) := by decide +kernel
theorem dX11_ground_2 : decode M_X11_ground.2.2.1 2 = .ok (.invokevirtual 90, 3) := by decide +kernel
theorem dX11_ground_5 : decode M_X11_ground.2.2.1 5 = .ok (.astore_n 3, 1) := by decide +kernel
theorem dX11_ground_6 : decode M_X11_ground.2.2.1 6 = .ok (.aload_n 3, 1) := by decide +kernel
theorem dX11_ground_7 : decode M_X11_ground.2.2.1 7 = .ok (.ifnull 26, 3) := by decide +kernel
theorem dX11_ground_10 : decode M_X11_ground.2.2.1 10 = .ok (.iload_n 2, 1) := by decide +kernel
theorem dX11_ground_11 : decode M_X11_ground.2.2.1 11 = .ok (.sipush (-9999), 3) := by decide +kernel
theorem dX11_ground_14 : decode M_X11_ground.2.2.1 14 = .ok (.sipush 9999, 3) := by decide +kernel
theorem dX11_ground_17 : decode M_X11_ground.2.2.1 17 = .ok (.invokestatic 94, 3) := by decide +kernel
theorem dX11_ground_20 : decode M_X11_ground.2.2.1 20 = .ok (.ifCond .eq 13, 3) := by decide +kernel
theorem dX11_ground_23 : decode M_X11_ground.2.2.1 23 = .ok (.aload_n 3, 1) := by decide +kernel
theorem dX11_ground_24 : decode M_X11_ground.2.2.1 24 = .ok (.getfield 107, 3) := by decide +kernel
theorem dX11_ground_27 : decode M_X11_ground.2.2.1 27 = .ok (.sipush 200, 3) := by decide +kernel
theorem dX11_ground_30 : decode M_X11_ground.2.2.1 30 = .ok (.if_icmp .lt 6, 3) := by decide +kernel
theorem dX11_ground_33 : decode M_X11_ground.2.2.1 33 = .ok (.ldc 110, 2) := by decide +kernel
theorem dX11_ground_35 : decode M_X11_ground.2.2.1 35 = .ok (.ireturn, 1) := by decide +kernel
theorem dX11_ground_36 : decode M_X11_ground.2.2.1 36 = .ok (.aload_n 3, 1) := by decide +kernel
theorem dX11_ground_37 : decode M_X11_ground.2.2.1 37 = .ok (.iload_n 2, 1) := by decide +kernel
theorem dX11_ground_38 : decode M_X11_ground.2.2.1 38 = .ok (.invokevirtual 111, 3) := by decide +kernel
theorem dX11_ground_41 : decode M_X11_ground.2.2.1 41 = .ok (.istore 4, 2) := by decide +kernel
theorem dX11_ground_43 : decode M_X11_ground.2.2.1 43 = .ok (.aload_n 3, 1) := by decide +kernel
theorem dX11_ground_44 : decode M_X11_ground.2.2.1 44 = .ok (.aload_n 3, 1) := by decide +kernel
theorem dX11_ground_45 : decode M_X11_ground.2.2.1 45 = .ok (.getfield 107, 3) := by decide +kernel
theorem dX11_ground_48 : decode M_X11_ground.2.2.1 48 = .ok (.iload 4, 2) := by decide +kernel
theorem dX11_ground_50 : decode M_X11_ground.2.2.1 50 = .ok (.invokevirtual 115, 3) := by decide +kernel
theorem dX11_ground_53 : decode M_X11_ground.2.2.1 53 = .ok (.pop, 1) := by decide +kernel
theorem dX11_ground_54 : decode M_X11_ground.2.2.1 54 = .ok (.iload 4, 2) := by decide +kernel
theorem dX11_ground_56 : decode M_X11_ground.2.2.1 56 = .ok (.ireturn, 1) := by decide +kernel
theorem dX11_write_0 : decode M_X11_write.2.2.1 0 = .ok (.aload_n 0, 1) := by decide +kernel
theorem dX11_write_1 : decode M_X11_write.2.2.1 1 = .ok (.iload_n 1, 1) := by decide +kernel
theorem dX11_write_2 : decode M_X11_write.2.2.1 2 = .ok (.invokevirtual 90, 3) := by decide +kernel
theorem dX11_write_5 : decode M_X11_write.2.2.1 5 = .ok (.astore 4, 2) := by decide +kernel
theorem dX11_write_7 : decode M_X11_write.2.2.1 7 = .ok (.aload 4, 2) := by decide +kernel
theorem dX11_write_9 : decode M_X11_write.2.2.1 9 = .ok (.ifnull 22, 3) := by decide +kernel
theorem dX11_write_12 : decode M_X11_write.2.2.1 12 = .ok (.iload_n 3, 1) := by decide +kernel
theorem dX11_write_13 : decode M_X11_write.2.2.1 13 = .ok (.ldc 110, 2) := by decide +kernel
theorem dX11_write_15 : decode M_X11_write.2.2.1 15 = .ok (.if_icmp .eq 18, 3) := by decide +kernel
theorem dX11_write_18 : decode M_X11_write.2.2.1 18 = .ok (.iload_n 3, 1) := by decide +kernel
theorem dX11_write_19 : decode M_X11_write.2.2.1 19 = .ok (.sipush (-999), 3) := by decide +kernel
theorem dX11_write_22 : decode M_X11_write.2.2.1 22 = .ok (.sipush 999, 3) := by decide +kernel
theorem dX11_write_25 : decode M_X11_write.2.2.1 25 = .ok (.invokestatic 94, 3) := by decide +kernel
theorem dX11_write_28 : decode M_X11_write.2.2.1 28 = .ok (.ifCond .ne 5, 3) := by decide +kernel
theorem dX11_write_31 : decode M_X11_write.2.2.1 31 = .ok (.iconst 0, 1) := by decide +kernel
theorem dX11_write_32 : decode M_X11_write.2.2.1 32 = .ok (.ireturn, 1) := by decide +kernel
theorem dX11_write_33 : decode M_X11_write.2.2.1 33 = .ok (.aload 4, 2) := by decide +kernel
theorem dX11_write_35 : decode M_X11_write.2.2.1 35 = .ok (.iload_n 2, 1) := by decide +kernel
theorem dX11_write_36 : decode M_X11_write.2.2.1 36 = .ok (.iload_n 3, 1) := by decide +kernel
theorem dX11_write_37 : decode M_X11_write.2.2.1 37 = .ok (.invokevirtual 115, 3) := by decide +kernel
theorem dX11_write_40 : decode M_X11_write.2.2.1 40 = .ok (.ireturn, 1) := by decide +kernel
theorem dX11_paper_0 : decode M_X11_paper.2.2.1 0 = .ok (.aload_n 0, 1) := by decide +kernel
theorem dX11_paper_1 : decode M_X11_paper.2.2.1 1 = .ok (.iload_n 1, 1) := by decide +kernel
theorem dX11_paper_2 : decode M_X11_paper.2.2.1 2 = .ok (.invokevirtual 90, 3) := by decide +kernel
theorem dX11_paper_5 : decode M_X11_paper.2.2.1 5 = .ok (.astore_n 2, 1) := by decide +kernel
theorem dX11_paper_6 : decode M_X11_paper.2.2.1 6 = .ok (.aload_n 2, 1) := by decide +kernel
theorem dX11_paper_7 : decode M_X11_paper.2.2.1 7 = .ok (.ifnonnull 7, 3) := by decide +kernel
theorem dX11_paper_10 : decode M_X11_paper.2.2.1 10 = .ok (.iconst (-1), 1) := by decide +kernel
theorem dX11_paper_11 : decode M_X11_paper.2.2.1 11 = .ok (.goto 7, 3) := by decide +kernel
theorem dX11_paper_14 : decode M_X11_paper.2.2.1 14 = .ok (.aload_n 2, 1) := by decide +kernel
theorem dX11_paper_15 : decode M_X11_paper.2.2.1 15 = .ok (.invokevirtual 118, 3) := by decide +kernel
theorem dX11_paper_18 : decode M_X11_paper.2.2.1 18 = .ok (.ireturn, 1) := by decide +kernel
theorem dX11_at_0 : decode M_X11_at.2.2.1 0 = .ok (.aload_n 0, 1) := by decide +kernel
theorem dX11_at_1 : decode M_X11_at.2.2.1 1 = .ok (.iload_n 1, 1) := by decide +kernel
theorem dX11_at_2 : decode M_X11_at.2.2.1 2 = .ok (.invokevirtual 90, 3) := by decide +kernel
theorem dX11_at_5 : decode M_X11_at.2.2.1 5 = .ok (.astore_n 3, 1) := by decide +kernel
theorem dX11_at_6 : decode M_X11_at.2.2.1 6 = .ok (.aload_n 3, 1) := by decide +kernel
theorem dX11_at_7 : decode M_X11_at.2.2.1 7 = .ok (.ifnonnull 6, 3) := by decide +kernel
theorem dX11_at_10 : decode M_X11_at.2.2.1 10 = .ok (.ldc 110, 2) := by decide +kernel
theorem dX11_at_12 : decode M_X11_at.2.2.1 12 = .ok (.ireturn, 1) := by decide +kernel
theorem dX11_at_13 : decode M_X11_at.2.2.1 13 = .ok (.iload_n 2, 1) := by decide +kernel
theorem dX11_at_14 : decode M_X11_at.2.2.1 14 = .ok (.tableswitch 68 1000 1005 #[38, 43, 48, 53, 58, 63], 38) := by decide +kernel
theorem dX11_at_52 : decode M_X11_at.2.2.1 52 = .ok (.aload_n 3, 1) := by decide +kernel
theorem dX11_at_53 : decode M_X11_at.2.2.1 53 = .ok (.getfield 107, 3) := by decide +kernel
theorem dX11_at_56 : decode M_X11_at.2.2.1 56 = .ok (.ireturn, 1) := by decide +kernel
theorem dX11_at_57 : decode M_X11_at.2.2.1 57 = .ok (.aload_n 3, 1) := by decide +kernel
theorem dX11_at_58 : decode M_X11_at.2.2.1 58 = .ok (.getfield 122, 3) := by decide +kernel
theorem dX11_at_61 : decode M_X11_at.2.2.1 61 = .ok (.ireturn, 1) := by decide +kernel
theorem dX11_at_62 : decode M_X11_at.2.2.1 62 = .ok (.aload_n 3, 1) := by decide +kernel
theorem dX11_at_63 : decode M_X11_at.2.2.1 63 = .ok (.getfield 125, 3) := by decide +kernel
theorem dX11_at_66 : decode M_X11_at.2.2.1 66 = .ok (.ireturn, 1) := by decide +kernel
theorem dX11_at_67 : decode M_X11_at.2.2.1 67 = .ok (.aload_n 3, 1) := by decide +kernel
theorem dX11_at_68 : decode M_X11_at.2.2.1 68 = .ok (.invokevirtual 128, 3) := by decide +kernel
theorem dX11_at_71 : decode M_X11_at.2.2.1 71 = .ok (.ireturn, 1) := by decide +kernel
theorem dX11_at_72 : decode M_X11_at.2.2.1 72 = .ok (.aload_n 3, 1) := by decide +kernel
theorem dX11_at_73 : decode M_X11_at.2.2.1 73 = .ok (.invokevirtual 131, 3) := by decide +kernel
theorem dX11_at_76 : decode M_X11_at.2.2.1 76 = .ok (.ireturn, 1) := by decide +kernel
theorem dX11_at_77 : decode M_X11_at.2.2.1 77 = .ok (.aload_n 3, 1) := by decide +kernel
theorem dX11_at_78 : decode M_X11_at.2.2.1 78 = .ok (.getfield 134, 3) := by decide +kernel
theorem dX11_at_81 : decode M_X11_at.2.2.1 81 = .ok (.ireturn, 1) := by decide +kernel
theorem dX11_at_82 : decode M_X11_at.2.2.1 82 = .ok (.aload_n 3, 1) := by decide +kernel
theorem dX11_at_83 : decode M_X11_at.2.2.1 83 = .ok (.iload_n 2, 1) := by decide +kernel
theorem dX11_at_84 : decode M_X11_at.2.2.1 84 = .ok (.invokevirtual 137, 3) := by decide +kernel
theorem dX11_at_87 : decode M_X11_at.2.2.1 87 = .ok (.ireturn, 1) := by decide +kernel
theorem dX11_back_0 : decode M_X11_back.2.2.1 0 = .ok (.aload_n 0, 1) := by decide +kernel
theorem dX11_back_1 : decode M_X11_back.2.2.1 1 = .ok (.iload_n 1, 1) := by decide +kernel
theorem dX11_back_2 : decode M_X11_back.2.2.1 2 = .ok (.invokevirtual 90, 3) := by decide +kernel
theorem dX11_back_5 : decode M_X11_back.2.2.1 5 = .ok (.astore_n 3, 1) := by decide +kernel
theorem dX11_back_6 : decode M_X11_back.2.2.1 6 = .ok (.aload_n 3, 1) := by decide +kernel
theorem dX11_back_7 : decode M_X11_back.2.2.1 7 = .ok (.ifnull 25, 3) := by decide +kernel
theorem dX11_back_10 : decode M_X11_back.2.2.1 10 = .ok (.iload_n 2, 1) := by decide +kernel
theorem dX11_back_11 : decode M_X11_back.2.2.1 11 = .ok (.iconst 2, 1) := by decide +kernel
theorem dX11_back_12 : decode M_X11_back.2.2.1 12 = .ok (.sipush 199, 3) := by decide +kernel
theorem dX11_back_15 : decode M_X11_back.2.2.1 15 = .ok (.invokestatic 94, 3) := by decide +kernel
theorem dX11_back_18 : decode M_X11_back.2.2.1 18 = .ok (.ifCond .eq 14, 3) := by decide +kernel
theorem dX11_back_21 : decode M_X11_back.2.2.1 21 = .ok (.aload_n 3, 1) := by decide +kernel
theorem dX11_back_22 : decode M_X11_back.2.2.1 22 = .ok (.iload_n 2, 1) := by decide +kernel
theorem dX11_back_23 : decode M_X11_back.2.2.1 23 = .ok (.iconst 2, 1) := by decide +kernel
theorem dX11_back_24 : decode M_X11_back.2.2.1 24 = .ok (.isub, 1) := by decide +kernel
theorem dX11_back_25 : decode M_X11_back.2.2.1 25 = .ok (.iload_n 2, 1) := by decide +kernel
theorem dX11_back_26 : decode M_X11_back.2.2.1 26 = .ok (.invokevirtual 140, 3) := by decide +kernel
theorem dX11_back_29 : decode M_X11_back.2.2.1 29 = .ok (.ifCond .ne 6, 3) := by decide +kernel
theorem dX11_back_32 : decode M_X11_back.2.2.1 32 = .ok (.ldc 110, 2) := by decide +kernel
theorem dX11_back_34 : decode M_X11_back.2.2.1 34 = .ok (.ireturn, 1) := by decide +kernel
theorem dX11_back_35 : decode M_X11_back.2.2.1 35 = .ok (.aload_n 3, 1) := by decide +kernel
theorem dX11_back_36 : decode M_X11_back.2.2.1 36 = .ok (.iload_n 2, 1) := by decide +kernel
theorem dX11_back_37 : decode M_X11_back.2.2.1 37 = .ok (.invokevirtual 143, 3) := by decide +kernel
theorem dX11_back_40 : decode M_X11_back.2.2.1 40 = .ok (.ireturn, 1) := by decide +kernel
theorem dX11_swing_0 : decode M_X11_swing.2.2.1 0 = .ok (.aload_n 0, 1) := by decide +kernel
theorem dX11_swing_1 : decode M_X11_swing.2.2.1 1 = .ok (.iload_n 1, 1) := by decide +kernel
theorem dX11_swing_2 : decode M_X11_swing.2.2.1 2 = .ok (.invokevirtual 90, 3) := by decide +kernel
theorem dX11_swing_5 : decode M_X11_swing.2.2.1 5 = .ok (.astore 5, 2) := by decide +kernel
theorem dX11_swing_7 : decode M_X11_swing.2.2.1 7 = .ok (.aload 5, 2) := by decide +kernel
theorem dX11_swing_9 : decode M_X11_swing.2.2.1 9 = .ok (.ifnull 31, 3) := by decide +kernel
theorem dX11_swing_12 : decode M_X11_swing.2.2.1 12 = .ok (.iload_n 2, 1) := by decide +kernel
theorem dX11_swing_13 : decode M_X11_swing.2.2.1 13 = .ok (.iconst 0, 1) := by decide +kernel
theorem dX11_swing_14 : decode M_X11_swing.2.2.1 14 = .ok (.sipush 199, 3) := by decide +kernel
theorem dX11_swing_17 : decode M_X11_swing.2.2.1 17 = .ok (.invokestatic 94, 3) := by decide +kernel
theorem dX11_swing_20 : decode M_X11_swing.2.2.1 20 = .ok (.ifCond .eq 20, 3) := by decide +kernel
theorem dX11_swing_23 : decode M_X11_swing.2.2.1 23 = .ok (.iload_n 2, 1) := by decide +kernel
theorem dX11_swing_24 : decode M_X11_swing.2.2.1 24 = .ok (.iconst 2, 1) := by decide +kernel
theorem dX11_swing_25 : decode M_X11_swing.2.2.1 25 = .ok (.iadd, 1) := by decide +kernel
theorem dX11_swing_26 : decode M_X11_swing.2.2.1 26 = .ok (.iload_n 3, 1) := by decide +kernel
theorem dX11_swing_27 : decode M_X11_swing.2.2.1 27 = .ok (.if_icmp .gt 13, 3) := by decide +kernel
theorem dX11_swing_30 : decode M_X11_swing.2.2.1 30 = .ok (.iload 4, 2) := by decide +kernel
theorem dX11_swing_32 : decode M_X11_swing.2.2.1 32 = .ok (.iconst 0, 1) := by decide +kernel
theorem dX11_swing_33 : decode M_X11_swing.2.2.1 33 = .ok (.iconst 2, 1) := by decide +kernel
theorem dX11_swing_34 : decode M_X11_swing.2.2.1 34 = .ok (.invokestatic 94, 3) := by decide +kernel
theorem dX11_swing_37 : decode M_X11_swing.2.2.1 37 = .ok (.ifCond .ne 5, 3) := by decide +kernel
theorem dX11_swing_40 : decode M_X11_swing.2.2.1 40 = .ok (.iconst (-1), 1) := by decide +kernel
theorem dX11_swing_41 : decode M_X11_swing.2.2.1 41 = .ok (.ireturn, 1) := by decide +kernel
theorem dX11_swing_42 : decode M_X11_swing.2.2.1 42 = .ok (.aload 5, 2) := by decide +kernel
theorem dX11_swing_44 : decode M_X11_swing.2.2.1 44 = .ok (.iload_n 2, 1) := by decide +kernel
theorem dX11_swing_45 : decode M_X11_swing.2.2.1 45 = .ok (.iload_n 3, 1) := by decide +kernel
theorem dX11_swing_46 : decode M_X11_swing.2.2.1 46 = .ok (.invokevirtual 140, 3) := by decide +kernel
theorem dX11_swing_49 : decode M_X11_swing.2.2.1 49 = .ok (.ifCond .ne 5, 3) := by decide +kernel
theorem dX11_swing_52 : decode M_X11_swing.2.2.1 52 = .ok (.iconst (-1), 1) := by decide +kernel
theorem dX11_swing_53 : decode M_X11_swing.2.2.1 53 = .ok (.ireturn, 1) := by decide +kernel
theorem dX11_swing_54 : decode M_X11_swing.2.2.1 54 = .ok (.aload_n 0, 1) := by decide +kernel
theorem dX11_swing_55 : decode M_X11_swing.2.2.1 55 = .ok (.getfield 25, 3) := by decide +kernel
theorem dX11_swing_58 : decode M_X11_swing.2.2.1 58 = .ok (.aload 5, 2) := by decide +kernel
theorem dX11_swing_60 : decode M_X11_swing.2.2.1 60 = .ok (.iload_n 2, 1) := by decide +kernel
theorem dX11_swing_61 : decode M_X11_swing.2.2.1 61 = .ok (.iload_n 3, 1) := by decide +kernel
theorem dX11_swing_62 : decode M_X11_swing.2.2.1 62 = .ok (.invokevirtual 146, 3) := by decide +kernel
theorem dX11_swing_65 : decode M_X11_swing.2.2.1 65 = .ok (.iload 4, 2) := by decide +kernel
theorem dX11_swing_67 : decode M_X11_swing.2.2.1 67 = .ok (.ifCond .ne 11, 3) := by decide +kernel
theorem dX11_swing_70 : decode M_X11_swing.2.2.1 70 = .ok (.aload_n 0, 1) := by decide +kernel
theorem dX11_swing_71 : decode M_X11_swing.2.2.1 71 = .ok (.getfield 25, 3) := by decide +kernel
theorem dX11_swing_74 : decode M_X11_swing.2.2.1 74 = .ok (.getfield 150, 3) := by decide +kernel
theorem dX11_swing_77 : decode M_X11_swing.2.2.1 77 = .ok (.ireturn, 1) := by decide +kernel
theorem dX11_swing_78 : decode M_X11_swing.2.2.1 78 = .ok (.iload 4, 2) := by decide +kernel
theorem dX11_swing_80 : decode M_X11_swing.2.2.1 80 = .ok (.iconst 1, 1) := by decide +kernel
theorem dX11_swing_81 : decode M_X11_swing.2.2.1 81 = .ok (.if_icmp .ne 13, 3) := by decide +kernel
theorem dX11_swing_84 : decode M_X11_swing.2.2.1 84 = .ok (.aload_n 0, 1) := by decide +kernel
theorem dX11_swing_85 : decode M_X11_swing.2.2.1 85 = .ok (.getfield 25, 3) := by decide +kernel
theorem dX11_swing_88 : decode M_X11_swing.2.2.1 88 = .ok (.getfield 153, 3) := by decide +kernel
theorem dX11_swing_91 : decode M_X11_swing.2.2.1 91 = .ok (.goto 10, 3) := by decide +kernel
theorem dX11_swing_94 : decode M_X11_swing.2.2.1 94 = .ok (.aload_n 0, 1) := by decide +kernel
theorem dX11_swing_95 : decode M_X11_swing.2.2.1 95 = .ok (.getfield 25, 3) := by decide +kernel
theorem dX11_swing_98 : decode M_X11_swing.2.2.1 98 = .ok (.getfield 156, 3) := by decide +kernel
theorem dX11_swing_101 : decode M_X11_swing.2.2.1 101 = .ok (.ireturn, 1) := by decide +kernel
theorem dX11_mark_0 : decode M_X11_mark.2.2.1 0 = .ok (.aload_n 0, 1) := by decide +kernel
theorem dX11_mark_1 : decode M_X11_mark.2.2.1 1 = .ok (.iload_n 1, 1) := by decide +kernel
theorem dX11_mark_2 : decode M_X11_mark.2.2.1 2 = .ok (.invokevirtual 90, 3) := by decide +kernel
theorem dX11_mark_5 : decode M_X11_mark.2.2.1 5 = .ok (.astore 4, 2) := by decide +kernel
theorem dX11_mark_7 : decode M_X11_mark.2.2.1 7 = .ok (.aload 4, 2) := by decide +kernel
theorem dX11_mark_9 : decode M_X11_mark.2.2.1 9 = .ok (.ifnull 28, 3) := by decide +kernel
theorem dX11_mark_12 : decode M_X11_mark.2.2.1 12 = .ok (.iload_n 3, 1) := by decide +kernel
theorem dX11_mark_13 : decode M_X11_mark.2.2.1 13 = .ok (.iconst 0, 1) := by decide +kernel
theorem dX11_mark_14 : decode M_X11_mark.2.2.1 14 = .ok (.sipush 9999, 3) := by decide +kernel
theorem dX11_mark_17 : decode M_X11_mark.2.2.1 17 = .ok (.invokestatic 94, 3) := by decide +kernel
theorem dX11_mark_20 : decode M_X11_mark.2.2.1 20 = .ok (.ifCond .eq 17, 3) := by decide +kernel
theorem dX11_mark_23 : decode M_X11_mark.2.2.1 23 = .ok (.aload 4, 2) := by decide +kernel
theorem dX11_mark_25 : decode M_X11_mark.2.2.1 25 = .ok (.iload_n 2, 1) := by decide +kernel
theorem dX11_mark_26 : decode M_X11_mark.2.2.1 26 = .ok (.iload_n 3, 1) := by decide +kernel
theorem dX11_mark_27 : decode M_X11_mark.2.2.1 27 = .ok (.invokevirtual 159, 3) := by decide +kernel
theorem dX11_mark_30 : decode M_X11_mark.2.2.1 30 = .ok (.ifCond .eq 7, 3) := by decide +kernel
theorem dX11_mark_33 : decode M_X11_mark.2.2.1 33 = .ok (.iconst 1, 1) := by decide +kernel
theorem dX11_mark_34 : decode M_X11_mark.2.2.1 34 = .ok (.goto 4, 3) := by decide +kernel
theorem dX11_mark_37 : decode M_X11_mark.2.2.1 37 = .ok (.iconst 0, 1) := by decide +kernel
theorem dX11_mark_38 : decode M_X11_mark.2.2.1 38 = .ok (.ireturn, 1) := by decide +kernel
theorem dX11_clock_0 : decode M_X11_clock.2.2.1 0 = .ok (.aload_n 0, 1) := by decide +kernel
theorem dX11_clock_1 : decode M_X11_clock.2.2.1 1 = .ok (.iload_n 1, 1) := by decide +kernel
theorem dX11_clock_2 : decode M_X11_clock.2.2.1 2 = .ok (.invokevirtual 90, 3) := by decide +kernel
theorem dX11_clock_5 : decode M_X11_clock.2.2.1 5 = .ok (.astore 5, 2) := by decide +kernel
theorem dX11_clock_7 : decode M_X11_clock.2.2.1 7 = .ok (.aload 5, 2) := by decide +kernel
theorem dX11_clock_9 : decode M_X11_clock.2.2.1 9 = .ok (.ifnull 38, 3) := by decide +kernel
theorem dX11_clock_12 : decode M_X11_clock.2.2.1 12 = .ok (.iload_n 2, 1) := by decide +kernel
theorem dX11_clock_13 : decode M_X11_clock.2.2.1 13 = .ok (.iconst 0, 1) := by decide +kernel
theorem dX11_clock_14 : decode M_X11_clock.2.2.1 14 = .ok (.ldc 162, 2) := by decide +kernel
theorem dX11_clock_16 : decode M_X11_clock.2.2.1 16 = .ok (.invokestatic 94, 3) := by decide +kernel
theorem dX11_clock_19 : decode M_X11_clock.2.2.1 19 = .ok (.ifCond .eq 28, 3) := by decide +kernel
theorem dX11_clock_22 : decode M_X11_clock.2.2.1 22 = .ok (.iload_n 3, 1) := by decide +kernel
theorem dX11_clock_23 : decode M_X11_clock.2.2.1 23 = .ok (.sipush 500, 3) := by decide +kernel
theorem dX11_clock_26 : decode M_X11_clock.2.2.1 26 = .ok (.sipush 700, 3) := by decide +kernel
theorem dX11_clock_29 : decode M_X11_clock.2.2.1 29 = .ok (.invokestatic 94, 3) := by decide +kernel
theorem dX11_clock_32 : decode M_X11_clock.2.2.1 32 = .ok (.ifCond .eq 15, 3) := by decide +kernel
theorem dX11_clock_35 : decode M_X11_clock.2.2.1 35 = .ok (.iload 4, 2) := by decide +kernel
theorem dX11_clock_37 : decode M_X11_clock.2.2.1 37 = .ok (.iload_n 3, 1) := by decide +kernel
theorem dX11_clock_38 : decode M_X11_clock.2.2.1 38 = .ok (.sipush 700, 3) := by decide +kernel
theorem dX11_clock_41 : decode M_X11_clock.2.2.1 41 = .ok (.invokestatic 94, 3) := by decide +kernel
theorem dX11_clock_44 : decode M_X11_clock.2.2.1 44 = .ok (.ifCond .ne 5, 3) := by decide +kernel
theorem dX11_clock_47 : decode M_X11_clock.2.2.1 47 = .ok (.iconst 0, 1) := by decide +kernel
theorem dX11_clock_48 : decode M_X11_clock.2.2.1 48 = .ok (.ireturn, 1) := by decide +kernel
theorem dX11_clock_49 : decode M_X11_clock.2.2.1 49 = .ok (.aload 5, 2) := by decide +kernel
theorem dX11_clock_51 : decode M_X11_clock.2.2.1 51 = .ok (.iload_n 2, 1) := by decide +kernel
theorem dX11_clock_52 : decode M_X11_clock.2.2.1 52 = .ok (.putfield 163, 3) := by decide +kernel
theorem dX11_clock_55 : decode M_X11_clock.2.2.1 55 = .ok (.aload 5, 2) := by decide +kernel
theorem dX11_clock_57 : decode M_X11_clock.2.2.1 57 = .ok (.iload_n 3, 1) := by decide +kernel
theorem dX11_clock_58 : decode M_X11_clock.2.2.1 58 = .ok (.putfield 166, 3) := by decide +kernel
theorem dX11_clock_61 : decode M_X11_clock.2.2.1 61 = .ok (.aload 5, 2) := by decide +kernel
theorem dX11_clock_63 : decode M_X11_clock.2.2.1 63 = .ok (.iload 4, 2) := by decide +kernel
theorem dX11_clock_65 : decode M_X11_clock.2.2.1 65 = .ok (.putfield 169, 3) := by decide +kernel
theorem dX11_clock_68 : decode M_X11_clock.2.2.1 68 = .ok (.iconst 1, 1) := by decide +kernel
theorem dX11_clock_69 : decode M_X11_clock.2.2.1 69 = .ok (.ireturn, 1) := by decide +kernel
theorem dX11_time_0 : decode M_X11_time.2.2.1 0 = .ok (.aload_n 0, 1) := by decide +kernel
theorem dX11_time_1 : decode M_X11_time.2.2.1 1 = .ok (.iload_n 1, 1) := by decide +kernel
theorem dX11_time_2 : decode M_X11_time.2.2.1 2 = .ok (.invokevirtual 90, 3) := by decide +kernel
theorem dX11_time_5 : decode M_X11_time.2.2.1 5 = .ok (.astore 4, 2) := by decide +kernel
theorem dX11_time_7 : decode M_X11_time.2.2.1 7 = .ok (.aload 4, 2) := by decide +kernel
theorem dX11_time_9 : decode M_X11_time.2.2.1 9 = .ok (.ifnull 12, 3) := by decide +kernel
theorem dX11_time_12 : decode M_X11_time.2.2.1 12 = .ok (.iload_n 3, 1) := by decide +kernel
theorem dX11_time_13 : decode M_X11_time.2.2.1 13 = .ok (.iconst 0, 1) := by decide +kernel
theorem dX11_time_14 : decode M_X11_time.2.2.1 14 = .ok (.iconst 2, 1) := by decide +kernel
theorem dX11_time_15 : decode M_X11_time.2.2.1 15 = .ok (.invokestatic 94, 3) := by decide +kernel
theorem dX11_time_18 : decode M_X11_time.2.2.1 18 = .ok (.ifCond .ne 7, 3) := by decide +kernel
theorem dX11_time_21 : decode M_X11_time.2.2.1 21 = .ok (.ldc2_w 172, 3) := by decide +kernel
theorem dX11_time_24 : decode M_X11_time.2.2.1 24 = .ok (.lreturn, 1) := by decide +kernel
theorem dX11_time_25 : decode M_X11_time.2.2.1 25 = .ok (.aload 4, 2) := by decide +kernel
theorem dX11_time_27 : decode M_X11_time.2.2.1 27 = .ok (.iload_n 2, 1) := by decide +kernel
theorem dX11_time_28 : decode M_X11_time.2.2.1 28 = .ok (.invokevirtual 174, 3) := by decide +kernel
theorem dX11_time_31 : decode M_X11_time.2.2.1 31 = .ok (.istore 5, 2) := by decide +kernel
theorem dX11_time_33 : decode M_X11_time.2.2.1 33 = .ok (.iload 5, 2) := by decide +kernel
theorem dX11_time_35 : decode M_X11_time.2.2.1 35 = .ok (.iconst (-1), 1) := by decide +kernel
theorem dX11_time_36 : decode M_X11_time.2.2.1 36 = .ok (.if_icmp .eq 8, 3) := by decide +kernel
theorem dX11_time_39 : decode M_X11_time.2.2.1 39 = .ok (.iload_n 3, 1) := by decide +kernel
theorem dX11_time_40 : decode M_X11_time.2.2.1 40 = .ok (.iconst 2, 1) := by decide +kernel
theorem dX11_time_41 : decode M_X11_time.2.2.1 41 = .ok (.if_icmp .ne 7, 3) := by decide +kernel
theorem dX11_time_44 : decode M_X11_time.2.2.1 44 = .ok (.iload 5, 2) := by decide +kernel
theorem dX11_time_46 : decode M_X11_time.2.2.1 46 = .ok (.i2l, 1) := by decide +kernel
theorem dX11_time_47 : decode M_X11_time.2.2.1 47 = .ok (.lreturn, 1) := by decide +kernel
theorem dX11_time_48 : decode M_X11_time.2.2.1 48 = .ok (.iload_n 3, 1) := by decide +kernel
theorem dX11_time_49 : decode M_X11_time.2.2.1 49 = .ok (.ifCond .ne 24, 3) := by decide +kernel
theorem dX11_time_52 : decode M_X11_time.2.2.1 52 = .ok (.aload 4, 2) := by decide +kernel
theorem dX11_time_54 : decode M_X11_time.2.2.1 54 = .ok (.getfield 163, 3) := by decide +kernel
theorem dX11_time_57 : decode M_X11_time.2.2.1 57 = .ok (.iload 5, 2) := by decide +kernel
theorem dX11_time_59 : decode M_X11_time.2.2.1 59 = .ok (.aload 4, 2) := by decide +kernel
theorem dX11_time_61 : decode M_X11_time.2.2.1 61 = .ok (.getfield 166, 3) := by decide +kernel
theorem dX11_time_64 : decode M_X11_time.2.2.1 64 = .ok (.imul, 1) := by decide +kernel
theorem dX11_time_65 : decode M_X11_time.2.2.1 65 = .ok (.bipush 60, 2) := by decide +kernel
theorem dX11_time_67 : decode M_X11_time.2.2.1 67 = .ok (.invokestatic 177, 3) := by decide +kernel
theorem dX11_time_70 : decode M_X11_time.2.2.1 70 = .ok (.iadd, 1) := by decide +kernel
theorem dX11_time_71 : decode M_X11_time.2.2.1 71 = .ok (.i2l, 1) := by decide +kernel
theorem dX11_time_72 : decode M_X11_time.2.2.1 72 = .ok (.lreturn, 1) := by decide +kernel
theorem dX11_time_73 : decode M_X11_time.2.2.1 73 = .ok (.aload 4, 2) := by decide +kernel
theorem dX11_time_75 : decode M_X11_time.2.2.1 75 = .ok (.getfield 163, 3) := by decide +kernel
theorem dX11_time_78 : decode M_X11_time.2.2.1 78 = .ok (.iload 5, 2) := by decide +kernel
theorem dX11_time_80 : decode M_X11_time.2.2.1 80 = .ok (.iconst 1, 1) := by decide +kernel
theorem dX11_time_81 : decode M_X11_time.2.2.1 81 = .ok (.iadd, 1) := by decide +kernel
theorem dX11_time_82 : decode M_X11_time.2.2.1 82 = .ok (.aload 4, 2) := by decide +kernel
theorem dX11_time_84 : decode M_X11_time.2.2.1 84 = .ok (.getfield 169, 3) := by decide +kernel
theorem dX11_time_87 : decode M_X11_time.2.2.1 87 = .ok (.imul, 1) := by decide +kernel
theorem dX11_time_88 : decode M_X11_time.2.2.1 88 = .ok (.bipush 60, 2) := by decide +kernel
theorem dX11_time_90 : decode M_X11_time.2.2.1 90 = .ok (.invokestatic 177, 3) := by decide +kernel
theorem dX11_time_93 : decode M_X11_time.2.2.1 93 = .ok (.iadd, 1) := by decide +kernel
theorem dX11_time_94 : decode M_X11_time.2.2.1 94 = .ok (.i2l, 1) := by decide +kernel
theorem dX11_time_95 : decode M_X11_time.2.2.1 95 = .ok (.lreturn, 1) := by decide +kernel
theorem dX11_first_0 : decode M_X11_first.2.2.1 0 = .ok (.aload_n 0, 1) := by decide +kernel
theorem dX11_first_1 : decode M_X11_first.2.2.1 1 = .ok (.iload_n 1, 1) := by decide +kernel
theorem dX11_first_2 : decode M_X11_first.2.2.1 2 = .ok (.invokevirtual 90, 3) := by decide +kernel
theorem dX11_first_5 : decode M_X11_first.2.2.1 5 = .ok (.astore_n 3, 1) := by decide +kernel
theorem dX11_first_6 : decode M_X11_first.2.2.1 6 = .ok (.aload_n 3, 1) := by decide +kernel
theorem dX11_first_7 : decode M_X11_first.2.2.1 7 = .ok (.ifnull 14, 3) := by decide +kernel
theorem dX11_first_10 : decode M_X11_first.2.2.1 10 = .ok (.iload_n 2, 1) := by decide +kernel
theorem dX11_first_11 : decode M_X11_first.2.2.1 11 = .ok (.iconst 0, 1) := by decide +kernel
theorem dX11_first_12 : decode M_X11_first.2.2.1 12 = .ok (.sipush 999, 3) := by decide +kernel
theorem dX11_first_15 : decode M_X11_first.2.2.1 15 = .ok (.invokestatic 94, 3) := by decide +kernel
theorem dX11_first_18 : decode M_X11_first.2.2.1 18 = .ok (.ifCond .ne 7, 3) := by decide +kernel
theorem dX11_first_21 : decode M_X11_first.2.2.1 21 = .ok (.iconst (-1), 1) := by decide +kernel
theorem dX11_first_22 : decode M_X11_first.2.2.1 22 = .ok (.goto 8, 3) := by decide +kernel
theorem dX11_first_25 : decode M_X11_first.2.2.1 25 = .ok (.aload_n 3, 1) := by decide +kernel
theorem dX11_first_26 : decode M_X11_first.2.2.1 26 = .ok (.iload_n 2, 1) := by decide +kernel
theorem dX11_first_27 : decode M_X11_first.2.2.1 27 = .ok (.invokevirtual 183, 3) := by decide +kernel
theorem dX11_first_30 : decode M_X11_first.2.2.1 30 = .ok (.ireturn, 1) := by decide +kernel
theorem dX11_burst_0 : decode M_X11_burst.2.2.1 0 = .ok (.aload_n 0, 1) := by decide +kernel
theorem dX11_burst_1 : decode M_X11_burst.2.2.1 1 = .ok (.iload_n 1, 1) := by decide +kernel
theorem dX11_burst_2 : decode M_X11_burst.2.2.1 2 = .ok (.invokevirtual 90, 3) := by decide +kernel
theorem dX11_burst_5 : decode M_X11_burst.2.2.1 5 = .ok (.astore 5, 2) := by decide +kernel
theorem dX11_burst_7 : decode M_X11_burst.2.2.1 7 = .ok (.aload 5, 2) := by decide +kernel
theorem dX11_burst_9 : decode M_X11_burst.2.2.1 9 = .ok (.ifnull 17, 3) := by decide +kernel
theorem dX11_burst_12 : decode M_X11_burst.2.2.1 12 = .ok (.aload_n 0, 1) := by decide +kernel
theorem dX11_burst_13 : decode M_X11_burst.2.2.1 13 = .ok (.getfield 32, 3) := by decide +kernel
theorem dX11_burst_16 : decode M_X11_burst.2.2.1 16 = .ok (.aload 5, 2) := by decide +kernel
theorem dX11_burst_18 : decode M_X11_burst.2.2.1 18 = .ok (.iload_n 2, 1) := by decide +kernel
theorem dX11_burst_19 : decode M_X11_burst.2.2.1 19 = .ok (.iload_n 3, 1) := by decide +kernel
theorem dX11_burst_20 : decode M_X11_burst.2.2.1 20 = .ok (.invokevirtual 186, 3) := by decide +kernel
theorem dX11_burst_23 : decode M_X11_burst.2.2.1 23 = .ok (.ifCond .ne 5, 3) := by decide +kernel
theorem dX11_burst_26 : decode M_X11_burst.2.2.1 26 = .ok (.iconst (-1), 1) := by decide +kernel
theorem dX11_burst_27 : decode M_X11_burst.2.2.1 27 = .ok (.ireturn, 1) := by decide +kernel
theorem dX11_burst_28 : decode M_X11_burst.2.2.1 28 = .ok (.iload 4, 2) := by decide +kernel
theorem dX11_burst_30 : decode M_X11_burst.2.2.1 30 = .ok (.tableswitch 67 0 3 #[30, 39, 48, 57], 30) := by decide +kernel
theorem dX11_burst_60 : decode M_X11_burst.2.2.1 60 = .ok (.aload_n 0, 1) := by decide +kernel
theorem dX11_burst_61 : decode M_X11_burst.2.2.1 61 = .ok (.getfield 32, 3) := by decide +kernel
theorem dX11_burst_64 : decode M_X11_burst.2.2.1 64 = .ok (.iconst 2, 1) := by decide +kernel
theorem dX11_burst_65 : decode M_X11_burst.2.2.1 65 = .ok (.invokevirtual 190, 3) := by decide +kernel
theorem dX11_burst_68 : decode M_X11_burst.2.2.1 68 = .ok (.ireturn, 1) := by decide +kernel
theorem dX11_burst_69 : decode M_X11_burst.2.2.1 69 = .ok (.aload_n 0, 1) := by decide +kernel
theorem dX11_burst_70 : decode M_X11_burst.2.2.1 70 = .ok (.getfield 32, 3) := by decide +kernel
theorem dX11_burst_73 : decode M_X11_burst.2.2.1 73 = .ok (.iconst 4, 1) := by decide +kernel
theorem dX11_burst_74 : decode M_X11_burst.2.2.1 74 = .ok (.invokevirtual 190, 3) := by decide +kernel
theorem dX11_burst_77 : decode M_X11_burst.2.2.1 77 = .ok (.ireturn, 1) := by decide +kernel
theorem dX11_burst_78 : decode M_X11_burst.2.2.1 78 = .ok (.aload_n 0, 1) := by decide +kernel
theorem dX11_burst_79 : decode M_X11_burst.2.2.1 79 = .ok (.getfield 32, 3) := by decide +kernel
theorem dX11_burst_82 : decode M_X11_burst.2.2.1 82 = .ok (.iconst 5, 1) := by decide +kernel
theorem dX11_burst_83 : decode M_X11_burst.2.2.1 83 = .ok (.invokevirtual 190, 3) := by decide +kernel
theorem dX11_burst_86 : decode M_X11_burst.2.2.1 86 = .ok (.ireturn, 1) := by decide +kernel
theorem dX11_burst_87 : decode M_X11_burst.2.2.1 87 = .ok (.aload_n 0, 1) := by decide +kernel
theorem dX11_burst_88 : decode M_X11_burst.2.2.1 88 = .ok (.getfield 32, 3) := by decide +kernel
theorem dX11_burst_91 : decode M_X11_burst.2.2.1 91 = .ok (.bipush 6, 2) := by decide +kernel
theorem dX11_burst_93 : decode M_X11_burst.2.2.1 93 = .ok (.invokevirtual 190, 3) := by decide +kernel
theorem dX11_burst_96 : decode M_X11_burst.2.2.1 96 = .ok (.ireturn, 1) := by decide +kernel
theorem dX11_burst_97 : decode M_X11_burst.2.2.1 97 = .ok (.iconst (-1), 1) := by decide +kernel
theorem dX11_burst_98 : decode M_X11_burst.2.2.1 98 = .ok (.ireturn, 1) := by decide +kernel
theorem dX11_kind_0 : decode M_X11_kind.2.2.1 0 = .ok (.aload_n 0, 1) := by decide +kernel
theorem dX11_kind_1 : decode M_X11_kind.2.2.1 1 = .ok (.iload_n 1, 1) := by decide +kernel
theorem dX11_kind_2 : decode M_X11_kind.2.2.1 2 = .ok (.invokevirtual 90, 3) := by decide +kernel
theorem dX11_kind_5 : decode M_X11_kind.2.2.1 5 = .ok (.astore 6, 2) := by decide +kernel
theorem dX11_kind_7 : decode M_X11_kind.2.2.1 7 = .ok (.aload 6, 2) := by decide +kernel
theorem dX11_kind_9 : decode M_X11_kind.2.2.1 9 = .ok (.ifnull 39, 3) := by decide +kernel
theorem dX11_kind_12 : decode M_X11_kind.2.2.1 12 = .ok (.iload 4, 2) := by decide +kernel
theorem dX11_kind_14 : decode M_X11_kind.2.2.1 14 = .ok (.iconst 0, 1) := by decide +kernel
theorem dX11_kind_15 : decode M_X11_kind.2.2.1 15 = .ok (.bipush 23, 2) := by decide +kernel
theorem dX11_kind_17 : decode M_X11_kind.2.2.1 17 = .ok (.invokestatic 94, 3) := by decide +kernel
theorem dX11_kind_20 : decode M_X11_kind.2.2.1 20 = .ok (.ifCond .eq 28, 3) := by decide +kernel
theorem dX11_kind_23 : decode M_X11_kind.2.2.1 23 = .ok (.iload 5, 2) := by decide +kernel
theorem dX11_kind_25 : decode M_X11_kind.2.2.1 25 = .ok (.iconst 0, 1) := by decide +kernel
theorem dX11_kind_26 : decode M_X11_kind.2.2.1 26 = .ok (.bipush 6, 2) := by decide +kernel
theorem dX11_kind_28 : decode M_X11_kind.2.2.1 28 = .ok (.invokestatic 94, 3) := by decide +kernel
theorem dX11_kind_31 : decode M_X11_kind.2.2.1 31 = .ok (.ifCond .eq 17, 3) := by decide +kernel
theorem dX11_kind_34 : decode M_X11_kind.2.2.1 34 = .ok (.aload_n 0, 1) := by decide +kernel
theorem dX11_kind_35 : decode M_X11_kind.2.2.1 35 = .ok (.getfield 32, 3) := by decide +kernel
theorem dX11_kind_38 : decode M_X11_kind.2.2.1 38 = .ok (.aload 6, 2) := by decide +kernel
theorem dX11_kind_40 : decode M_X11_kind.2.2.1 40 = .ok (.iload_n 2, 1) := by decide +kernel
theorem dX11_kind_41 : decode M_X11_kind.2.2.1 41 = .ok (.iload_n 3, 1) := by decide +kernel
theorem dX11_kind_42 : decode M_X11_kind.2.2.1 42 = .ok (.invokevirtual 186, 3) := by decide +kernel
theorem dX11_kind_45 : decode M_X11_kind.2.2.1 45 = .ok (.ifCond .ne 5, 3) := by decide +kernel
theorem dX11_kind_48 : decode M_X11_kind.2.2.1 48 = .ok (.iconst (-1), 1) := by decide +kernel
theorem dX11_kind_49 : decode M_X11_kind.2.2.1 49 = .ok (.ireturn, 1) := by decide +kernel
theorem dX11_kind_50 : decode M_X11_kind.2.2.1 50 = .ok (.aload_n 0, 1) := by decide +kernel
theorem dX11_kind_51 : decode M_X11_kind.2.2.1 51 = .ok (.getfield 32, 3) := by decide +kernel
theorem dX11_kind_54 : decode M_X11_kind.2.2.1 54 = .ok (.iload 4, 2) := by decide +kernel
theorem dX11_kind_56 : decode M_X11_kind.2.2.1 56 = .ok (.iload 5, 2) := by decide +kernel
theorem dX11_kind_58 : decode M_X11_kind.2.2.1 58 = .ok (.invokevirtual 193, 3) := by decide +kernel
theorem dX11_kind_61 : decode M_X11_kind.2.2.1 61 = .ok (.aload_n 0, 1) := by decide +kernel
theorem dX11_kind_62 : decode M_X11_kind.2.2.1 62 = .ok (.getfield 39, 3) := by decide +kernel
theorem dX11_kind_65 : decode M_X11_kind.2.2.1 65 = .ok (.getfield 196, 3) := by decide +kernel
theorem dX11_kind_68 : decode M_X11_kind.2.2.1 68 = .ok (.aload_n 0, 1) := by decide +kernel
theorem dX11_kind_69 : decode M_X11_kind.2.2.1 69 = .ok (.getfield 32, 3) := by decide +kernel
theorem dX11_kind_72 : decode M_X11_kind.2.2.1 72 = .ok (.invokevirtual 200, 3) := by decide +kernel
theorem dX11_kind_75 : decode M_X11_kind.2.2.1 75 = .ok (.ireturn, 1) := by decide +kernel
theorem dX11_feed_0 : decode M_X11_feed.2.2.1 0 = .ok (.aload_n 0, 1) := by decide +kernel
theorem dX11_feed_1 : decode M_X11_feed.2.2.1 1 = .ok (.getfield 39, 3) := by decide +kernel
theorem dX11_feed_4 : decode M_X11_feed.2.2.1 4 = .ok (.getfield 206, 3) := by decide +kernel
theorem dX11_feed_7 : decode M_X11_feed.2.2.1 7 = .ok (.bipush 20, 2) := by decide +kernel
theorem dX11_feed_9 : decode M_X11_feed.2.2.1 9 = .ok (.iadd, 1) := by decide +kernel
theorem dX11_feed_10 : decode M_X11_feed.2.2.1 10 = .ok (.sipush 600, 3) := by decide +kernel
theorem dX11_feed_13 : decode M_X11_feed.2.2.1 13 = .ok (.if_icmp .le 5, 3) := by decide +kernel
theorem dX11_feed_16 : decode M_X11_feed.2.2.1 16 = .ok (.iconst (-1), 1) := by decide +kernel
theorem dX11_feed_17 : decode M_X11_feed.2.2.1 17 = .ok (.ireturn, 1) := by decide +kernel
theorem dX11_feed_18 : decode M_X11_feed.2.2.1 18 = .ok (.aload_n 0, 1) := by decide +kernel
theorem dX11_feed_19 : decode M_X11_feed.2.2.1 19 = .ok (.getfield 39, 3) := by decide +kernel
theorem dX11_feed_22 : decode M_X11_feed.2.2.1 22 = .ok (.iload_n 1, 1) := by decide +kernel
theorem dX11_feed_23 : decode M_X11_feed.2.2.1 23 = .ok (.invokevirtual 209, 3) := by decide +kernel
theorem dX11_feed_26 : decode M_X11_feed.2.2.1 26 = .ok (.aload_n 0, 1) := by decide +kernel
theorem dX11_feed_27 : decode M_X11_feed.2.2.1 27 = .ok (.getfield 39, 3) := by decide +kernel
theorem dX11_feed_30 : decode M_X11_feed.2.2.1 30 = .ok (.iload_n 2, 1) := by decide +kernel
theorem dX11_feed_31 : decode M_X11_feed.2.2.1 31 = .ok (.invokevirtual 209, 3) := by decide +kernel
theorem dX11_feed_34 : decode M_X11_feed.2.2.1 34 = .ok (.aload_n 0, 1) := by decide +kernel
theorem dX11_feed_35 : decode M_X11_feed.2.2.1 35 = .ok (.getfield 39, 3) := by decide +kernel
theorem dX11_feed_38 : decode M_X11_feed.2.2.1 38 = .ok (.iload_n 3, 1) := by decide +kernel
theorem dX11_feed_39 : decode M_X11_feed.2.2.1 39 = .ok (.invokevirtual 209, 3) := by decide +kernel
theorem dX11_feed_42 : decode M_X11_feed.2.2.1 42 = .ok (.aload_n 0, 1) := by decide +kernel
theorem dX11_feed_43 : decode M_X11_feed.2.2.1 43 = .ok (.getfield 39, 3) := by decide +kernel
theorem dX11_feed_46 : decode M_X11_feed.2.2.1 46 = .ok (.iload 4, 2) := by decide +kernel
theorem dX11_feed_48 : decode M_X11_feed.2.2.1 48 = .ok (.invokevirtual 209, 3) := by decide +kernel
theorem dX11_feed_51 : decode M_X11_feed.2.2.1 51 = .ok (.aload_n 0, 1) := by decide +kernel
theorem dX11_feed_52 : decode M_X11_feed.2.2.1 52 = .ok (.getfield 39, 3) := by decide +kernel
theorem dX11_feed_55 : decode M_X11_feed.2.2.1 55 = .ok (.iload 5, 2) := by decide +kernel
theorem dX11_feed_57 : decode M_X11_feed.2.2.1 57 = .ok (.invokevirtual 209, 3) := by decide +kernel
theorem dX11_feed_60 : decode M_X11_feed.2.2.1 60 = .ok (.aload_n 0, 1) := by decide +kernel
theorem dX11_feed_61 : decode M_X11_feed.2.2.1 61 = .ok (.getfield 39, 3) := by decide +kernel
theorem dX11_feed_64 : decode M_X11_feed.2.2.1 64 = .ok (.getfield 206, 3) := by decide +kernel
theorem dX11_feed_67 : decode M_X11_feed.2.2.1 67 = .ok (.ireturn, 1) := by decide +kernel
theorem dX11_end_0 : decode M_X11_end.2.2.1 0 = .ok (.iload_n 1, 1) := by decide +kernel
theorem dX11_end_1 : decode M_X11_end.2.2.1 1 = .ok (.iconst 0, 1) := by decide +kernel
theorem dX11_end_2 : decode M_X11_end.2.2.1 2 = .ok (.aload_n 0, 1) := by decide +kernel
theorem dX11_end_3 : decode M_X11_end.2.2.1 3 = .ok (.getfield 39, 3) := by decide +kernel
theorem dX11_end_6 : decode M_X11_end.2.2.1 6 = .ok (.getfield 206, 3) := by decide +kernel
theorem dX11_end_9 : decode M_X11_end.2.2.1 9 = .ok (.invokestatic 94, 3) := by decide +kernel
theorem dX11_end_12 : decode M_X11_end.2.2.1 12 = .ok (.ifCond .ne 5, 3) := by decide +kernel
theorem dX11_end_15 : decode M_X11_end.2.2.1 15 = .ok (.iconst 0, 1) := by decide +kernel
theorem dX11_end_16 : decode M_X11_end.2.2.1 16 = .ok (.ireturn, 1) := by decide +kernel
theorem dX11_end_17 : decode M_X11_end.2.2.1 17 = .ok (.aload_n 0, 1) := by decide +kernel
theorem dX11_end_18 : decode M_X11_end.2.2.1 18 = .ok (.getfield 39, 3) := by decide +kernel
theorem dX11_end_21 : decode M_X11_end.2.2.1 21 = .ok (.iload_n 1, 1) := by decide +kernel
theorem dX11_end_22 : decode M_X11_end.2.2.1 22 = .ok (.putfield 206, 3) := by decide +kernel
theorem dX11_end_25 : decode M_X11_end.2.2.1 25 = .ok (.iconst 1, 1) := by decide +kernel
theorem dX11_end_26 : decode M_X11_end.2.2.1 26 = .ok (.ireturn, 1) := by decide +kernel
theorem dX11_rules_0 : decode M_X11_rules.2.2.1 0 = .ok (.aload_n 0, 1) := by decide +kernel
theorem dX11_rules_1 : decode M_X11_rules.2.2.1 1 = .ok (.getfield 39, 3) := by decide +kernel
theorem dX11_rules_4 : decode M_X11_rules.2.2.1 4 = .ok (.invokevirtual 213, 3) := by decide +kernel
theorem dX11_rules_7 : decode M_X11_rules.2.2.1 7 = .ok (.ifCond .eq 16, 3) := by decide +kernel
theorem dX11_rules_10 : decode M_X11_rules.2.2.1 10 = .ok (.aload_n 0, 1) := by decide +kernel
theorem dX11_rules_11 : decode M_X11_rules.2.2.1 11 = .ok (.getfield 39, 3) := by decide +kernel
theorem dX11_rules_14 : decode M_X11_rules.2.2.1 14 = .ok (.getfield 196, 3) := by decide +kernel
theorem dX11_rules_17 : decode M_X11_rules.2.2.1 17 = .ok (.getfield 217, 3) := by decide +kernel
theorem dX11_rules_20 : decode M_X11_rules.2.2.1 20 = .ok (.goto 4, 3) := by decide +kernel
theorem dX11_rules_23 : decode M_X11_rules.2.2.1 23 = .ok (.iconst (-1), 1) := by decide +kernel
theorem dX11_rules_24 : decode M_X11_rules.2.2.1 24 = .ok (.ireturn, 1) := by decide +kernel
theorem dX11_fault_0 : decode M_X11_fault.2.2.1 0 = .ok (.iload_n 1, 1) := by decide +kernel
theorem dX11_fault_1 : decode M_X11_fault.2.2.1 1 = .ok (.ifCond .ne 11, 3) := by decide +kernel
theorem dX11_fault_4 : decode M_X11_fault.2.2.1 4 = .ok (.aload_n 0, 1) := by decide +kernel
theorem dX11_fault_5 : decode M_X11_fault.2.2.1 5 = .ok (.getfield 39, 3) := by decide +kernel
theorem dX11_fault_8 : decode M_X11_fault.2.2.1 8 = .ok (.getfield 220, 3) := by decide +kernel
theorem dX11_fault_11 : decode M_X11_fault.2.2.1 11 = .ok (.ireturn, 1) := by decide +kernel
theorem dX11_fault_12 : decode M_X11_fault.2.2.1 12 = .ok (.iload_n 1, 1) := by decide +kernel
theorem dX11_fault_13 : decode M_X11_fault.2.2.1 13 = .ok (.iconst 1, 1) := by decide +kernel
theorem dX11_fault_14 : decode M_X11_fault.2.2.1 14 = .ok (.if_icmp .ne 13, 3) := by decide +kernel
theorem dX11_fault_17 : decode M_X11_fault.2.2.1 17 = .ok (.aload_n 0, 1) := by decide +kernel
theorem dX11_fault_18 : decode M_X11_fault.2.2.1 18 = .ok (.getfield 39, 3) := by decide +kernel
theorem dX11_fault_21 : decode M_X11_fault.2.2.1 21 = .ok (.getfield 223, 3) := by decide +kernel
theorem dX11_fault_24 : decode M_X11_fault.2.2.1 24 = .ok (.goto 4, 3) := by decide +kernel
theorem dX11_fault_27 : decode M_X11_fault.2.2.1 27 = .ok (.iconst (-1), 1) := by decide +kernel
theorem dX11_fault_28 : decode M_X11_fault.2.2.1 28 = .ok (.ireturn, 1) := by decide +kernel
theorem dX11_waves_0 : decode M_X11_waves.2.2.1 0 = .ok (.iload_n 1, 1) := by decide +kernel
theorem dX11_waves_1 : decode M_X11_waves.2.2.1 1 = .ok (.iconst 1, 1) := by decide +kernel
theorem dX11_waves_2 : decode M_X11_waves.2.2.1 2 = .ok (.bipush 99, 2) := by decide +kernel
theorem dX11_waves_4 : decode M_X11_waves.2.2.1 4 = .ok (.invokestatic 94, 3) := by decide +kernel
theorem dX11_waves_7 : decode M_X11_waves.2.2.1 7 = .ok (.ifCond .eq 18, 3) := by decide +kernel
theorem dX11_waves_10 : decode M_X11_waves.2.2.1 10 = .ok (.iload_n 2, 1) := by decide +kernel
theorem dX11_waves_11 : decode M_X11_waves.2.2.1 11 = .ok (.iconst 1, 1) := by decide +kernel
theorem dX11_waves_12 : decode M_X11_waves.2.2.1 12 = .ok (.bipush 99, 2) := by decide +kernel
theorem dX11_waves_14 : decode M_X11_waves.2.2.1 14 = .ok (.invokestatic 94, 3) := by decide +kernel
theorem dX11_waves_17 : decode M_X11_waves.2.2.1 17 = .ok (.ifCond .eq 8, 3) := by decide +kernel
theorem dX11_waves_20 : decode M_X11_waves.2.2.1 20 = .ok (.iload_n 2, 1) := by decide +kernel
theorem dX11_waves_21 : decode M_X11_waves.2.2.1 21 = .ok (.iload_n 1, 1) := by decide +kernel
theorem dX11_waves_22 : decode M_X11_waves.2.2.1 22 = .ok (.if_icmp .gt 5, 3) := by decide +kernel
theorem dX11_waves_25 : decode M_X11_waves.2.2.1 25 = .ok (.iconst 0, 1) := by decide +kernel
theorem dX11_waves_26 : decode M_X11_waves.2.2.1 26 = .ok (.ireturn, 1) := by decide +kernel
theorem dX11_waves_27 : decode M_X11_waves.2.2.1 27 = .ok (.aload_n 0, 1) := by decide +kernel
theorem dX11_waves_28 : decode M_X11_waves.2.2.1 28 = .ok (.iload_n 1, 1) := by decide +kernel
theorem dX11_waves_29 : decode M_X11_waves.2.2.1 29 = .ok (.putfield 49, 3) := by decide +kernel
theorem dX11_waves_32 : decode M_X11_waves.2.2.1 32 = .ok (.aload_n 0, 1) := by decide +kernel
theorem dX11_waves_33 : decode M_X11_waves.2.2.1 33 = .ok (.iload_n 2, 1) := by decide +kernel
theorem dX11_waves_34 : decode M_X11_waves.2.2.1 34 = .ok (.putfield 53, 3) := by decide +kernel
theorem dX11_waves_37 : decode M_X11_waves.2.2.1 37 = .ok (.iconst 1, 1) := by decide +kernel
theorem dX11_waves_38 : decode M_X11_waves.2.2.1 38 = .ok (.ireturn, 1) := by decide +kernel
theorem dX11_quake_0 : decode M_X11_quake.2.2.1 0 = .ok (.aload_n 0, 1) := by decide +kernel
theorem dX11_quake_1 : decode M_X11_quake.2.2.1 1 = .ok (.getfield 226, 3) := by decide +kernel
theorem dX11_quake_4 : decode M_X11_quake.2.2.1 4 = .ok (.bipush 16, 2) := by decide +kernel
theorem dX11_quake_6 : decode M_X11_quake.2.2.1 6 = .ok (.if_icmp .lt 5, 3) := by decide +kernel
theorem dX11_quake_9 : decode M_X11_quake.2.2.1 9 = .ok (.iconst (-1), 1) := by decide +kernel
theorem dX11_quake_10 : decode M_X11_quake.2.2.1 10 = .ok (.ireturn, 1) := by decide +kernel
theorem dX11_quake_11 : decode M_X11_quake.2.2.1 11 = .ok (.aload_n 0, 1) := by decide +kernel
theorem dX11_quake_12 : decode M_X11_quake.2.2.1 12 = .ok (.getfield 45, 3) := by decide +kernel
theorem dX11_quake_15 : decode M_X11_quake.2.2.1 15 = .ok (.aload_n 0, 1) := by decide +kernel
theorem dX11_quake_16 : decode M_X11_quake.2.2.1 16 = .ok (.getfield 226, 3) := by decide +kernel
theorem dX11_quake_19 : decode M_X11_quake.2.2.1 19 = .ok (.new 43, 3) := by decide +kernel
theorem dX11_quake_22 : decode M_X11_quake.2.2.1 22 = .ok (.dup, 1) := by decide +kernel
theorem dX11_quake_23 : decode M_X11_quake.2.2.1 23 = .ok (.invokespecial 229, 3) := by decide +kernel
theorem dX11_quake_26 : decode M_X11_quake.2.2.1 26 = .ok (.aastore, 1) := by decide +kernel
theorem dX11_quake_27 : decode M_X11_quake.2.2.1 27 = .ok (.aload_n 0, 1) := by decide +kernel
theorem dX11_quake_28 : decode M_X11_quake.2.2.1 28 = .ok (.dup, 1) := by decide +kernel
theorem dX11_quake_29 : decode M_X11_quake.2.2.1 29 = .ok (.getfield 226, 3) := by decide +kernel
theorem dX11_quake_32 : decode M_X11_quake.2.2.1 32 = .ok (.iconst 1, 1) := by decide +kernel
theorem dX11_quake_33 : decode M_X11_quake.2.2.1 33 = .ok (.iadd, 1) := by decide +kernel
theorem dX11_quake_34 : decode M_X11_quake.2.2.1 34 = .ok (.putfield 226, 3) := by decide +kernel
theorem dX11_quake_37 : decode M_X11_quake.2.2.1 37 = .ok (.aload_n 0, 1) := by decide +kernel
theorem dX11_quake_38 : decode M_X11_quake.2.2.1 38 = .ok (.getfield 226, 3) := by decide +kernel
theorem dX11_quake_41 : decode M_X11_quake.2.2.1 41 = .ok (.iconst 1, 1) := by decide +kernel
theorem dX11_quake_42 : decode M_X11_quake.2.2.1 42 = .ok (.isub, 1) := by decide +kernel
theorem dX11_quake_43 : decode M_X11_quake.2.2.1 43 = .ok (.ireturn, 1) := by decide +kernel
theorem dX11_read_0 : decode M_X11_read.2.2.1 0 = .ok (.aload_n 0, 1) := by decide +kernel
theorem dX11_read_1 : decode M_X11_read.2.2.1 1 = .ok (.iload_n 1, 1) := by decide +kernel
theorem dX11_read_2 : decode M_X11_read.2.2.1 2 = .ok (.invokevirtual 230, 3) := by decide +kernel
theorem dX11_read_5 : decode M_X11_read.2.2.1 5 = .ok (.astore 5, 2) := by decide +kernel
theorem dX11_read_7 : decode M_X11_read.2.2.1 7 = .ok (.aload 5, 2) := by decide +kernel
theorem dX11_read_9 : decode M_X11_read.2.2.1 9 = .ok (.ifnull 20, 3) := by decide +kernel
theorem dX11_read_12 : decode M_X11_read.2.2.1 12 = .ok (.aload_n 0, 1) := by decide +kernel
theorem dX11_read_13 : decode M_X11_read.2.2.1 13 = .ok (.iload_n 2, 1) := by decide +kernel
theorem dX11_read_14 : decode M_X11_read.2.2.1 14 = .ok (.invokevirtual 90, 3) := by decide +kernel
theorem dX11_read_17 : decode M_X11_read.2.2.1 17 = .ok (.ifnull 12, 3) := by decide +kernel
theorem dX11_read_20 : decode M_X11_read.2.2.1 20 = .ok (.iload_n 3, 1) := by decide +kernel
theorem dX11_read_21 : decode M_X11_read.2.2.1 21 = .ok (.iload 4, 2) := by decide +kernel
theorem dX11_read_23 : decode M_X11_read.2.2.1 23 = .ok (.invokestatic 234, 3) := by decide +kernel
theorem dX11_read_26 : decode M_X11_read.2.2.1 26 = .ok (.ifCond .ne 5, 3) := by decide +kernel
theorem dX11_read_29 : decode M_X11_read.2.2.1 29 = .ok (.iconst 0, 1) := by decide +kernel
theorem dX11_read_30 : decode M_X11_read.2.2.1 30 = .ok (.ireturn, 1) := by decide +kernel
theorem dX11_read_31 : decode M_X11_read.2.2.1 31 = .ok (.aload 5, 2) := by decide +kernel
theorem dX11_read_33 : decode M_X11_read.2.2.1 33 = .ok (.iload_n 2, 1) := by decide +kernel
theorem dX11_read_34 : decode M_X11_read.2.2.1 34 = .ok (.iload_n 3, 1) := by decide +kernel
theorem dX11_read_35 : decode M_X11_read.2.2.1 35 = .ok (.iload 4, 2) := by decide +kernel
theorem dX11_read_37 : decode M_X11_read.2.2.1 37 = .ok (.invokevirtual 237, 3) := by decide +kernel
theorem dX11_read_40 : decode M_X11_read.2.2.1 40 = .ok (.iconst 1, 1) := by decide +kernel
theorem dX11_read_41 : decode M_X11_read.2.2.1 41 = .ok (.ireturn, 1) := by decide +kernel
theorem dX11_second_0 : decode M_X11_second.2.2.1 0 = .ok (.aload_n 0, 1) := by decide +kernel
theorem dX11_second_1 : decode M_X11_second.2.2.1 1 = .ok (.iload_n 1, 1) := by decide +kernel
theorem dX11_second_2 : decode M_X11_second.2.2.1 2 = .ok (.iload_n 2, 1) := by decide +kernel
theorem dX11_second_3 : decode M_X11_second.2.2.1 3 = .ok (.invokevirtual 241, 3) := by decide +kernel
theorem dX11_second_6 : decode M_X11_second.2.2.1 6 = .ok (.astore 5, 2) := by decide +kernel
theorem dX11_second_8 : decode M_X11_second.2.2.1 8 = .ok (.aload 5, 2) := by decide +kernel
theorem dX11_second_10 : decode M_X11_second.2.2.1 10 = .ok (.ifnull 17, 3) := by decide +kernel
theorem dX11_second_13 : decode M_X11_second.2.2.1 13 = .ok (.iload_n 3, 1) := by decide +kernel
theorem dX11_second_14 : decode M_X11_second.2.2.1 14 = .ok (.iconst (-1), 1) := by decide +kernel
theorem dX11_second_15 : decode M_X11_second.2.2.1 15 = .ok (.if_icmp .eq 14, 3) := by decide +kernel
theorem dX11_second_18 : decode M_X11_second.2.2.1 18 = .ok (.iload_n 3, 1) := by decide +kernel
theorem dX11_second_19 : decode M_X11_second.2.2.1 19 = .ok (.iload 4, 2) := by decide +kernel
theorem dX11_second_21 : decode M_X11_second.2.2.1 21 = .ok (.invokestatic 234, 3) := by decide +kernel
theorem dX11_second_24 : decode M_X11_second.2.2.1 24 = .ok (.ifCond .ne 5, 3) := by decide +kernel
theorem dX11_second_27 : decode M_X11_second.2.2.1 27 = .ok (.iconst 0, 1) := by decide +kernel
theorem dX11_second_28 : decode M_X11_second.2.2.1 28 = .ok (.ireturn, 1) := by decide +kernel
theorem dX11_second_29 : decode M_X11_second.2.2.1 29 = .ok (.aload 5, 2) := by decide +kernel
theorem dX11_second_31 : decode M_X11_second.2.2.1 31 = .ok (.iload_n 3, 1) := by decide +kernel
theorem dX11_second_32 : decode M_X11_second.2.2.1 32 = .ok (.putfield 245, 3) := by decide +kernel
theorem dX11_second_35 : decode M_X11_second.2.2.1 35 = .ok (.aload 5, 2) := by decide +kernel
theorem dX11_second_37 : decode M_X11_second.2.2.1 37 = .ok (.iload 4, 2) := by decide +kernel
theorem dX11_second_39 : decode M_X11_second.2.2.1 39 = .ok (.putfield 250, 3) := by decide +kernel
theorem dX11_second_42 : decode M_X11_second.2.2.1 42 = .ok (.iconst 1, 1) := by decide +kernel
theorem dX11_second_43 : decode M_X11_second.2.2.1 43 = .ok (.ireturn, 1) := by decide +kernel
theorem dX11_beat_0 : decode M_X11_beat.2.2.1 0 = .ok (.aload_n 0, 1) := by decide +kernel
theorem dX11_beat_1 : decode M_X11_beat.2.2.1 1 = .ok (.iload_n 1, 1) := by decide +kernel
theorem dX11_beat_2 : decode M_X11_beat.2.2.1 2 = .ok (.iload_n 2, 1) := by decide +kernel
theorem dX11_beat_3 : decode M_X11_beat.2.2.1 3 = .ok (.invokevirtual 241, 3) := by decide +kernel
theorem dX11_beat_6 : decode M_X11_beat.2.2.1 6 = .ok (.astore 5, 2) := by decide +kernel
theorem dX11_beat_8 : decode M_X11_beat.2.2.1 8 = .ok (.aload 5, 2) := by decide +kernel
theorem dX11_beat_10 : decode M_X11_beat.2.2.1 10 = .ok (.ifnull 23, 3) := by decide +kernel
theorem dX11_beat_13 : decode M_X11_beat.2.2.1 13 = .ok (.iload_n 3, 1) := by decide +kernel
theorem dX11_beat_14 : decode M_X11_beat.2.2.1 14 = .ok (.iconst (-1), 1) := by decide +kernel
theorem dX11_beat_15 : decode M_X11_beat.2.2.1 15 = .ok (.iconst 1, 1) := by decide +kernel
theorem dX11_beat_16 : decode M_X11_beat.2.2.1 16 = .ok (.invokestatic 94, 3) := by decide +kernel
theorem dX11_beat_19 : decode M_X11_beat.2.2.1 19 = .ok (.ifCond .eq 14, 3) := by decide +kernel
theorem dX11_beat_22 : decode M_X11_beat.2.2.1 22 = .ok (.iload 4, 2) := by decide +kernel
theorem dX11_beat_24 : decode M_X11_beat.2.2.1 24 = .ok (.iconst 0, 1) := by decide +kernel
theorem dX11_beat_25 : decode M_X11_beat.2.2.1 25 = .ok (.ldc 162, 2) := by decide +kernel
theorem dX11_beat_27 : decode M_X11_beat.2.2.1 27 = .ok (.invokestatic 94, 3) := by decide +kernel
theorem dX11_beat_30 : decode M_X11_beat.2.2.1 30 = .ok (.ifCond .ne 5, 3) := by decide +kernel
theorem dX11_beat_33 : decode M_X11_beat.2.2.1 33 = .ok (.iconst 0, 1) := by decide +kernel
theorem dX11_beat_34 : decode M_X11_beat.2.2.1 34 = .ok (.ireturn, 1) := by decide +kernel
theorem dX11_beat_35 : decode M_X11_beat.2.2.1 35 = .ok (.aload 5, 2) := by decide +kernel
theorem dX11_beat_37 : decode M_X11_beat.2.2.1 37 = .ok (.iload_n 3, 1) := by decide +kernel
theorem dX11_beat_38 : decode M_X11_beat.2.2.1 38 = .ok (.putfield 253, 3) := by decide +kernel
theorem dX11_beat_41 : decode M_X11_beat.2.2.1 41 = .ok (.aload 5, 2) := by decide +kernel
theorem dX11_beat_43 : decode M_X11_beat.2.2.1 43 = .ok (.iload 4, 2) := by decide +kernel
theorem dX11_beat_45 : decode M_X11_beat.2.2.1 45 = .ok (.putfield 256, 3) := by decide +kernel
theorem dX11_beat_48 : decode M_X11_beat.2.2.1 48 = .ok (.iconst 1, 1) := by decide +kernel
theorem dX11_beat_49 : decode M_X11_beat.2.2.1 49 = .ok (.ireturn, 1) := by decide +kernel
theorem dX11_fits_0 : decode M_X11_fits.2.2.1 0 = .ok (.aload_n 0, 1) := by decide +kernel
theorem dX11_fits_1 : decode M_X11_fits.2.2.1 1 = .ok (.iload_n 1, 1) := by decide +kernel
theorem dX11_fits_2 : decode M_X11_fits.2.2.1 2 = .ok (.invokevirtual 230, 3) := by decide +kernel
theorem dX11_fits_5 : decode M_X11_fits.2.2.1 5 = .ok (.astore 4, 2) := by decide +kernel
theorem dX11_fits_7 : decode M_X11_fits.2.2.1 7 = .ok (.aload 4, 2) := by decide +kernel
theorem dX11_fits_9 : decode M_X11_fits.2.2.1 9 = .ok (.ifnull 24, 3) := by decide +kernel
theorem dX11_fits_12 : decode M_X11_fits.2.2.1 12 = .ok (.iload_n 2, 1) := by decide +kernel
theorem dX11_fits_13 : decode M_X11_fits.2.2.1 13 = .ok (.iconst 1, 1) := by decide +kernel
theorem dX11_fits_14 : decode M_X11_fits.2.2.1 14 = .ok (.bipush 63, 2) := by decide +kernel
theorem dX11_fits_16 : decode M_X11_fits.2.2.1 16 = .ok (.invokestatic 94, 3) := by decide +kernel
theorem dX11_fits_19 : decode M_X11_fits.2.2.1 19 = .ok (.ifCond .eq 14, 3) := by decide +kernel
theorem dX11_fits_22 : decode M_X11_fits.2.2.1 22 = .ok (.iload_n 3, 1) := by decide +kernel
theorem dX11_fits_23 : decode M_X11_fits.2.2.1 23 = .ok (.iconst 0, 1) := by decide +kernel
theorem dX11_fits_24 : decode M_X11_fits.2.2.1 24 = .ok (.sipush 1600, 3) := by decide +kernel
theorem dX11_fits_27 : decode M_X11_fits.2.2.1 27 = .ok (.invokestatic 94, 3) := by decide +kernel
theorem dX11_fits_30 : decode M_X11_fits.2.2.1 30 = .ok (.ifCond .ne 5, 3) := by decide +kernel
theorem dX11_fits_33 : decode M_X11_fits.2.2.1 33 = .ok (.iconst (-1), 1) := by decide +kernel
theorem dX11_fits_34 : decode M_X11_fits.2.2.1 34 = .ok (.ireturn, 1) := by decide +kernel
theorem dX11_fits_35 : decode M_X11_fits.2.2.1 35 = .ok (.iload_n 3, 1) := by decide +kernel
theorem dX11_fits_36 : decode M_X11_fits.2.2.1 36 = .ok (.ifCond .ne 13, 3) := by decide +kernel
theorem dX11_fits_39 : decode M_X11_fits.2.2.1 39 = .ok (.aload_n 0, 1) := by decide +kernel
theorem dX11_fits_40 : decode M_X11_fits.2.2.1 40 = .ok (.aload 4, 2) := by decide +kernel
theorem dX11_fits_42 : decode M_X11_fits.2.2.1 42 = .ok (.iload_n 2, 1) := by decide +kernel
theorem dX11_fits_43 : decode M_X11_fits.2.2.1 43 = .ok (.invokevirtual 259, 3) := by decide +kernel
theorem dX11_fits_46 : decode M_X11_fits.2.2.1 46 = .ok (.goto 13, 3) := by decide +kernel
theorem dX11_fits_49 : decode M_X11_fits.2.2.1 49 = .ok (.aload_n 0, 1) := by decide +kernel
theorem dX11_fits_50 : decode M_X11_fits.2.2.1 50 = .ok (.aload 4, 2) := by decide +kernel
theorem dX11_fits_52 : decode M_X11_fits.2.2.1 52 = .ok (.iload_n 2, 1) := by decide +kernel
theorem dX11_fits_53 : decode M_X11_fits.2.2.1 53 = .ok (.iload_n 3, 1) := by decide +kernel
theorem dX11_fits_54 : decode M_X11_fits.2.2.1 54 = .ok (.iconst 1, 1) := by decide +kernel
theorem dX11_fits_55 : decode M_X11_fits.2.2.1 55 = .ok (.isub, 1) := by decide +kernel
theorem dX11_fits_56 : decode M_X11_fits.2.2.1 56 = .ok (.invokevirtual 263, 3) := by decide +kernel
theorem dX11_fits_59 : decode M_X11_fits.2.2.1 59 = .ok (.ireturn, 1) := by decide +kernel
theorem dX11_fit_0 : decode M_X11_fit.2.2.1 0 = .ok (.aload_n 0, 1) := by decide +kernel
theorem dX11_fit_1 : decode M_X11_fit.2.2.1 1 = .ok (.iload_n 1, 1) := by decide +kernel
theorem dX11_fit_2 : decode M_X11_fit.2.2.1 2 = .ok (.invokevirtual 230, 3) := by decide +kernel
theorem dX11_fit_5 : decode M_X11_fit.2.2.1 5 = .ok (.astore 4, 2) := by decide +kernel
theorem dX11_fit_7 : decode M_X11_fit.2.2.1 7 = .ok (.aload 4, 2) := by decide +kernel
theorem dX11_fit_9 : decode M_X11_fit.2.2.1 9 = .ok (.ifnull 11, 3) := by decide +kernel
theorem dX11_fit_12 : decode M_X11_fit.2.2.1 12 = .ok (.iload_n 2, 1) := by decide +kernel
theorem dX11_fit_13 : decode M_X11_fit.2.2.1 13 = .ok (.iload_n 3, 1) := by decide +kernel
theorem dX11_fit_14 : decode M_X11_fit.2.2.1 14 = .ok (.invokestatic 80, 3) := by decide +kernel
theorem dX11_fit_17 : decode M_X11_fit.2.2.1 17 = .ok (.ifCond .ne 5, 3) := by decide +kernel
theorem dX11_fit_20 : decode M_X11_fit.2.2.1 20 = .ok (.iconst (-1), 1) := by decide +kernel
theorem dX11_fit_21 : decode M_X11_fit.2.2.1 21 = .ok (.ireturn, 1) := by decide +kernel
theorem dX11_fit_22 : decode M_X11_fit.2.2.1 22 = .ok (.aload_n 0, 1) := by decide +kernel
theorem dX11_fit_23 : decode M_X11_fit.2.2.1 23 = .ok (.aload 4, 2) := by decide +kernel
theorem dX11_fit_25 : decode M_X11_fit.2.2.1 25 = .ok (.bipush 63, 2) := by decide +kernel
theorem dX11_fit_27 : decode M_X11_fit.2.2.1 27 = .ok (.iload_n 2, 1) := by decide +kernel
theorem dX11_fit_28 : decode M_X11_fit.2.2.1 28 = .ok (.iload_n 3, 1) := by decide +kernel
theorem dX11_fit_29 : decode M_X11_fit.2.2.1 29 = .ok (.invokevirtual 267, 3) := by decide +kernel
theorem dX11_fit_32 : decode M_X11_fit.2.2.1 32 = .ok (.ifCond .eq 7, 3) := by decide +kernel
theorem dX11_fit_35 : decode M_X11_fit.2.2.1 35 = .ok (.iconst 1, 1) := by decide +kernel
theorem dX11_fit_36 : decode M_X11_fit.2.2.1 36 = .ok (.goto 4, 3) := by decide +kernel
theorem dX11_fit_39 : decode M_X11_fit.2.2.1 39 = .ok (.iconst 0, 1) := by decide +kernel
theorem dX11_fit_40 : decode M_X11_fit.2.2.1 40 = .ok (.ireturn, 1) := by decide +kernel
theorem dX11_wrong_0 : decode M_X11_wrong.2.2.1 0 = .ok (.aload_n 0, 1) := by decide +kernel
theorem dX11_wrong_1 : decode M_X11_wrong.2.2.1 1 = .ok (.iload_n 1, 1) := by decide +kernel
theorem dX11_wrong_2 : decode M_X11_wrong.2.2.1 2 = .ok (.invokevirtual 230, 3) := by decide +kernel
theorem dX11_wrong_5 : decode M_X11_wrong.2.2.1 5 = .ok (.astore_n 2, 1) := by decide +kernel
theorem dX11_wrong_6 : decode M_X11_wrong.2.2.1 6 = .ok (.aload_n 2, 1) := by decide +kernel
theorem dX11_wrong_7 : decode M_X11_wrong.2.2.1 7 = .ok (.ifnull 15, 3) := by decide +kernel
theorem dX11_wrong_10 : decode M_X11_wrong.2.2.1 10 = .ok (.aload_n 0, 1) := by decide +kernel
theorem dX11_wrong_11 : decode M_X11_wrong.2.2.1 11 = .ok (.aload_n 2, 1) := by decide +kernel
theorem dX11_wrong_12 : decode M_X11_wrong.2.2.1 12 = .ok (.bipush 63, 2) := by decide +kernel
theorem dX11_wrong_14 : decode M_X11_wrong.2.2.1 14 = .ok (.iconst 0, 1) := by decide +kernel
theorem dX11_wrong_15 : decode M_X11_wrong.2.2.1 15 = .ok (.invokevirtual 263, 3) := by decide +kernel
theorem dX11_wrong_18 : decode M_X11_wrong.2.2.1 18 = .ok (.iconst (-1), 1) := by decide +kernel
theorem dX11_wrong_19 : decode M_X11_wrong.2.2.1 19 = .ok (.if_icmp .eq 5, 3) := by decide +kernel
theorem dX11_wrong_22 : decode M_X11_wrong.2.2.1 22 = .ok (.iconst (-1), 1) := by decide +kernel
theorem dX11_wrong_23 : decode M_X11_wrong.2.2.1 23 = .ok (.ireturn, 1) := by decide +kernel
theorem dX11_wrong_24 : decode M_X11_wrong.2.2.1 24 = .ok (.iconst (-1), 1) := by decide +kernel
theorem dX11_wrong_25 : decode M_X11_wrong.2.2.1 25 = .ok (.istore_n 3, 1) := by decide +kernel
theorem dX11_wrong_26 : decode M_X11_wrong.2.2.1 26 = .ok (.iconst 0, 1) := by decide +kernel
theorem dX11_wrong_27 : decode M_X11_wrong.2.2.1 27 = .ok (.istore 4, 2) := by decide +kernel
theorem dX11_wrong_29 : decode M_X11_wrong.2.2.1 29 = .ok (.iload 4, 2) := by decide +kernel
theorem dX11_wrong_31 : decode M_X11_wrong.2.2.1 31 = .ok (.aload_n 0, 1) := by decide +kernel
theorem dX11_wrong_32 : decode M_X11_wrong.2.2.1 32 = .ok (.getfield 84, 3) := by decide +kernel
theorem dX11_wrong_35 : decode M_X11_wrong.2.2.1 35 = .ok (.if_icmp .ge 64, 3) := by decide +kernel
theorem dX11_wrong_38 : decode M_X11_wrong.2.2.1 38 = .ok (.aload_n 2, 1) := by decide +kernel
theorem dX11_wrong_39 : decode M_X11_wrong.2.2.1 39 = .ok (.iload 4, 2) := by decide +kernel
theorem dX11_wrong_41 : decode M_X11_wrong.2.2.1 41 = .ok (.invokevirtual 271, 3) := by decide +kernel
theorem dX11_wrong_44 : decode M_X11_wrong.2.2.1 44 = .ok (.ifnull 26, 3) := by decide +kernel
theorem dX11_wrong_47 : decode M_X11_wrong.2.2.1 47 = .ok (.aload_n 0, 1) := by decide +kernel
theorem dX11_wrong_48 : decode M_X11_wrong.2.2.1 48 = .ok (.aload_n 2, 1) := by decide +kernel
theorem dX11_wrong_49 : decode M_X11_wrong.2.2.1 49 = .ok (.bipush 63, 2) := by decide +kernel
theorem dX11_wrong_51 : decode M_X11_wrong.2.2.1 51 = .ok (.iconst 1, 1) := by decide +kernel
theorem dX11_wrong_52 : decode M_X11_wrong.2.2.1 52 = .ok (.iload 4, 2) := by decide +kernel
theorem dX11_wrong_54 : decode M_X11_wrong.2.2.1 54 = .ok (.ishl, 1) := by decide +kernel
theorem dX11_wrong_55 : decode M_X11_wrong.2.2.1 55 = .ok (.iconst (-1), 1) := by decide +kernel
theorem dX11_wrong_56 : decode M_X11_wrong.2.2.1 56 = .ok (.ixor, 1) := by decide +kernel
theorem dX11_wrong_57 : decode M_X11_wrong.2.2.1 57 = .ok (.iand, 1) := by decide +kernel
theorem dX11_wrong_58 : decode M_X11_wrong.2.2.1 58 = .ok (.iconst 0, 1) := by decide +kernel
theorem dX11_wrong_59 : decode M_X11_wrong.2.2.1 59 = .ok (.invokevirtual 263, 3) := by decide +kernel
theorem dX11_wrong_62 : decode M_X11_wrong.2.2.1 62 = .ok (.iconst (-1), 1) := by decide +kernel
theorem dX11_wrong_63 : decode M_X11_wrong.2.2.1 63 = .ok (.if_icmp .eq 7, 3) := by decide +kernel
theorem dX11_wrong_66 : decode M_X11_wrong.2.2.1 66 = .ok (.iconst 1, 1) := by decide +kernel
theorem dX11_wrong_67 : decode M_X11_wrong.2.2.1 67 = .ok (.goto 4, 3) := by decide +kernel
theorem dX11_wrong_70 : decode M_X11_wrong.2.2.1 70 = .ok (.iconst 0, 1) := by decide +kernel
theorem dX11_wrong_71 : decode M_X11_wrong.2.2.1 71 = .ok (.istore 5, 2) := by decide +kernel
theorem dX11_wrong_73 : decode M_X11_wrong.2.2.1 73 = .ok (.iload 5, 2) := by decide +kernel
theorem dX11_wrong_75 : decode M_X11_wrong.2.2.1 75 = .ok (.ifCond .eq 10, 3) := by decide +kernel
theorem dX11_wrong_78 : decode M_X11_wrong.2.2.1 78 = .ok (.iload_n 3, 1) := by decide +kernel
theorem dX11_wrong_79 : decode M_X11_wrong.2.2.1 79 = .ok (.iconst (-1), 1) := by decide +kernel
theorem dX11_wrong_80 : decode M_X11_wrong.2.2.1 80 = .ok (.if_icmp .eq 5, 3) := by decide +kernel
theorem dX11_wrong_83 : decode M_X11_wrong.2.2.1 83 = .ok (.iconst (-1), 1) := by decide +kernel
theorem dX11_wrong_84 : decode M_X11_wrong.2.2.1 84 = .ok (.ireturn, 1) := by decide +kernel
theorem dX11_wrong_85 : decode M_X11_wrong.2.2.1 85 = .ok (.iload 5, 2) := by decide +kernel
theorem dX11_wrong_87 : decode M_X11_wrong.2.2.1 87 = .ok (.ifCond .eq 6, 3) := by decide +kernel
theorem dX11_wrong_90 : decode M_X11_wrong.2.2.1 90 = .ok (.iload 4, 2) := by decide +kernel
theorem dX11_wrong_92 : decode M_X11_wrong.2.2.1 92 = .ok (.istore_n 3, 1) := by decide +kernel
theorem dX11_wrong_93 : decode M_X11_wrong.2.2.1 93 = .ok (.iinc 4 1, 3) := by decide +kernel
theorem dX11_wrong_96 : decode M_X11_wrong.2.2.1 96 = .ok (.goto (-67), 3) := by decide +kernel
theorem dX11_wrong_99 : decode M_X11_wrong.2.2.1 99 = .ok (.iload_n 3, 1) := by decide +kernel
theorem dX11_wrong_100 : decode M_X11_wrong.2.2.1 100 = .ok (.ireturn, 1) := by decide +kernel
theorem dX11_slides_0 : decode M_X11_slides.2.2.1 0 = .ok (.aload_n 0, 1) := by decide +kernel
theorem dX11_slides_1 : decode M_X11_slides.2.2.1 1 = .ok (.iload_n 1, 1) := by decide +kernel
theorem dX11_slides_2 : decode M_X11_slides.2.2.1 2 = .ok (.invokevirtual 230, 3) := by decide +kernel
theorem dX11_slides_5 : decode M_X11_slides.2.2.1 5 = .ok (.astore 4, 2) := by decide +kernel
theorem dX11_slides_7 : decode M_X11_slides.2.2.1 7 = .ok (.aload 4, 2) := by decide +kernel
theorem dX11_slides_9 : decode M_X11_slides.2.2.1 9 = .ok (.ifnull 11, 3) := by decide +kernel
theorem dX11_slides_12 : decode M_X11_slides.2.2.1 12 = .ok (.iload_n 2, 1) := by decide +kernel
theorem dX11_slides_13 : decode M_X11_slides.2.2.1 13 = .ok (.iload_n 3, 1) := by decide +kernel
theorem dX11_slides_14 : decode M_X11_slides.2.2.1 14 = .ok (.invokestatic 80, 3) := by decide +kernel
theorem dX11_slides_17 : decode M_X11_slides.2.2.1 17 = .ok (.ifCond .ne 5, 3) := by decide +kernel
theorem dX11_slides_20 : decode M_X11_slides.2.2.1 20 = .ok (.iconst (-1), 1) := by decide +kernel
theorem dX11_slides_21 : decode M_X11_slides.2.2.1 21 = .ok (.ireturn, 1) := by decide +kernel
theorem dX11_slides_22 : decode M_X11_slides.2.2.1 22 = .ok (.bipush 15, 2) := by decide +kernel
theorem dX11_slides_24 : decode M_X11_slides.2.2.1 24 = .ok (.istore 5, 2) := by decide +kernel
theorem dX11_slides_26 : decode M_X11_slides.2.2.1 26 = .ok (.iconst 0, 1) := by decide +kernel
theorem dX11_slides_27 : decode M_X11_slides.2.2.1 27 = .ok (.istore 6, 2) := by decide +kernel
theorem dX11_slides_29 : decode M_X11_slides.2.2.1 29 = .ok (.iload 6, 2) := by decide +kernel
theorem dX11_slides_31 : decode M_X11_slides.2.2.1 31 = .ok (.aload_n 0, 1) := by decide +kernel
theorem dX11_slides_32 : decode M_X11_slides.2.2.1 32 = .ok (.getfield 84, 3) := by decide +kernel
theorem dX11_slides_35 : decode M_X11_slides.2.2.1 35 = .ok (.if_icmp .ge 77, 3) := by decide +kernel
theorem dX11_slides_38 : decode M_X11_slides.2.2.1 38 = .ok (.aload 4, 2) := by decide +kernel
theorem dX11_slides_40 : decode M_X11_slides.2.2.1 40 = .ok (.iload 6, 2) := by decide +kernel
theorem dX11_slides_42 : decode M_X11_slides.2.2.1 42 = .ok (.invokevirtual 271, 3) := by decide +kernel
theorem dX11_slides_45 : decode M_X11_slides.2.2.1 45 = .ok (.astore 7, 2) := by decide +kernel
theorem dX11_slides_47 : decode M_X11_slides.2.2.1 47 = .ok (.aload_n 0, 1) := by decide +kernel
theorem dX11_slides_48 : decode M_X11_slides.2.2.1 48 = .ok (.iload 6, 2) := by decide +kernel
theorem dX11_slides_50 : decode M_X11_slides.2.2.1 50 = .ok (.invokevirtual 90, 3) := by decide +kernel
theorem dX11_slides_53 : decode M_X11_slides.2.2.1 53 = .ok (.astore 8, 2) := by decide +kernel
theorem dX11_slides_55 : decode M_X11_slides.2.2.1 55 = .ok (.aload 7, 2) := by decide +kernel
theorem dX11_slides_57 : decode M_X11_slides.2.2.1 57 = .ok (.ifnull 49, 3) := by decide +kernel
theorem dX11_slides_60 : decode M_X11_slides.2.2.1 60 = .ok (.aload 8, 2) := by decide +kernel
theorem dX11_slides_62 : decode M_X11_slides.2.2.1 62 = .ok (.ifnull 44, 3) := by decide +kernel
theorem dX11_slides_65 : decode M_X11_slides.2.2.1 65 = .ok (.aload 7, 2) := by decide +kernel
theorem dX11_slides_67 : decode M_X11_slides.2.2.1 67 = .ok (.getfield 253, 3) := by decide +kernel
theorem dX11_slides_70 : decode M_X11_slides.2.2.1 70 = .ok (.ifCond .ne 6, 3) := by decide +kernel
theorem dX11_slides_73 : decode M_X11_slides.2.2.1 73 = .ok (.goto 33, 3) := by decide +kernel
theorem dX11_slides_76 : decode M_X11_slides.2.2.1 76 = .ok (.iload 5, 2) := by decide +kernel
theorem dX11_slides_78 : decode M_X11_slides.2.2.1 78 = .ok (.aload 8, 2) := by decide +kernel
theorem dX11_slides_80 : decode M_X11_slides.2.2.1 80 = .ok (.getfield 275, 3) := by decide +kernel
theorem dX11_slides_83 : decode M_X11_slides.2.2.1 83 = .ok (.iload_n 2, 1) := by decide +kernel
theorem dX11_slides_84 : decode M_X11_slides.2.2.1 84 = .ok (.isub, 1) := by decide +kernel
theorem dX11_slides_85 : decode M_X11_slides.2.2.1 85 = .ok (.aload 8, 2) := by decide +kernel
theorem dX11_slides_87 : decode M_X11_slides.2.2.1 87 = .ok (.getfield 278, 3) := by decide +kernel
theorem dX11_slides_90 : decode M_X11_slides.2.2.1 90 = .ok (.iload_n 3, 1) := by decide +kernel
theorem dX11_slides_91 : decode M_X11_slides.2.2.1 91 = .ok (.isub, 1) := by decide +kernel
theorem dX11_slides_92 : decode M_X11_slides.2.2.1 92 = .ok (.invokestatic 281, 3) := by decide +kernel
theorem dX11_slides_95 : decode M_X11_slides.2.2.1 95 = .ok (.aload 7, 2) := by decide +kernel
theorem dX11_slides_97 : decode M_X11_slides.2.2.1 97 = .ok (.getfield 253, 3) := by decide +kernel
theorem dX11_slides_100 : decode M_X11_slides.2.2.1 100 = .ok (.invokestatic 284, 3) := by decide +kernel
theorem dX11_slides_103 : decode M_X11_slides.2.2.1 103 = .ok (.iand, 1) := by decide +kernel
theorem dX11_slides_104 : decode M_X11_slides.2.2.1 104 = .ok (.istore 5, 2) := by decide +kernel
theorem dX11_slides_106 : decode M_X11_slides.2.2.1 106 = .ok (.iinc 6 1, 3) := by decide +kernel
theorem dX11_slides_109 : decode M_X11_slides.2.2.1 109 = .ok (.goto (-80), 3) := by decide +kernel
theorem dX11_slides_112 : decode M_X11_slides.2.2.1 112 = .ok (.iload 5, 2) := by decide +kernel
theorem dX11_slides_114 : decode M_X11_slides.2.2.1 114 = .ok (.ireturn, 1) := by decide +kernel
theorem dX11_level_0 : decode M_X11_level.2.2.1 0 = .ok (.iload_n 1, 1) := by decide +kernel
theorem dX11_level_1 : decode M_X11_level.2.2.1 1 = .ok (.ifCond .ge 7, 3) := by decide +kernel
theorem dX11_level_4 : decode M_X11_level.2.2.1 4 = .ok (.iconst (-1), 1) := by decide +kernel
theorem dX11_level_5 : decode M_X11_level.2.2.1 5 = .ok (.goto 7, 3) := by decide +kernel
theorem dX11_level_8 : decode M_X11_level.2.2.1 8 = .ok (.iload_n 1, 1) := by decide +kernel
theorem dX11_level_9 : decode M_X11_level.2.2.1 9 = .ok (.invokestatic 287, 3) := by decide +kernel
theorem dX11_level_12 : decode M_X11_level.2.2.1 12 = .ok (.ireturn, 1) := by decide +kernel
theorem dX11_habit_0 : decode M_X11_habit.2.2.1 0 = .ok (.aload_n 0, 1) := by decide +kernel
theorem dX11_habit_1 : decode M_X11_habit.2.2.1 1 = .ok (.iload_n 1, 1) := by decide +kernel
theorem dX11_habit_2 : decode M_X11_habit.2.2.1 2 = .ok (.invokevirtual 90, 3) := by decide +kernel
theorem dX11_habit_5 : decode M_X11_habit.2.2.1 5 = .ok (.astore_n 3, 1) := by decide +kernel
theorem dX11_habit_6 : decode M_X11_habit.2.2.1 6 = .ok (.aload_n 3, 1) := by decide +kernel
theorem dX11_habit_7 : decode M_X11_habit.2.2.1 7 = .ok (.ifnull 14, 3) := by decide +kernel
theorem dX11_habit_10 : decode M_X11_habit.2.2.1 10 = .ok (.iload_n 2, 1) := by decide +kernel
theorem dX11_habit_11 : decode M_X11_habit.2.2.1 11 = .ok (.bipush (-50), 2) := by decide +kernel
theorem dX11_habit_13 : decode M_X11_habit.2.2.1 13 = .ok (.bipush 50, 2) := by decide +kernel
theorem dX11_habit_15 : decode M_X11_habit.2.2.1 15 = .ok (.invokestatic 94, 3) := by decide +kernel
theorem dX11_habit_18 : decode M_X11_habit.2.2.1 18 = .ok (.ifCond .ne 5, 3) := by decide +kernel
theorem dX11_habit_21 : decode M_X11_habit.2.2.1 21 = .ok (.iconst 0, 1) := by decide +kernel
theorem dX11_habit_22 : decode M_X11_habit.2.2.1 22 = .ok (.ireturn, 1) := by decide +kernel
theorem dX11_habit_23 : decode M_X11_habit.2.2.1 23 = .ok (.aload_n 3, 1) := by decide +kernel
theorem dX11_habit_24 : decode M_X11_habit.2.2.1 24 = .ok (.iload_n 2, 1) := by decide +kernel
theorem dX11_habit_25 : decode M_X11_habit.2.2.1 25 = .ok (.putfield 290, 3) := by decide +kernel
theorem dX11_habit_28 : decode M_X11_habit.2.2.1 28 = .ok (.iconst 1, 1) := by decide +kernel
theorem dX11_habit_29 : decode M_X11_habit.2.2.1 29 = .ok (.ireturn, 1) := by decide +kernel
theorem dX11_size_0 : decode M_X11_size.2.2.1 0 = .ok (.aload_n 0, 1) := by decide +kernel
theorem dX11_size_1 : decode M_X11_size.2.2.1 1 = .ok (.iload_n 1, 1) := by decide +kernel
theorem dX11_size_2 : decode M_X11_size.2.2.1 2 = .ok (.invokevirtual 230, 3) := by decide +kernel
theorem dX11_size_5 : decode M_X11_size.2.2.1 5 = .ok (.astore 5, 2) := by decide +kernel
theorem dX11_size_7 : decode M_X11_size.2.2.1 7 = .ok (.aload 5, 2) := by decide +kernel
theorem dX11_size_9 : decode M_X11_size.2.2.1 9 = .ok (.ifnull 11, 3) := by decide +kernel
theorem dX11_size_12 : decode M_X11_size.2.2.1 12 = .ok (.iload_n 2, 1) := by decide +kernel
theorem dX11_size_13 : decode M_X11_size.2.2.1 13 = .ok (.iload_n 3, 1) := by decide +kernel
theorem dX11_size_14 : decode M_X11_size.2.2.1 14 = .ok (.invokestatic 80, 3) := by decide +kernel
theorem dX11_size_17 : decode M_X11_size.2.2.1 17 = .ok (.ifCond .ne 6, 3) := by decide +kernel
theorem dX11_size_20 : decode M_X11_size.2.2.1 20 = .ok (.ldc 110, 2) := by decide +kernel
theorem dX11_size_22 : decode M_X11_size.2.2.1 22 = .ok (.ireturn, 1) := by decide +kernel
theorem dX11_size_23 : decode M_X11_size.2.2.1 23 = .ok (.iload 4, 2) := by decide +kernel
theorem dX11_size_25 : decode M_X11_size.2.2.1 25 = .ok (.iconst (-1), 1) := by decide +kernel
theorem dX11_size_26 : decode M_X11_size.2.2.1 26 = .ok (.if_icmp .ne 13, 3) := by decide +kernel
theorem dX11_size_29 : decode M_X11_size.2.2.1 29 = .ok (.aload_n 0, 1) := by decide +kernel
theorem dX11_size_30 : decode M_X11_size.2.2.1 30 = .ok (.aload 5, 2) := by decide +kernel
theorem dX11_size_32 : decode M_X11_size.2.2.1 32 = .ok (.iload_n 2, 1) := by decide +kernel
theorem dX11_size_33 : decode M_X11_size.2.2.1 33 = .ok (.iload_n 3, 1) := by decide +kernel
theorem dX11_size_34 : decode M_X11_size.2.2.1 34 = .ok (.iconst (-1), 1) := by decide +kernel
theorem dX11_size_35 : decode M_X11_size.2.2.1 35 = .ok (.invokevirtual 293, 3) := by decide +kernel
theorem dX11_size_38 : decode M_X11_size.2.2.1 38 = .ok (.ireturn, 1) := by decide +kernel
theorem dX11_size_39 : decode M_X11_size.2.2.1 39 = .ok (.aload_n 0, 1) := by decide +kernel
theorem dX11_size_40 : decode M_X11_size.2.2.1 40 = .ok (.iload 4, 2) := by decide +kernel
theorem dX11_size_42 : decode M_X11_size.2.2.1 42 = .ok (.invokevirtual 90, 3) := by decide +kernel
theorem dX11_size_45 : decode M_X11_size.2.2.1 45 = .ok (.astore 6, 2) := by decide +kernel
theorem dX11_size_47 : decode M_X11_size.2.2.1 47 = .ok (.aload_n 0, 1) := by decide +kernel
theorem dX11_size_48 : decode M_X11_size.2.2.1 48 = .ok (.aload 5, 2) := by decide +kernel
theorem dX11_size_50 : decode M_X11_size.2.2.1 50 = .ok (.iload_n 2, 1) := by decide +kernel
theorem dX11_size_51 : decode M_X11_size.2.2.1 51 = .ok (.iload_n 3, 1) := by decide +kernel
theorem dX11_size_52 : decode M_X11_size.2.2.1 52 = .ok (.iload 4, 2) := by decide +kernel
theorem dX11_size_54 : decode M_X11_size.2.2.1 54 = .ok (.invokevirtual 297, 3) := by decide +kernel
theorem dX11_size_57 : decode M_X11_size.2.2.1 57 = .ok (.istore 7, 2) := by decide +kernel
theorem dX11_size_59 : decode M_X11_size.2.2.1 59 = .ok (.aload 6, 2) := by decide +kernel
theorem dX11_size_61 : decode M_X11_size.2.2.1 61 = .ok (.ifnull 10, 3) := by decide +kernel
theorem dX11_size_64 : decode M_X11_size.2.2.1 64 = .ok (.iload 7, 2) := by decide +kernel
theorem dX11_size_66 : decode M_X11_size.2.2.1 66 = .ok (.ldc 110, 2) := by decide +kernel
theorem dX11_size_68 : decode M_X11_size.2.2.1 68 = .ok (.if_icmp .ne 8, 3) := by decide +kernel
theorem dX11_size_71 : decode M_X11_size.2.2.1 71 = .ok (.ldc 110, 2) := by decide +kernel
theorem dX11_size_73 : decode M_X11_size.2.2.1 73 = .ok (.goto 11, 3) := by decide +kernel
theorem dX11_size_76 : decode M_X11_size.2.2.1 76 = .ok (.iload 7, 2) := by decide +kernel
theorem dX11_size_78 : decode M_X11_size.2.2.1 78 = .ok (.aload 6, 2) := by decide +kernel
theorem dX11_size_80 : decode M_X11_size.2.2.1 80 = .ok (.getfield 290, 3) := by decide +kernel
theorem dX11_size_83 : decode M_X11_size.2.2.1 83 = .ok (.iadd, 1) := by decide +kernel
theorem dX11_size_84 : decode M_X11_size.2.2.1 84 = .ok (.ireturn, 1) := by decide +kernel
theorem dX11_place_0 : decode M_X11_place.2.2.1 0 = .ok (.aload_n 0, 1) := by decide +kernel
theorem dX11_place_1 : decode M_X11_place.2.2.1 1 = .ok (.iload_n 1, 1) := by decide +kernel
theorem dX11_place_2 : decode M_X11_place.2.2.1 2 = .ok (.invokevirtual 230, 3) := by decide +kernel
theorem dX11_place_5 : decode M_X11_place.2.2.1 5 = .ok (.astore 4, 2) := by decide +kernel
theorem dX11_place_7 : decode M_X11_place.2.2.1 7 = .ok (.aload 4, 2) := by decide +kernel
theorem dX11_place_9 : decode M_X11_place.2.2.1 9 = .ok (.ifnull 11, 3) := by decide +kernel
theorem dX11_place_12 : decode M_X11_place.2.2.1 12 = .ok (.iload_n 2, 1) := by decide +kernel
theorem dX11_place_13 : decode M_X11_place.2.2.1 13 = .ok (.iload_n 3, 1) := by decide +kernel
theorem dX11_place_14 : decode M_X11_place.2.2.1 14 = .ok (.invokestatic 80, 3) := by decide +kernel
theorem dX11_place_17 : decode M_X11_place.2.2.1 17 = .ok (.ifCond .ne 5, 3) := by decide +kernel
theorem dX11_place_20 : decode M_X11_place.2.2.1 20 = .ok (.iconst 0, 1) := by decide +kernel
theorem dX11_place_21 : decode M_X11_place.2.2.1 21 = .ok (.ireturn, 1) := by decide +kernel
theorem dX11_place_22 : decode M_X11_place.2.2.1 22 = .ok (.aload 4, 2) := by decide +kernel
theorem dX11_place_24 : decode M_X11_place.2.2.1 24 = .ok (.iload_n 2, 1) := by decide +kernel
theorem dX11_place_25 : decode M_X11_place.2.2.1 25 = .ok (.putfield 300, 3) := by decide +kernel
theorem dX11_place_28 : decode M_X11_place.2.2.1 28 = .ok (.aload 4, 2) := by decide +kernel
theorem dX11_place_30 : decode M_X11_place.2.2.1 30 = .ok (.iload_n 3, 1) := by decide +kernel
theorem dX11_place_31 : decode M_X11_place.2.2.1 31 = .ok (.putfield 303, 3) := by decide +kernel
theorem dX11_place_34 : decode M_X11_place.2.2.1 34 = .ok (.iconst 1, 1) := by decide +kernel
theorem dX11_place_35 : decode M_X11_place.2.2.1 35 = .ok (.ireturn, 1) := by decide +kernel
theorem dX11_own_0 : decode M_X11_own.2.2.1 0 = .ok (.aload_n 0, 1) := by decide +kernel
theorem dX11_own_1 : decode M_X11_own.2.2.1 1 = .ok (.iload_n 1, 1) := by decide +kernel
theorem dX11_own_2 : decode M_X11_own.2.2.1 2 = .ok (.invokevirtual 90, 3) := by decide +kernel
theorem dX11_own_5 : decode M_X11_own.2.2.1 5 = .ok (.ifnonnull 6, 3) := by decide +kernel
theorem dX11_own_8 : decode M_X11_own.2.2.1 8 = .ok (.ldc 110, 2) := by decide +kernel
theorem dX11_own_10 : decode M_X11_own.2.2.1 10 = .ok (.ireturn, 1) := by decide +kernel
theorem dX11_own_11 : decode M_X11_own.2.2.1 11 = .ok (.iconst 0, 1) := by decide +kernel
theorem dX11_own_12 : decode M_X11_own.2.2.1 12 = .ok (.istore_n 2, 1) := by decide +kernel
theorem dX11_own_13 : decode M_X11_own.2.2.1 13 = .ok (.iconst 0, 1) := by decide +kernel
theorem dX11_own_14 : decode M_X11_own.2.2.1 14 = .ok (.istore_n 3, 1) := by decide +kernel
theorem dX11_own_15 : decode M_X11_own.2.2.1 15 = .ok (.iconst 0, 1) := by decide +kernel
theorem dX11_own_16 : decode M_X11_own.2.2.1 16 = .ok (.istore 4, 2) := by decide +kernel
theorem dX11_own_18 : decode M_X11_own.2.2.1 18 = .ok (.iload 4, 2) := by decide +kernel
theorem dX11_own_20 : decode M_X11_own.2.2.1 20 = .ok (.aload_n 0, 1) := by decide +kernel
theorem dX11_own_21 : decode M_X11_own.2.2.1 21 = .ok (.getfield 226, 3) := by decide +kernel
theorem dX11_own_24 : decode M_X11_own.2.2.1 24 = .ok (.if_icmp .ge 37, 3) := by decide +kernel
theorem dX11_own_27 : decode M_X11_own.2.2.1 27 = .ok (.aload_n 0, 1) := by decide +kernel
theorem dX11_own_28 : decode M_X11_own.2.2.1 28 = .ok (.aload_n 0, 1) := by decide +kernel
theorem dX11_own_29 : decode M_X11_own.2.2.1 29 = .ok (.iload 4, 2) := by decide +kernel
theorem dX11_own_31 : decode M_X11_own.2.2.1 31 = .ok (.invokevirtual 230, 3) := by decide +kernel
theorem dX11_own_34 : decode M_X11_own.2.2.1 34 = .ok (.iload_n 1, 1) := by decide +kernel
theorem dX11_own_35 : decode M_X11_own.2.2.1 35 = .ok (.invokevirtual 306, 3) := by decide +kernel
theorem dX11_own_38 : decode M_X11_own.2.2.1 38 = .ok (.istore 5, 2) := by decide +kernel
theorem dX11_own_40 : decode M_X11_own.2.2.1 40 = .ok (.iload 5, 2) := by decide +kernel
theorem dX11_own_42 : decode M_X11_own.2.2.1 42 = .ok (.ldc 110, 2) := by decide +kernel
theorem dX11_own_44 : decode M_X11_own.2.2.1 44 = .ok (.if_icmp .eq 11, 3) := by decide +kernel
theorem dX11_own_47 : decode M_X11_own.2.2.1 47 = .ok (.iload_n 2, 1) := by decide +kernel
theorem dX11_own_48 : decode M_X11_own.2.2.1 48 = .ok (.iload 5, 2) := by decide +kernel
theorem dX11_own_50 : decode M_X11_own.2.2.1 50 = .ok (.iadd, 1) := by decide +kernel
theorem dX11_own_51 : decode M_X11_own.2.2.1 51 = .ok (.istore_n 2, 1) := by decide +kernel
theorem dX11_own_52 : decode M_X11_own.2.2.1 52 = .ok (.iinc 3 1, 3) := by decide +kernel
theorem dX11_own_55 : decode M_X11_own.2.2.1 55 = .ok (.iinc 4 1, 3) := by decide +kernel
theorem dX11_own_58 : decode M_X11_own.2.2.1 58 = .ok (.goto (-40), 3) := by decide +kernel
theorem dX11_own_61 : decode M_X11_own.2.2.1 61 = .ok (.iload_n 2, 1) := by decide +kernel
theorem dX11_own_62 : decode M_X11_own.2.2.1 62 = .ok (.iload_n 3, 1) := by decide +kernel
theorem dX11_own_63 : decode M_X11_own.2.2.1 63 = .ok (.invokestatic 309, 3) := by decide +kernel
theorem dX11_own_66 : decode M_X11_own.2.2.1 66 = .ok (.ireturn, 1) := by decide +kernel
theorem dX11_pick_0 : decode M_X11_pick.2.2.1 0 = .ok (.iload_n 1, 1) := by decide +kernel
theorem dX11_pick_1 : decode M_X11_pick.2.2.1 1 = .ok (.iconst (-1), 1) := by decide +kernel
theorem dX11_pick_2 : decode M_X11_pick.2.2.1 2 = .ok (.if_icmp .ne 13, 3) := by decide +kernel
theorem dX11_pick_5 : decode M_X11_pick.2.2.1 5 = .ok (.aload_n 0, 1) := by decide +kernel
theorem dX11_pick_6 : decode M_X11_pick.2.2.1 6 = .ok (.getfield 59, 3) := by decide +kernel
theorem dX11_pick_9 : decode M_X11_pick.2.2.1 9 = .ok (.iconst 0, 1) := by decide +kernel
theorem dX11_pick_10 : decode M_X11_pick.2.2.1 10 = .ok (.putfield 312, 3) := by decide +kernel
theorem dX11_pick_13 : decode M_X11_pick.2.2.1 13 = .ok (.iconst 0, 1) := by decide +kernel
theorem dX11_pick_14 : decode M_X11_pick.2.2.1 14 = .ok (.ireturn, 1) := by decide +kernel
theorem dX11_pick_15 : decode M_X11_pick.2.2.1 15 = .ok (.aload_n 0, 1) := by decide +kernel
theorem dX11_pick_16 : decode M_X11_pick.2.2.1 16 = .ok (.getfield 59, 3) := by decide +kernel
theorem dX11_pick_19 : decode M_X11_pick.2.2.1 19 = .ok (.iload_n 1, 1) := by decide +kernel
theorem dX11_pick_20 : decode M_X11_pick.2.2.1 20 = .ok (.invokevirtual 315, 3) := by decide +kernel
theorem dX11_pick_23 : decode M_X11_pick.2.2.1 23 = .ok (.ifCond .eq 13, 3) := by decide +kernel
theorem dX11_pick_26 : decode M_X11_pick.2.2.1 26 = .ok (.aload_n 0, 1) := by decide +kernel
theorem dX11_pick_27 : decode M_X11_pick.2.2.1 27 = .ok (.getfield 59, 3) := by decide +kernel
theorem dX11_pick_30 : decode M_X11_pick.2.2.1 30 = .ok (.getfield 312, 3) := by decide +kernel
theorem dX11_pick_33 : decode M_X11_pick.2.2.1 33 = .ok (.goto 5, 3) := by decide +kernel
theorem dX11_pick_36 : decode M_X11_pick.2.2.1 36 = .ok (.bipush (-2), 2) := by decide +kernel
theorem dX11_pick_38 : decode M_X11_pick.2.2.1 38 = .ok (.ireturn, 1) := by decide +kernel
theorem dX11_parted_0 : decode M_X11_parted.2.2.1 0 = .ok (.iload_n 1, 1) := by decide +kernel
theorem dX11_parted_1 : decode M_X11_parted.2.2.1 1 = .ok (.iconst 0, 1) := by decide +kernel
theorem dX11_parted_2 : decode M_X11_parted.2.2.1 2 = .ok (.sipush 9999, 3) := by decide +kernel
theorem dX11_parted_5 : decode M_X11_parted.2.2.1 5 = .ok (.invokestatic 94, 3) := by decide +kernel
theorem dX11_parted_8 : decode M_X11_parted.2.2.1 8 = .ok (.ifCond .eq 14, 3) := by decide +kernel
theorem dX11_parted_11 : decode M_X11_parted.2.2.1 11 = .ok (.aload_n 0, 1) := by decide +kernel
theorem dX11_parted_12 : decode M_X11_parted.2.2.1 12 = .ok (.getfield 59, 3) := by decide +kernel
theorem dX11_parted_15 : decode M_X11_parted.2.2.1 15 = .ok (.iload_n 1, 1) := by decide +kernel
theorem dX11_parted_16 : decode M_X11_parted.2.2.1 16 = .ok (.invokevirtual 318, 3) := by decide +kernel
theorem dX11_parted_19 : decode M_X11_parted.2.2.1 19 = .ok (.goto 4, 3) := by decide +kernel
theorem dX11_parted_22 : decode M_X11_parted.2.2.1 22 = .ok (.iconst (-1), 1) := by decide +kernel
theorem dX11_parted_23 : decode M_X11_parted.2.2.1 23 = .ok (.ireturn, 1) := by decide +kernel
theorem dX11_couples_0 : decode M_X11_couples.2.2.1 0 = .ok (.iload_n 1, 1) := by decide +kernel
theorem dX11_couples_1 : decode M_X11_couples.2.2.1 1 = .ok (.iconst 0, 1) := by decide +kernel
theorem dX11_couples_2 : decode M_X11_couples.2.2.1 2 = .ok (.bipush 55, 2) := by decide +kernel
theorem dX11_couples_4 : decode M_X11_couples.2.2.1 4 = .ok (.invokestatic 94, 3) := by decide +kernel
theorem dX11_couples_7 : decode M_X11_couples.2.2.1 7 = .ok (.ifCond .eq 35, 3) := by decide +kernel
theorem dX11_couples_10 : decode M_X11_couples.2.2.1 10 = .ok (.iload_n 2, 1) := by decide +kernel
theorem dX11_couples_11 : decode M_X11_couples.2.2.1 11 = .ok (.iconst 0, 1) := by decide +kernel
theorem dX11_couples_12 : decode M_X11_couples.2.2.1 12 = .ok (.bipush 55, 2) := by decide +kernel
theorem dX11_couples_14 : decode M_X11_couples.2.2.1 14 = .ok (.invokestatic 94, 3) := by decide +kernel
theorem dX11_couples_17 : decode M_X11_couples.2.2.1 17 = .ok (.ifCond .eq 25, 3) := by decide +kernel
theorem dX11_couples_20 : decode M_X11_couples.2.2.1 20 = .ok (.iload_n 3, 1) := by decide +kernel
theorem dX11_couples_21 : decode M_X11_couples.2.2.1 21 = .ok (.iconst 0, 1) := by decide +kernel
theorem dX11_couples_22 : decode M_X11_couples.2.2.1 22 = .ok (.sipush 999, 3) := by decide +kernel
theorem dX11_couples_25 : decode M_X11_couples.2.2.1 25 = .ok (.invokestatic 94, 3) := by decide +kernel
theorem dX11_couples_28 : decode M_X11_couples.2.2.1 28 = .ok (.ifCond .eq 14, 3) := by decide +kernel
theorem dX11_couples_31 : decode M_X11_couples.2.2.1 31 = .ok (.aload_n 0, 1) := by decide +kernel
theorem dX11_couples_32 : decode M_X11_couples.2.2.1 32 = .ok (.getfield 59, 3) := by decide +kernel
theorem dX11_couples_35 : decode M_X11_couples.2.2.1 35 = .ok (.getfield 312, 3) := by decide +kernel
theorem dX11_couples_38 : decode M_X11_couples.2.2.1 38 = .ok (.iconst 4, 1) := by decide +kernel
theorem dX11_couples_39 : decode M_X11_couples.2.2.1 39 = .ok (.if_icmp .eq 5, 3) := by decide +kernel
theorem dX11_couples_42 : decode M_X11_couples.2.2.1 42 = .ok (.iconst (-1), 1) := by decide +kernel
theorem dX11_couples_43 : decode M_X11_couples.2.2.1 43 = .ok (.ireturn, 1) := by decide +kernel
theorem dX11_couples_44 : decode M_X11_couples.2.2.1 44 = .ok (.aload_n 0, 1) := by decide +kernel
theorem dX11_couples_45 : decode M_X11_couples.2.2.1 45 = .ok (.getfield 53, 3) := by decide +kernel
theorem dX11_couples_48 : decode M_X11_couples.2.2.1 48 = .ok (.aload_n 0, 1) := by decide +kernel
theorem dX11_couples_49 : decode M_X11_couples.2.2.1 49 = .ok (.getfield 49, 3) := by decide +kernel
theorem dX11_couples_52 : decode M_X11_couples.2.2.1 52 = .ok (.isub, 1) := by decide +kernel
theorem dX11_couples_53 : decode M_X11_couples.2.2.1 53 = .ok (.istore 4, 2) := by decide +kernel
theorem dX11_couples_55 : decode M_X11_couples.2.2.1 55 = .ok (.aload_n 0, 1) := by decide +kernel
theorem dX11_couples_56 : decode M_X11_couples.2.2.1 56 = .ok (.getfield 59, 3) := by decide +kernel
theorem dX11_couples_59 : decode M_X11_couples.2.2.1 59 = .ok (.iload 4, 2) := by decide +kernel
theorem dX11_couples_61 : decode M_X11_couples.2.2.1 61 = .ok (.iload_n 1, 1) := by decide +kernel
theorem dX11_couples_62 : decode M_X11_couples.2.2.1 62 = .ok (.imul, 1) := by decide +kernel
theorem dX11_couples_63 : decode M_X11_couples.2.2.1 63 = .ok (.iload 4, 2) := by decide +kernel
theorem dX11_couples_65 : decode M_X11_couples.2.2.1 65 = .ok (.iload_n 2, 1) := by decide +kernel
theorem dX11_couples_66 : decode M_X11_couples.2.2.1 66 = .ok (.imul, 1) := by decide +kernel
theorem dX11_couples_67 : decode M_X11_couples.2.2.1 67 = .ok (.iload_n 3, 1) := by decide +kernel
theorem dX11_couples_68 : decode M_X11_couples.2.2.1 68 = .ok (.invokevirtual 321, 3) := by decide +kernel
theorem dX11_couples_71 : decode M_X11_couples.2.2.1 71 = .ok (.ireturn, 1) := by decide +kernel
theorem dX11_entry_0 : decode M_X11_entry.2.2.1 0 = .ok (.iload_n 1, 1) := by decide +kernel
theorem dX11_entry_1 : decode M_X11_entry.2.2.1 1 = .ok (.iconst 0, 1) := by decide +kernel
theorem dX11_entry_2 : decode M_X11_entry.2.2.1 2 = .ok (.iconst 1, 1) := by decide +kernel
theorem dX11_entry_3 : decode M_X11_entry.2.2.1 3 = .ok (.invokestatic 94, 3) := by decide +kernel
theorem dX11_entry_6 : decode M_X11_entry.2.2.1 6 = .ok (.ifCond .eq 24, 3) := by decide +kernel
theorem dX11_entry_9 : decode M_X11_entry.2.2.1 9 = .ok (.iload_n 2, 1) := by decide +kernel
theorem dX11_entry_10 : decode M_X11_entry.2.2.1 10 = .ok (.iconst 0, 1) := by decide +kernel
theorem dX11_entry_11 : decode M_X11_entry.2.2.1 11 = .ok (.sipush 9999, 3) := by decide +kernel
theorem dX11_entry_14 : decode M_X11_entry.2.2.1 14 = .ok (.invokestatic 94, 3) := by decide +kernel
theorem dX11_entry_17 : decode M_X11_entry.2.2.1 17 = .ok (.ifCond .eq 13, 3) := by decide +kernel
theorem dX11_entry_20 : decode M_X11_entry.2.2.1 20 = .ok (.iload_n 3, 1) := by decide +kernel
theorem dX11_entry_21 : decode M_X11_entry.2.2.1 21 = .ok (.iconst 0, 1) := by decide +kernel
theorem dX11_entry_22 : decode M_X11_entry.2.2.1 22 = .ok (.bipush 23, 2) := by decide +kernel
theorem dX11_entry_24 : decode M_X11_entry.2.2.1 24 = .ok (.invokestatic 94, 3) := by decide +kernel
theorem dX11_entry_27 : decode M_X11_entry.2.2.1 27 = .ok (.ifCond .ne 5, 3) := by decide +kernel
theorem dX11_entry_30 : decode M_X11_entry.2.2.1 30 = .ok (.iconst (-1), 1) := by decide +kernel
theorem dX11_entry_31 : decode M_X11_entry.2.2.1 31 = .ok (.ireturn, 1) := by decide +kernel
theorem dX11_entry_32 : decode M_X11_entry.2.2.1 32 = .ok (.iload 4, 2) := by decide +kernel
theorem dX11_entry_34 : decode M_X11_entry.2.2.1 34 = .ok (.iconst 0, 1) := by decide +kernel
theorem dX11_entry_35 : decode M_X11_entry.2.2.1 35 = .ok (.sipush 1599, 3) := by decide +kernel
theorem dX11_entry_38 : decode M_X11_entry.2.2.1 38 = .ok (.invokestatic 94, 3) := by decide +kernel
theorem dX11_entry_41 : decode M_X11_entry.2.2.1 41 = .ok (.ifCond .eq 15, 3) := by decide +kernel
theorem dX11_entry_44 : decode M_X11_entry.2.2.1 44 = .ok (.iload 5, 2) := by decide +kernel
theorem dX11_entry_46 : decode M_X11_entry.2.2.1 46 = .ok (.iconst 0, 1) := by decide +kernel
theorem dX11_entry_47 : decode M_X11_entry.2.2.1 47 = .ok (.sipush 999, 3) := by decide +kernel
theorem dX11_entry_50 : decode M_X11_entry.2.2.1 50 = .ok (.invokestatic 94, 3) := by decide +kernel
theorem dX11_entry_53 : decode M_X11_entry.2.2.1 53 = .ok (.ifCond .ne 5, 3) := by decide +kernel
theorem dX11_entry_56 : decode M_X11_entry.2.2.1 56 = .ok (.iconst (-1), 1) := by decide +kernel
theorem dX11_entry_57 : decode M_X11_entry.2.2.1 57 = .ok (.ireturn, 1) := by decide +kernel
theorem dX11_entry_58 : decode M_X11_entry.2.2.1 58 = .ok (.iload_n 1, 1) := by decide +kernel
theorem dX11_entry_59 : decode M_X11_entry.2.2.1 59 = .ok (.ifCond .ne 10, 3) := by decide +kernel
theorem dX11_entry_62 : decode M_X11_entry.2.2.1 62 = .ok (.aload_n 0, 1) := by decide +kernel
theorem dX11_entry_63 : decode M_X11_entry.2.2.1 63 = .ok (.getfield 66, 3) := by decide +kernel
theorem dX11_entry_66 : decode M_X11_entry.2.2.1 66 = .ok (.goto 7, 3) := by decide +kernel
theorem dX11_entry_69 : decode M_X11_entry.2.2.1 69 = .ok (.aload_n 0, 1) := by decide +kernel
theorem dX11_entry_70 : decode M_X11_entry.2.2.1 70 = .ok (.getfield 70, 3) := by decide +kernel
theorem dX11_entry_73 : decode M_X11_entry.2.2.1 73 = .ok (.bipush 24, 2) := by decide +kernel
theorem dX11_entry_75 : decode M_X11_entry.2.2.1 75 = .ok (.iload_n 2, 1) := by decide +kernel
theorem dX11_entry_76 : decode M_X11_entry.2.2.1 76 = .ok (.imul, 1) := by decide +kernel
theorem dX11_entry_77 : decode M_X11_entry.2.2.1 77 = .ok (.iload_n 3, 1) := by decide +kernel
theorem dX11_entry_78 : decode M_X11_entry.2.2.1 78 = .ok (.iadd, 1) := by decide +kernel
theorem dX11_entry_79 : decode M_X11_entry.2.2.1 79 = .ok (.iload 4, 2) := by decide +kernel
theorem dX11_entry_81 : decode M_X11_entry.2.2.1 81 = .ok (.iload 5, 2) := by decide +kernel
theorem dX11_entry_83 : decode M_X11_entry.2.2.1 83 = .ok (.invokevirtual 325, 3) := by decide +kernel
theorem dX11_entry_86 : decode M_X11_entry.2.2.1 86 = .ok (.ireturn, 1) := by decide +kernel
theorem dX11_joined_0 : decode M_X11_joined.2.2.1 0 = .ok (.iload_n 1, 1) := by decide +kernel
theorem dX11_joined_1 : decode M_X11_joined.2.2.1 1 = .ok (.iconst 0, 1) := by decide +kernel
theorem dX11_joined_2 : decode M_X11_joined.2.2.1 2 = .ok (.sipush 999, 3) := by decide +kernel
theorem dX11_joined_5 : decode M_X11_joined.2.2.1 5 = .ok (.invokestatic 94, 3) := by decide +kernel
theorem dX11_joined_8 : decode M_X11_joined.2.2.1 8 = .ok (.ifCond .eq 24, 3) := by decide +kernel
theorem dX11_joined_11 : decode M_X11_joined.2.2.1 11 = .ok (.iload_n 2, 1) := by decide +kernel
theorem dX11_joined_12 : decode M_X11_joined.2.2.1 12 = .ok (.iconst 0, 1) := by decide +kernel
theorem dX11_joined_13 : decode M_X11_joined.2.2.1 13 = .ok (.bipush 55, 2) := by decide +kernel
theorem dX11_joined_15 : decode M_X11_joined.2.2.1 15 = .ok (.invokestatic 94, 3) := by decide +kernel
theorem dX11_joined_18 : decode M_X11_joined.2.2.1 18 = .ok (.ifCond .eq 14, 3) := by decide +kernel
theorem dX11_joined_21 : decode M_X11_joined.2.2.1 21 = .ok (.iload_n 3, 1) := by decide +kernel
theorem dX11_joined_22 : decode M_X11_joined.2.2.1 22 = .ok (.iconst 0, 1) := by decide +kernel
theorem dX11_joined_23 : decode M_X11_joined.2.2.1 23 = .ok (.sipush 999, 3) := by decide +kernel
theorem dX11_joined_26 : decode M_X11_joined.2.2.1 26 = .ok (.invokestatic 94, 3) := by decide +kernel
theorem dX11_joined_29 : decode M_X11_joined.2.2.1 29 = .ok (.ifCond .ne 5, 3) := by decide +kernel
theorem dX11_joined_32 : decode M_X11_joined.2.2.1 32 = .ok (.iconst (-1), 1) := by decide +kernel
theorem dX11_joined_33 : decode M_X11_joined.2.2.1 33 = .ok (.ireturn, 1) := by decide +kernel
theorem dX11_joined_34 : decode M_X11_joined.2.2.1 34 = .ok (.aload_n 0, 1) := by decide +kernel
theorem dX11_joined_35 : decode M_X11_joined.2.2.1 35 = .ok (.getfield 70, 3) := by decide +kernel
theorem dX11_joined_38 : decode M_X11_joined.2.2.1 38 = .ok (.invokevirtual 327, 3) := by decide +kernel
theorem dX11_joined_41 : decode M_X11_joined.2.2.1 41 = .ok (.aload_n 0, 1) := by decide +kernel
theorem dX11_joined_42 : decode M_X11_joined.2.2.1 42 = .ok (.getfield 66, 3) := by decide +kernel
theorem dX11_joined_45 : decode M_X11_joined.2.2.1 45 = .ok (.getfield 330, 3) := by decide +kernel
theorem dX11_joined_48 : decode M_X11_joined.2.2.1 48 = .ok (.aload_n 0, 1) := by decide +kernel
theorem dX11_joined_49 : decode M_X11_joined.2.2.1 49 = .ok (.getfield 70, 3) := by decide +kernel
theorem dX11_joined_52 : decode M_X11_joined.2.2.1 52 = .ok (.getfield 330, 3) := by decide +kernel
theorem dX11_joined_55 : decode M_X11_joined.2.2.1 55 = .ok (.iadd, 1) := by decide +kernel
theorem dX11_joined_56 : decode M_X11_joined.2.2.1 56 = .ok (.istore 4, 2) := by decide +kernel
theorem dX11_joined_58 : decode M_X11_joined.2.2.1 58 = .ok (.iconst 0, 1) := by decide +kernel
theorem dX11_joined_59 : decode M_X11_joined.2.2.1 59 = .ok (.istore 5, 2) := by decide +kernel
theorem dX11_joined_61 : decode M_X11_joined.2.2.1 61 = .ok (.iload 5, 2) := by decide +kernel
theorem dX11_joined_63 : decode M_X11_joined.2.2.1 63 = .ok (.aload_n 0, 1) := by decide +kernel
theorem dX11_joined_64 : decode M_X11_joined.2.2.1 64 = .ok (.getfield 66, 3) := by decide +kernel
theorem dX11_joined_67 : decode M_X11_joined.2.2.1 67 = .ok (.getfield 330, 3) := by decide +kernel
theorem dX11_joined_70 : decode M_X11_joined.2.2.1 70 = .ok (.if_icmp .ge 24, 3) := by decide +kernel
theorem dX11_joined_73 : decode M_X11_joined.2.2.1 73 = .ok (.aload_n 0, 1) := by decide +kernel
theorem dX11_joined_74 : decode M_X11_joined.2.2.1 74 = .ok (.iload 5, 2) := by decide +kernel
theorem dX11_joined_76 : decode M_X11_joined.2.2.1 76 = .ok (.iload_n 1, 1) := by decide +kernel
theorem dX11_joined_77 : decode M_X11_joined.2.2.1 77 = .ok (.iload_n 2, 1) := by decide +kernel
theorem dX11_joined_78 : decode M_X11_joined.2.2.1 78 = .ok (.iload_n 3, 1) := by decide +kernel
theorem dX11_joined_79 : decode M_X11_joined.2.2.1 79 = .ok (.invokevirtual 333, 3) := by decide +kernel
theorem dX11_joined_82 : decode M_X11_joined.2.2.1 82 = .ok (.ifCond .eq 6, 3) := by decide +kernel
theorem dX11_joined_85 : decode M_X11_joined.2.2.1 85 = .ok (.iinc 4 (-1), 3) := by decide +kernel
theorem dX11_joined_88 : decode M_X11_joined.2.2.1 88 = .ok (.iinc 5 1, 3) := by decide +kernel
theorem dX11_joined_91 : decode M_X11_joined.2.2.1 91 = .ok (.goto (-30), 3) := by decide +kernel
theorem dX11_joined_94 : decode M_X11_joined.2.2.1 94 = .ok (.iload 4, 2) := by decide +kernel
theorem dX11_joined_96 : decode M_X11_joined.2.2.1 96 = .ok (.ireturn, 1) := by decide +kernel
theorem dX11_quarries_0 : decode M_X11_quarries.2.2.1 0 = .ok (.iload_n 1, 1) := by decide +kernel
theorem dX11_quarries_1 : decode M_X11_quarries.2.2.1 1 = .ok (.iconst 0, 1) := by decide +kernel
theorem dX11_quarries_2 : decode M_X11_quarries.2.2.1 2 = .ok (.bipush 55, 2) := by decide +kernel
theorem dX11_quarries_4 : decode M_X11_quarries.2.2.1 4 = .ok (.invokestatic 94, 3) := by decide +kernel
theorem dX11_quarries_7 : decode M_X11_quarries.2.2.1 7 = .ok (.ifCond .eq 22, 3) := by decide +kernel
theorem dX11_quarries_10 : decode M_X11_quarries.2.2.1 10 = .ok (.iload_n 2, 1) := by decide +kernel
theorem dX11_quarries_11 : decode M_X11_quarries.2.2.1 11 = .ok (.iconst 1, 1) := by decide +kernel
theorem dX11_quarries_12 : decode M_X11_quarries.2.2.1 12 = .ok (.bipush 100, 2) := by decide +kernel
theorem dX11_quarries_14 : decode M_X11_quarries.2.2.1 14 = .ok (.invokestatic 94, 3) := by decide +kernel
theorem dX11_quarries_17 : decode M_X11_quarries.2.2.1 17 = .ok (.ifCond .eq 12, 3) := by decide +kernel
theorem dX11_quarries_20 : decode M_X11_quarries.2.2.1 20 = .ok (.iload_n 3, 1) := by decide +kernel
theorem dX11_quarries_21 : decode M_X11_quarries.2.2.1 21 = .ok (.iconst 0, 1) := by decide +kernel
theorem dX11_quarries_22 : decode M_X11_quarries.2.2.1 22 = .ok (.iconst 1, 1) := by decide +kernel
theorem dX11_quarries_23 : decode M_X11_quarries.2.2.1 23 = .ok (.invokestatic 94, 3) := by decide +kernel
theorem dX11_quarries_26 : decode M_X11_quarries.2.2.1 26 = .ok (.ifCond .ne 5, 3) := by decide +kernel
theorem dX11_quarries_29 : decode M_X11_quarries.2.2.1 29 = .ok (.iconst (-1), 1) := by decide +kernel
theorem dX11_quarries_30 : decode M_X11_quarries.2.2.1 30 = .ok (.ireturn, 1) := by decide +kernel
theorem dX11_quarries_31 : decode M_X11_quarries.2.2.1 31 = .ok (.iconst 0, 1) := by decide +kernel
theorem dX11_quarries_32 : decode M_X11_quarries.2.2.1 32 = .ok (.istore 4, 2) := by decide +kernel
theorem dX11_quarries_34 : decode M_X11_quarries.2.2.1 34 = .ok (.iconst 0, 1) := by decide +kernel
theorem dX11_quarries_35 : decode M_X11_quarries.2.2.1 35 = .ok (.istore 5, 2) := by decide +kernel
theorem dX11_quarries_37 : decode M_X11_quarries.2.2.1 37 = .ok (.iload 5, 2) := by decide +kernel
theorem dX11_quarries_39 : decode M_X11_quarries.2.2.1 39 = .ok (.sipush 1600, 3) := by decide +kernel
theorem dX11_quarries_42 : decode M_X11_quarries.2.2.1 42 = .ok (.if_icmp .ge 31, 3) := by decide +kernel
theorem dX11_quarries_45 : decode M_X11_quarries.2.2.1 45 = .ok (.aload_n 0, 1) := by decide +kernel
theorem dX11_quarries_46 : decode M_X11_quarries.2.2.1 46 = .ok (.iload 5, 2) := by decide +kernel
theorem dX11_quarries_48 : decode M_X11_quarries.2.2.1 48 = .ok (.iload_n 1, 1) := by decide +kernel
theorem dX11_quarries_49 : decode M_X11_quarries.2.2.1 49 = .ok (.iload_n 2, 1) := by decide +kernel
theorem dX11_quarries_50 : decode M_X11_quarries.2.2.1 50 = .ok (.invokevirtual 337, 3) := by decide +kernel
theorem dX11_quarries_53 : decode M_X11_quarries.2.2.1 53 = .ok (.ifCond .eq 14, 3) := by decide +kernel
theorem dX11_quarries_56 : decode M_X11_quarries.2.2.1 56 = .ok (.iload_n 3, 1) := by decide +kernel
theorem dX11_quarries_57 : decode M_X11_quarries.2.2.1 57 = .ok (.iconst 1, 1) := by decide +kernel
theorem dX11_quarries_58 : decode M_X11_quarries.2.2.1 58 = .ok (.if_icmp .ne 6, 3) := by decide +kernel
theorem dX11_quarries_61 : decode M_X11_quarries.2.2.1 61 = .ok (.iload 5, 2) := by decide +kernel
theorem dX11_quarries_63 : decode M_X11_quarries.2.2.1 63 = .ok (.ireturn, 1) := by decide +kernel
theorem dX11_quarries_64 : decode M_X11_quarries.2.2.1 64 = .ok (.iinc 4 1, 3) := by decide +kernel
theorem dX11_quarries_67 : decode M_X11_quarries.2.2.1 67 = .ok (.iinc 5 1, 3) := by decide +kernel
theorem dX11_quarries_70 : decode M_X11_quarries.2.2.1 70 = .ok (.goto (-33), 3) := by decide +kernel
theorem dX11_quarries_73 : decode M_X11_quarries.2.2.1 73 = .ok (.iload_n 3, 1) := by decide +kernel
theorem dX11_quarries_74 : decode M_X11_quarries.2.2.1 74 = .ok (.iconst 1, 1) := by decide +kernel
theorem dX11_quarries_75 : decode M_X11_quarries.2.2.1 75 = .ok (.if_icmp .ne 7, 3) := by decide +kernel
theorem dX11_quarries_78 : decode M_X11_quarries.2.2.1 78 = .ok (.iconst (-1), 1) := by decide +kernel
theorem dX11_quarries_79 : decode M_X11_quarries.2.2.1 79 = .ok (.goto 5, 3) := by decide +kernel
theorem dX11_quarries_82 : decode M_X11_quarries.2.2.1 82 = .ok (.iload 4, 2) := by decide +kernel
theorem dX11_quarries_84 : decode M_X11_quarries.2.2.1 84 = .ok (.ireturn, 1) := by decide +kernel
theorem dX11_felt_0 : decode M_X11_felt.2.2.1 0 = .ok (.iload_n 1, 1) := by decide +kernel
theorem dX11_felt_1 : decode M_X11_felt.2.2.1 1 = .ok (.iconst 0, 1) := by decide +kernel
theorem dX11_felt_2 : decode M_X11_felt.2.2.1 2 = .ok (.sipush 1599, 3) := by decide +kernel
theorem dX11_felt_5 : decode M_X11_felt.2.2.1 5 = .ok (.invokestatic 94, 3) := by decide +kernel
theorem dX11_felt_8 : decode M_X11_felt.2.2.1 8 = .ok (.ifCond .eq 31, 3) := by decide +kernel
theorem dX11_felt_11 : decode M_X11_felt.2.2.1 11 = .ok (.iload_n 2, 1) := by decide +kernel
theorem dX11_felt_12 : decode M_X11_felt.2.2.1 12 = .ok (.iconst 0, 1) := by decide +kernel
theorem dX11_felt_13 : decode M_X11_felt.2.2.1 13 = .ok (.aload_n 0, 1) := by decide +kernel
theorem dX11_felt_14 : decode M_X11_felt.2.2.1 14 = .ok (.getfield 66, 3) := by decide +kernel
theorem dX11_felt_17 : decode M_X11_felt.2.2.1 17 = .ok (.getfield 330, 3) := by decide +kernel
theorem dX11_felt_20 : decode M_X11_felt.2.2.1 20 = .ok (.iconst 1, 1) := by decide +kernel
theorem dX11_felt_21 : decode M_X11_felt.2.2.1 21 = .ok (.isub, 1) := by decide +kernel
theorem dX11_felt_22 : decode M_X11_felt.2.2.1 22 = .ok (.invokestatic 94, 3) := by decide +kernel
theorem dX11_felt_25 : decode M_X11_felt.2.2.1 25 = .ok (.ifCond .eq 14, 3) := by decide +kernel
theorem dX11_felt_28 : decode M_X11_felt.2.2.1 28 = .ok (.iload_n 3, 1) := by decide +kernel
theorem dX11_felt_29 : decode M_X11_felt.2.2.1 29 = .ok (.iconst 0, 1) := by decide +kernel
theorem dX11_felt_30 : decode M_X11_felt.2.2.1 30 = .ok (.sipush 999, 3) := by decide +kernel
theorem dX11_felt_33 : decode M_X11_felt.2.2.1 33 = .ok (.invokestatic 94, 3) := by decide +kernel
theorem dX11_felt_36 : decode M_X11_felt.2.2.1 36 = .ok (.ifCond .ne 5, 3) := by decide +kernel
theorem dX11_felt_39 : decode M_X11_felt.2.2.1 39 = .ok (.iconst (-1), 1) := by decide +kernel
theorem dX11_felt_40 : decode M_X11_felt.2.2.1 40 = .ok (.ireturn, 1) := by decide +kernel
theorem dX11_felt_41 : decode M_X11_felt.2.2.1 41 = .ok (.aload_n 0, 1) := by decide +kernel
theorem dX11_felt_42 : decode M_X11_felt.2.2.1 42 = .ok (.getfield 76, 3) := by decide +kernel
theorem dX11_felt_45 : decode M_X11_felt.2.2.1 45 = .ok (.iload_n 1, 1) := by decide +kernel
theorem dX11_felt_46 : decode M_X11_felt.2.2.1 46 = .ok (.iload_n 2, 1) := by decide +kernel
theorem dX11_felt_47 : decode M_X11_felt.2.2.1 47 = .ok (.iload_n 3, 1) := by decide +kernel
theorem dX11_felt_48 : decode M_X11_felt.2.2.1 48 = .ok (.invokevirtual 340, 3) := by decide +kernel
theorem dX11_felt_51 : decode M_X11_felt.2.2.1 51 = .ok (.ifCond .eq 13, 3) := by decide +kernel
theorem dX11_felt_54 : decode M_X11_felt.2.2.1 54 = .ok (.aload_n 0, 1) := by decide +kernel
theorem dX11_felt_55 : decode M_X11_felt.2.2.1 55 = .ok (.getfield 76, 3) := by decide +kernel
theorem dX11_felt_58 : decode M_X11_felt.2.2.1 58 = .ok (.getfield 342, 3) := by decide +kernel
theorem dX11_felt_61 : decode M_X11_felt.2.2.1 61 = .ok (.goto 4, 3) := by decide +kernel
theorem dX11_felt_64 : decode M_X11_felt.2.2.1 64 = .ok (.iconst (-1), 1) := by decide +kernel
theorem dX11_felt_65 : decode M_X11_felt.2.2.1 65 = .ok (.ireturn, 1) := by decide +kernel
theorem dX11_shaken_0 : decode M_X11_shaken.2.2.1 0 = .ok (.iload_n 1, 1) := by decide +kernel
theorem dX11_shaken_1 : decode M_X11_shaken.2.2.1 1 = .ok (.ifCond .eq 8, 3) := by decide +kernel
theorem dX11_shaken_4 : decode M_X11_shaken.2.2.1 4 = .ok (.iload_n 1, 1) := by decide +kernel
theorem dX11_shaken_5 : decode M_X11_shaken.2.2.1 5 = .ok (.iconst 1, 1) := by decide +kernel
theorem dX11_shaken_6 : decode M_X11_shaken.2.2.1 6 = .ok (.if_icmp .ne 17, 3) := by decide +kernel
theorem dX11_shaken_9 : decode M_X11_shaken.2.2.1 9 = .ok (.aload_n 0, 1) := by decide +kernel
theorem dX11_shaken_10 : decode M_X11_shaken.2.2.1 10 = .ok (.iload_n 1, 1) := by decide +kernel
theorem dX11_shaken_11 : decode M_X11_shaken.2.2.1 11 = .ok (.ifCond .ne 7, 3) := by decide +kernel
theorem dX11_shaken_14 : decode M_X11_shaken.2.2.1 14 = .ok (.iconst 1, 1) := by decide +kernel
theorem dX11_shaken_15 : decode M_X11_shaken.2.2.1 15 = .ok (.goto 4, 3) := by decide +kernel
theorem dX11_shaken_18 : decode M_X11_shaken.2.2.1 18 = .ok (.iconst 0, 1) := by decide +kernel
theorem dX11_shaken_19 : decode M_X11_shaken.2.2.1 19 = .ok (.invokevirtual 345, 3) := by decide +kernel
theorem dX11_shaken_22 : decode M_X11_shaken.2.2.1 22 = .ok (.ireturn, 1) := by decide +kernel
theorem dX11_shaken_23 : decode M_X11_shaken.2.2.1 23 = .ok (.iload_n 1, 1) := by decide +kernel
theorem dX11_shaken_24 : decode M_X11_shaken.2.2.1 24 = .ok (.bipush 10, 2) := by decide +kernel
theorem dX11_shaken_26 : decode M_X11_shaken.2.2.1 26 = .ok (.bipush 9, 2) := by decide +kernel
theorem dX11_shaken_28 : decode M_X11_shaken.2.2.1 28 = .ok (.aload_n 0, 1) := by decide +kernel
theorem dX11_shaken_29 : decode M_X11_shaken.2.2.1 29 = .ok (.getfield 76, 3) := by decide +kernel
theorem dX11_shaken_32 : decode M_X11_shaken.2.2.1 32 = .ok (.getfield 342, 3) := by decide +kernel
theorem dX11_shaken_35 : decode M_X11_shaken.2.2.1 35 = .ok (.iadd, 1) := by decide +kernel
theorem dX11_shaken_36 : decode M_X11_shaken.2.2.1 36 = .ok (.invokestatic 94, 3) := by decide +kernel
theorem dX11_shaken_39 : decode M_X11_shaken.2.2.1 39 = .ok (.ifCond .ne 6, 3) := by decide +kernel
theorem dX11_shaken_42 : decode M_X11_shaken.2.2.1 42 = .ok (.ldc 110, 2) := by decide +kernel
theorem dX11_shaken_44 : decode M_X11_shaken.2.2.1 44 = .ok (.ireturn, 1) := by decide +kernel
theorem dX11_shaken_45 : decode M_X11_shaken.2.2.1 45 = .ok (.aload_n 0, 1) := by decide +kernel
theorem dX11_shaken_46 : decode M_X11_shaken.2.2.1 46 = .ok (.iload_n 1, 1) := by decide +kernel
theorem dX11_shaken_47 : decode M_X11_shaken.2.2.1 47 = .ok (.bipush 10, 2) := by decide +kernel
theorem dX11_shaken_49 : decode M_X11_shaken.2.2.1 49 = .ok (.isub, 1) := by decide +kernel
theorem dX11_shaken_50 : decode M_X11_shaken.2.2.1 50 = .ok (.invokevirtual 349, 3) := by decide +kernel
theorem dX11_shaken_53 : decode M_X11_shaken.2.2.1 53 = .ok (.ireturn, 1) := by decide +kernel
theorem dX11_look_0 : decode M_X11_look.2.2.1 0 = .ok (.iload_n 1, 1) := by decide +kernel
theorem dX11_look_1 : decode M_X11_look.2.2.1 1 = .ok (.tableswitch 92 0 5 #[39, 44, 49, 60, 76, 84], 39) := by decide +kernel
theorem dX11_look_40 : decode M_X11_look.2.2.1 40 = .ok (.aload_n 0, 1) := by decide +kernel
theorem dX11_look_41 : decode M_X11_look.2.2.1 41 = .ok (.getfield 84, 3) := by decide +kernel
theorem dX11_look_44 : decode M_X11_look.2.2.1 44 = .ok (.ireturn, 1) := by decide +kernel
theorem dX11_look_45 : decode M_X11_look.2.2.1 45 = .ok (.aload_n 0, 1) := by decide +kernel
theorem dX11_look_46 : decode M_X11_look.2.2.1 46 = .ok (.getfield 226, 3) := by decide +kernel
theorem dX11_look_49 : decode M_X11_look.2.2.1 49 = .ok (.ireturn, 1) := by decide +kernel
theorem dX11_look_50 : decode M_X11_look.2.2.1 50 = .ok (.aload_n 0, 1) := by decide +kernel
theorem dX11_look_51 : decode M_X11_look.2.2.1 51 = .ok (.getfield 39, 3) := by decide +kernel
theorem dX11_look_54 : decode M_X11_look.2.2.1 54 = .ok (.getfield 196, 3) := by decide +kernel
theorem dX11_look_57 : decode M_X11_look.2.2.1 57 = .ok (.getfield 217, 3) := by decide +kernel
theorem dX11_look_60 : decode M_X11_look.2.2.1 60 = .ok (.ireturn, 1) := by decide +kernel
theorem dX11_look_61 : decode M_X11_look.2.2.1 61 = .ok (.aload_n 0, 1) := by decide +kernel
theorem dX11_look_62 : decode M_X11_look.2.2.1 62 = .ok (.getfield 66, 3) := by decide +kernel
theorem dX11_look_65 : decode M_X11_look.2.2.1 65 = .ok (.getfield 330, 3) := by decide +kernel
theorem dX11_look_68 : decode M_X11_look.2.2.1 68 = .ok (.aload_n 0, 1) := by decide +kernel
theorem dX11_look_69 : decode M_X11_look.2.2.1 69 = .ok (.getfield 70, 3) := by decide +kernel
theorem dX11_look_72 : decode M_X11_look.2.2.1 72 = .ok (.getfield 330, 3) := by decide +kernel
theorem dX11_look_75 : decode M_X11_look.2.2.1 75 = .ok (.iadd, 1) := by decide +kernel
theorem dX11_look_76 : decode M_X11_look.2.2.1 76 = .ok (.ireturn, 1) := by decide +kernel
theorem dX11_look_77 : decode M_X11_look.2.2.1 77 = .ok (.aload_n 0, 1) := by decide +kernel
theorem dX11_look_78 : decode M_X11_look.2.2.1 78 = .ok (.getfield 59, 3) := by decide +kernel
theorem dX11_look_81 : decode M_X11_look.2.2.1 81 = .ok (.getfield 312, 3) := by decide +kernel
theorem dX11_look_84 : decode M_X11_look.2.2.1 84 = .ok (.ireturn, 1) := by decide +kernel
theorem dX11_look_85 : decode M_X11_look.2.2.1 85 = .ok (.aload_n 0, 1) := by decide +kernel
theorem dX11_look_86 : decode M_X11_look.2.2.1 86 = .ok (.getfield 76, 3) := by decide +kernel
theorem dX11_look_89 : decode M_X11_look.2.2.1 89 = .ok (.getfield 342, 3) := by decide +kernel
theorem dX11_look_92 : decode M_X11_look.2.2.1 92 = .ok (.ireturn, 1) := by decide +kernel
theorem dX11_look_93 : decode M_X11_look.2.2.1 93 = .ok (.iconst (-1), 1) := by decide +kernel
theorem dX11_look_94 : decode M_X11_look.2.2.1 94 = .ok (.ireturn, 1) := by decide +kernel
theorem dX11_within_0 : decode M_X11_within.2.2.1 0 = .ok (.iload_n 0, 1) := by decide +kernel
theorem dX11_within_1 : decode M_X11_within.2.2.1 1 = .ok (.iload_n 1, 1) := by decide +kernel
theorem dX11_within_2 : decode M_X11_within.2.2.1 2 = .ok (.if_icmp .lt 12, 3) := by decide +kernel
theorem dX11_within_5 : decode M_X11_within.2.2.1 5 = .ok (.iload_n 0, 1) := by decide +kernel
theorem dX11_within_6 : decode M_X11_within.2.2.1 6 = .ok (.iload_n 2, 1) := by decide +kernel
theorem dX11_within_7 : decode M_X11_within.2.2.1 7 = .ok (.if_icmp .gt 7, 3) := by decide +kernel
theorem dX11_within_10 : decode M_X11_within.2.2.1 10 = .ok (.iconst 1, 1) := by decide +kernel
theorem dX11_within_11 : decode M_X11_within.2.2.1 11 = .ok (.goto 4, 3) := by decide +kernel
theorem dX11_within_14 : decode M_X11_within.2.2.1 14 = .ok (.iconst 0, 1) := by decide +kernel
theorem dX11_within_15 : decode M_X11_within.2.2.1 15 = .ok (.ireturn, 1) := by decide +kernel
theorem dX11_isCell_0 : decode M_X11_isCell.2.2.1 0 = .ok (.iload_n 0, 1) := by decide +kernel
theorem dX11_isCell_1 : decode M_X11_isCell.2.2.1 1 = .ok (.iconst 0, 1) := by decide +kernel
theorem dX11_isCell_2 : decode M_X11_isCell.2.2.1 2 = .ok (.bipush 39, 2) := by decide +kernel
theorem dX11_isCell_4 : decode M_X11_isCell.2.2.1 4 = .ok (.invokestatic 94, 3) := by decide +kernel
theorem dX11_isCell_7 : decode M_X11_isCell.2.2.1 7 = .ok (.ifCond .eq 17, 3) := by decide +kernel
theorem dX11_isCell_10 : decode M_X11_isCell.2.2.1 10 = .ok (.iload_n 1, 1) := by decide +kernel
theorem dX11_isCell_11 : decode M_X11_isCell.2.2.1 11 = .ok (.iconst 0, 1) := by decide +kernel
theorem dX11_isCell_12 : decode M_X11_isCell.2.2.1 12 = .ok (.bipush 39, 2) := by decide +kernel
theorem dX11_isCell_14 : decode M_X11_isCell.2.2.1 14 = .ok (.invokestatic 94, 3) := by decide +kernel
theorem dX11_isCell_17 : decode M_X11_isCell.2.2.1 17 = .ok (.ifCond .eq 7, 3) := by decide +kernel
theorem dX11_isCell_20 : decode M_X11_isCell.2.2.1 20 = .ok (.iconst 1, 1) := by decide +kernel
theorem dX11_isCell_21 : decode M_X11_isCell.2.2.1 21 = .ok (.goto 4, 3) := by decide +kernel
theorem dX11_isCell_24 : decode M_X11_isCell.2.2.1 24 = .ok (.iconst 0, 1) := by decide +kernel
theorem dX11_isCell_25 : decode M_X11_isCell.2.2.1 25 = .ok (.ireturn, 1) := by decide +kernel
theorem dX11_isSpan_0 : decode M_X11_isSpan.2.2.1 0 = .ok (.iload_n 0, 1) := by decide +kernel
theorem dX11_isSpan_1 : decode M_X11_isSpan.2.2.1 1 = .ok (.iconst 0, 1) := by decide +kernel
theorem dX11_isSpan_2 : decode M_X11_isSpan.2.2.1 2 = .ok (.ldc_w 352, 3) := by decide +kernel
theorem dX11_isSpan_5 : decode M_X11_isSpan.2.2.1 5 = .ok (.invokestatic 94, 3) := by decide +kernel
theorem dX11_isSpan_8 : decode M_X11_isSpan.2.2.1 8 = .ok (.ifCond .eq 18, 3) := by decide +kernel
theorem dX11_isSpan_11 : decode M_X11_isSpan.2.2.1 11 = .ok (.iload_n 1, 1) := by decide +kernel
theorem dX11_isSpan_12 : decode M_X11_isSpan.2.2.1 12 = .ok (.iload_n 0, 1) := by decide +kernel
theorem dX11_isSpan_13 : decode M_X11_isSpan.2.2.1 13 = .ok (.ldc_w 352, 3) := by decide +kernel
theorem dX11_isSpan_16 : decode M_X11_isSpan.2.2.1 16 = .ok (.invokestatic 94, 3) := by decide +kernel
theorem dX11_isSpan_19 : decode M_X11_isSpan.2.2.1 19 = .ok (.ifCond .eq 7, 3) := by decide +kernel
theorem dX11_isSpan_22 : decode M_X11_isSpan.2.2.1 22 = .ok (.iconst 1, 1) := by decide +kernel
theorem dX11_isSpan_23 : decode M_X11_isSpan.2.2.1 23 = .ok (.goto 4, 3) := by decide +kernel
theorem dX11_isSpan_26 : decode M_X11_isSpan.2.2.1 26 = .ok (.iconst 0, 1) := by decide +kernel
theorem dX11_isSpan_27 : decode M_X11_isSpan.2.2.1 27 = .ok (.ireturn, 1) := by decide +kernel
theorem dX11_mean_0 : decode M_X11_mean.2.2.1 0 = .ok (.iload_n 1, 1) := by decide +kernel
theorem dX11_mean_1 : decode M_X11_mean.2.2.1 1 = .ok (.ifCond .ne 8, 3) := by decide +kernel
theorem dX11_mean_4 : decode M_X11_mean.2.2.1 4 = .ok (.ldc 110, 2) := by decide +kernel
theorem dX11_mean_6 : decode M_X11_mean.2.2.1 6 = .ok (.goto 8, 3) := by decide +kernel
theorem dX11_mean_9 : decode M_X11_mean.2.2.1 9 = .ok (.iload_n 0, 1) := by decide +kernel
theorem dX11_mean_10 : decode M_X11_mean.2.2.1 10 = .ok (.iload_n 1, 1) := by decide +kernel
theorem dX11_mean_11 : decode M_X11_mean.2.2.1 11 = .ok (.invokestatic 177, 3) := by decide +kernel
theorem dX11_mean_14 : decode M_X11_mean.2.2.1 14 = .ok (.ireturn, 1) := by decide +kernel
theorem dX11_cellarOf_0 : decode M_X11_cellarOf.2.2.1 0 = .ok (.iload_n 1, 1) := by decide +kernel
theorem dX11_cellarOf_1 : decode M_X11_cellarOf.2.2.1 1 = .ok (.iconst 0, 1) := by decide +kernel
theorem dX11_cellarOf_2 : decode M_X11_cellarOf.2.2.1 2 = .ok (.aload_n 0, 1) := by decide +kernel
theorem dX11_cellarOf_3 : decode M_X11_cellarOf.2.2.1 3 = .ok (.getfield 84, 3) := by decide +kernel
theorem dX11_cellarOf_6 : decode M_X11_cellarOf.2.2.1 6 = .ok (.iconst 1, 1) := by decide +kernel
theorem dX11_cellarOf_7 : decode M_X11_cellarOf.2.2.1 7 = .ok (.isub, 1) := by decide +kernel
theorem dX11_cellarOf_8 : decode M_X11_cellarOf.2.2.1 8 = .ok (.invokestatic 94, 3) := by decide +kernel
theorem dX11_cellarOf_11 : decode M_X11_cellarOf.2.2.1 11 = .ok (.ifCond .eq 21, 3) := by decide +kernel
theorem dX11_cellarOf_14 : decode M_X11_cellarOf.2.2.1 14 = .ok (.iload_n 1, 1) := by decide +kernel
theorem dX11_cellarOf_15 : decode M_X11_cellarOf.2.2.1 15 = .ok (.aload_n 0, 1) := by decide +kernel
theorem dX11_cellarOf_16 : decode M_X11_cellarOf.2.2.1 16 = .ok (.getfield 18, 3) := by decide +kernel
theorem dX11_cellarOf_19 : decode M_X11_cellarOf.2.2.1 19 = .ok (.arraylength, 1) := by decide +kernel
theorem dX11_cellarOf_20 : decode M_X11_cellarOf.2.2.1 20 = .ok (.if_icmp .ge 12, 3) := by decide +kernel
theorem dX11_cellarOf_23 : decode M_X11_cellarOf.2.2.1 23 = .ok (.aload_n 0, 1) := by decide +kernel
theorem dX11_cellarOf_24 : decode M_X11_cellarOf.2.2.1 24 = .ok (.getfield 18, 3) := by decide +kernel
theorem dX11_cellarOf_27 : decode M_X11_cellarOf.2.2.1 27 = .ok (.iload_n 1, 1) := by decide +kernel
theorem dX11_cellarOf_28 : decode M_X11_cellarOf.2.2.1 28 = .ok (.aaload, 1) := by decide +kernel
theorem dX11_cellarOf_29 : decode M_X11_cellarOf.2.2.1 29 = .ok (.goto 4, 3) := by decide +kernel
theorem dX11_cellarOf_32 : decode M_X11_cellarOf.2.2.1 32 = .ok (.aconst_null, 1) := by decide +kernel
theorem dX11_cellarOf_33 : decode M_X11_cellarOf.2.2.1 33 = .ok (.areturn, 1) := by decide +kernel
theorem dX11_quakeOf_0 : decode M_X11_quakeOf.2.2.1 0 = .ok (.iload_n 1, 1) := by decide +kernel
theorem dX11_quakeOf_1 : decode M_X11_quakeOf.2.2.1 1 = .ok (.iconst 0, 1) := by decide +kernel
theorem dX11_quakeOf_2 : decode M_X11_quakeOf.2.2.1 2 = .ok (.aload_n 0, 1) := by decide +kernel
theorem dX11_quakeOf_3 : decode M_X11_quakeOf.2.2.1 3 = .ok (.getfield 226, 3) := by decide +kernel
theorem dX11_quakeOf_6 : decode M_X11_quakeOf.2.2.1 6 = .ok (.iconst 1, 1) := by decide +kernel
theorem dX11_quakeOf_7 : decode M_X11_quakeOf.2.2.1 7 = .ok (.isub, 1) := by decide +kernel
theorem dX11_quakeOf_8 : decode M_X11_quakeOf.2.2.1 8 = .ok (.invokestatic 94, 3) := by decide +kernel
theorem dX11_quakeOf_11 : decode M_X11_quakeOf.2.2.1 11 = .ok (.ifCond .eq 21, 3) := by decide +kernel
theorem dX11_quakeOf_14 : decode M_X11_quakeOf.2.2.1 14 = .ok (.iload_n 1, 1) := by decide +kernel
theorem dX11_quakeOf_15 : decode M_X11_quakeOf.2.2.1 15 = .ok (.aload_n 0, 1) := by decide +kernel
theorem dX11_quakeOf_16 : decode M_X11_quakeOf.2.2.1 16 = .ok (.getfield 45, 3) := by decide +kernel
theorem dX11_quakeOf_19 : decode M_X11_quakeOf.2.2.1 19 = .ok (.arraylength, 1) := by decide +kernel
theorem dX11_quakeOf_20 : decode M_X11_quakeOf.2.2.1 20 = .ok (.if_icmp .ge 12, 3) := by decide +kernel
theorem dX11_quakeOf_23 : decode M_X11_quakeOf.2.2.1 23 = .ok (.aload_n 0, 1) := by decide +kernel
theorem dX11_quakeOf_24 : decode M_X11_quakeOf.2.2.1 24 = .ok (.getfield 45, 3) := by decide +kernel
theorem dX11_quakeOf_27 : decode M_X11_quakeOf.2.2.1 27 = .ok (.iload_n 1, 1) := by decide +kernel
theorem dX11_quakeOf_28 : decode M_X11_quakeOf.2.2.1 28 = .ok (.aaload, 1) := by decide +kernel
theorem dX11_quakeOf_29 : decode M_X11_quakeOf.2.2.1 29 = .ok (.goto 4, 3) := by decide +kernel
theorem dX11_quakeOf_32 : decode M_X11_quakeOf.2.2.1 32 = .ok (.aconst_null, 1) := by decide +kernel
theorem dX11_quakeOf_33 : decode M_X11_quakeOf.2.2.1 33 = .ok (.areturn, 1) := by decide +kernel
theorem dX11_readingOf_0 : decode M_X11_readingOf.2.2.1 0 = .ok (.aload_n 0, 1) := by decide +kernel
theorem dX11_readingOf_1 : decode M_X11_readingOf.2.2.1 1 = .ok (.iload_n 1, 1) := by decide +kernel
theorem dX11_readingOf_2 : decode M_X11_readingOf.2.2.1 2 = .ok (.invokevirtual 230, 3) := by decide +kernel
theorem dX11_readingOf_5 : decode M_X11_readingOf.2.2.1 5 = .ok (.astore_n 3, 1) := by decide +kernel
theorem dX11_readingOf_6 : decode M_X11_readingOf.2.2.1 6 = .ok (.aload_n 3, 1) := by decide +kernel
theorem dX11_readingOf_7 : decode M_X11_readingOf.2.2.1 7 = .ok (.ifnonnull 7, 3) := by decide +kernel
theorem dX11_readingOf_10 : decode M_X11_readingOf.2.2.1 10 = .ok (.aconst_null, 1) := by decide +kernel
theorem dX11_readingOf_11 : decode M_X11_readingOf.2.2.1 11 = .ok (.goto 8, 3) := by decide +kernel
theorem dX11_readingOf_14 : decode M_X11_readingOf.2.2.1 14 = .ok (.aload_n 3, 1) := by decide +kernel
theorem dX11_readingOf_15 : decode M_X11_readingOf.2.2.1 15 = .ok (.iload_n 2, 1) := by decide +kernel
theorem dX11_readingOf_16 : decode M_X11_readingOf.2.2.1 16 = .ok (.invokevirtual 271, 3) := by decide +kernel
theorem dX11_readingOf_19 : decode M_X11_readingOf.2.2.1 19 = .ok (.areturn, 1) := by decide +kernel
theorem dX11_isFitting_0 : decode M_X11_isFitting.2.2.1 0 = .ok (.ldc_w 355, 3) := by decide +kernel
theorem dX11_isFitting_3 : decode M_X11_isFitting.2.2.1 3 = .ok (.istore 5, 2) := by decide +kernel
theorem dX11_isFitting_5 : decode M_X11_isFitting.2.2.1 5 = .ok (.ldc_w 356, 3) := by decide +kernel
theorem dX11_isFitting_8 : decode M_X11_isFitting.2.2.1 8 = .ok (.istore 6, 2) := by decide +kernel
theorem dX11_isFitting_10 : decode M_X11_isFitting.2.2.1 10 = .ok (.iconst 0, 1) := by decide +kernel
theorem dX11_isFitting_11 : decode M_X11_isFitting.2.2.1 11 = .ok (.istore 7, 2) := by decide +kernel
theorem dX11_isFitting_13 : decode M_X11_isFitting.2.2.1 13 = .ok (.iload 7, 2) := by decide +kernel
theorem dX11_isFitting_15 : decode M_X11_isFitting.2.2.1 15 = .ok (.aload_n 0, 1) := by decide +kernel
theorem dX11_isFitting_16 : decode M_X11_isFitting.2.2.1 16 = .ok (.getfield 84, 3) := by decide +kernel
theorem dX11_isFitting_19 : decode M_X11_isFitting.2.2.1 19 = .ok (.if_icmp .ge 132, 3) := by decide +kernel
theorem dX11_isFitting_22 : decode M_X11_isFitting.2.2.1 22 = .ok (.iload 5, 2) := by decide +kernel
theorem dX11_isFitting_24 : decode M_X11_isFitting.2.2.1 24 = .ok (.iload 6, 2) := by decide +kernel
theorem dX11_isFitting_26 : decode M_X11_isFitting.2.2.1 26 = .ok (.if_icmp .gt 125, 3) := by decide +kernel
theorem dX11_isFitting_29 : decode M_X11_isFitting.2.2.1 29 = .ok (.iload_n 2, 1) := by decide +kernel
theorem dX11_isFitting_30 : decode M_X11_isFitting.2.2.1 30 = .ok (.iload 7, 2) := by decide +kernel
theorem dX11_isFitting_32 : decode M_X11_isFitting.2.2.1 32 = .ok (.ishr, 1) := by decide +kernel
theorem dX11_isFitting_33 : decode M_X11_isFitting.2.2.1 33 = .ok (.iconst 1, 1) := by decide +kernel
theorem dX11_isFitting_34 : decode M_X11_isFitting.2.2.1 34 = .ok (.iand, 1) := by decide +kernel
theorem dX11_isFitting_35 : decode M_X11_isFitting.2.2.1 35 = .ok (.ifCond .ne 7, 3) := by decide +kernel
theorem dX11_isFitting_38 : decode M_X11_isFitting.2.2.1 38 = .ok (.aconst_null, 1) := by decide +kernel
theorem dX11_isFitting_39 : decode M_X11_isFitting.2.2.1 39 = .ok (.goto 9, 3) := by decide +kernel
theorem dX11_isFitting_42 : decode M_X11_isFitting.2.2.1 42 = .ok (.aload_n 1, 1) := by decide +kernel
theorem dX11_isFitting_43 : decode M_X11_isFitting.2.2.1 43 = .ok (.iload 7, 2) := by decide +kernel
theorem dX11_isFitting_45 : decode M_X11_isFitting.2.2.1 45 = .ok (.invokevirtual 271, 3) := by decide +kernel
theorem dX11_isFitting_48 : decode M_X11_isFitting.2.2.1 48 = .ok (.astore 8, 2) := by decide +kernel
theorem dX11_isFitting_50 : decode M_X11_isFitting.2.2.1 50 = .ok (.aload_n 0, 1) := by decide +kernel
theorem dX11_isFitting_51 : decode M_X11_isFitting.2.2.1 51 = .ok (.iload 7, 2) := by decide +kernel
theorem dX11_isFitting_53 : decode M_X11_isFitting.2.2.1 53 = .ok (.invokevirtual 90, 3) := by decide +kernel
theorem dX11_isFitting_56 : decode M_X11_isFitting.2.2.1 56 = .ok (.astore 9, 2) := by decide +kernel
theorem dX11_isFitting_58 : decode M_X11_isFitting.2.2.1 58 = .ok (.aload 8, 2) := by decide +kernel
theorem dX11_isFitting_60 : decode M_X11_isFitting.2.2.1 60 = .ok (.ifnull 85, 3) := by decide +kernel
theorem dX11_isFitting_63 : decode M_X11_isFitting.2.2.1 63 = .ok (.aload 9, 2) := by decide +kernel
theorem dX11_isFitting_65 : decode M_X11_isFitting.2.2.1 65 = .ok (.ifnonnull 6, 3) := by decide +kernel
theorem dX11_isFitting_68 : decode M_X11_isFitting.2.2.1 68 = .ok (.goto 77, 3) := by decide +kernel
theorem dX11_isFitting_71 : decode M_X11_isFitting.2.2.1 71 = .ok (.aload_n 0, 1) := by decide +kernel
theorem dX11_isFitting_72 : decode M_X11_isFitting.2.2.1 72 = .ok (.getfield 10, 3) := by decide +kernel
theorem dX11_isFitting_75 : decode M_X11_isFitting.2.2.1 75 = .ok (.iload_n 3, 1) := by decide +kernel
theorem dX11_isFitting_76 : decode M_X11_isFitting.2.2.1 76 = .ok (.iload 4, 2) := by decide +kernel
theorem dX11_isFitting_78 : decode M_X11_isFitting.2.2.1 78 = .ok (.aload 9, 2) := by decide +kernel
theorem dX11_isFitting_80 : decode M_X11_isFitting.2.2.1 80 = .ok (.getfield 275, 3) := by decide +kernel
theorem dX11_isFitting_83 : decode M_X11_isFitting.2.2.1 83 = .ok (.aload 9, 2) := by decide +kernel
theorem dX11_isFitting_85 : decode M_X11_isFitting.2.2.1 85 = .ok (.getfield 278, 3) := by decide +kernel
theorem dX11_isFitting_88 : decode M_X11_isFitting.2.2.1 88 = .ok (.invokevirtual 357, 3) := by decide +kernel
theorem dX11_isFitting_91 : decode M_X11_isFitting.2.2.1 91 = .ok (.istore 10, 2) := by decide +kernel
theorem dX11_isFitting_93 : decode M_X11_isFitting.2.2.1 93 = .ok (.iload 5, 2) := by decide +kernel
theorem dX11_isFitting_95 : decode M_X11_isFitting.2.2.1 95 = .ok (.aload 8, 2) := by decide +kernel
theorem dX11_isFitting_97 : decode M_X11_isFitting.2.2.1 97 = .ok (.aload_n 0, 1) := by decide +kernel
theorem dX11_isFitting_98 : decode M_X11_isFitting.2.2.1 98 = .ok (.getfield 49, 3) := by decide +kernel
theorem dX11_isFitting_101 : decode M_X11_isFitting.2.2.1 101 = .ok (.iload 10, 2) := by decide +kernel
theorem dX11_isFitting_103 : decode M_X11_isFitting.2.2.1 103 = .ok (.imul, 1) := by decide +kernel
theorem dX11_isFitting_104 : decode M_X11_isFitting.2.2.1 104 = .ok (.aload_n 0, 1) := by decide +kernel
theorem dX11_isFitting_105 : decode M_X11_isFitting.2.2.1 105 = .ok (.getfield 53, 3) := by decide +kernel
theorem dX11_isFitting_108 : decode M_X11_isFitting.2.2.1 108 = .ok (.iload 10, 2) := by decide +kernel
theorem dX11_isFitting_110 : decode M_X11_isFitting.2.2.1 110 = .ok (.imul, 1) := by decide +kernel
theorem dX11_isFitting_111 : decode M_X11_isFitting.2.2.1 111 = .ok (.invokevirtual 361, 3) := by decide +kernel
theorem dX11_isFitting_114 : decode M_X11_isFitting.2.2.1 114 = .ok (.invokestatic 364, 3) := by decide +kernel
theorem dX11_isFitting_117 : decode M_X11_isFitting.2.2.1 117 = .ok (.istore 5, 2) := by decide +kernel
theorem dX11_isFitting_119 : decode M_X11_isFitting.2.2.1 119 = .ok (.iload 6, 2) := by decide +kernel
theorem dX11_isFitting_121 : decode M_X11_isFitting.2.2.1 121 = .ok (.aload 8, 2) := by decide +kernel
theorem dX11_isFitting_123 : decode M_X11_isFitting.2.2.1 123 = .ok (.aload_n 0, 1) := by decide +kernel
theorem dX11_isFitting_124 : decode M_X11_isFitting.2.2.1 124 = .ok (.getfield 49, 3) := by decide +kernel
theorem dX11_isFitting_127 : decode M_X11_isFitting.2.2.1 127 = .ok (.iload 10, 2) := by decide +kernel
theorem dX11_isFitting_129 : decode M_X11_isFitting.2.2.1 129 = .ok (.imul, 1) := by decide +kernel
theorem dX11_isFitting_130 : decode M_X11_isFitting.2.2.1 130 = .ok (.aload_n 0, 1) := by decide +kernel
theorem dX11_isFitting_131 : decode M_X11_isFitting.2.2.1 131 = .ok (.getfield 53, 3) := by decide +kernel
theorem dX11_isFitting_134 : decode M_X11_isFitting.2.2.1 134 = .ok (.iload 10, 2) := by decide +kernel
theorem dX11_isFitting_136 : decode M_X11_isFitting.2.2.1 136 = .ok (.imul, 1) := by decide +kernel
theorem dX11_isFitting_137 : decode M_X11_isFitting.2.2.1 137 = .ok (.invokevirtual 367, 3) := by decide +kernel
theorem dX11_isFitting_140 : decode M_X11_isFitting.2.2.1 140 = .ok (.invokestatic 370, 3) := by decide +kernel
theorem dX11_isFitting_143 : decode M_X11_isFitting.2.2.1 143 = .ok (.istore 6, 2) := by decide +kernel
theorem dX11_isFitting_145 : decode M_X11_isFitting.2.2.1 145 = .ok (.iinc 7 1, 3) := by decide +kernel
theorem dX11_isFitting_148 : decode M_X11_isFitting.2.2.1 148 = .ok (.goto (-135), 3) := by decide +kernel
theorem dX11_isFitting_151 : decode M_X11_isFitting.2.2.1 151 = .ok (.iload 5, 2) := by decide +kernel
theorem dX11_isFitting_153 : decode M_X11_isFitting.2.2.1 153 = .ok (.iload 6, 2) := by decide +kernel
theorem dX11_isFitting_155 : decode M_X11_isFitting.2.2.1 155 = .ok (.if_icmp .gt 7, 3) := by decide +kernel
theorem dX11_isFitting_158 : decode M_X11_isFitting.2.2.1 158 = .ok (.iconst 1, 1) := by decide +kernel
theorem dX11_isFitting_159 : decode M_X11_isFitting.2.2.1 159 = .ok (.goto 4, 3) := by decide +kernel
theorem dX11_isFitting_162 : decode M_X11_isFitting.2.2.1 162 = .ok (.iconst 0, 1) := by decide +kernel
theorem dX11_isFitting_163 : decode M_X11_isFitting.2.2.1 163 = .ok (.ireturn, 1) := by decide +kernel
theorem dX11_countFitting_0 : decode M_X11_countFitting.2.2.1 0 = .ok (.iconst 0, 1) := by decide +kernel
theorem dX11_countFitting_1 : decode M_X11_countFitting.2.2.1 1 = .ok (.istore_n 3, 1) := by decide +kernel
theorem dX11_countFitting_2 : decode M_X11_countFitting.2.2.1 2 = .ok (.iconst 0, 1) := by decide +kernel
theorem dX11_countFitting_3 : decode M_X11_countFitting.2.2.1 3 = .ok (.istore 4, 2) := by decide +kernel
theorem dX11_countFitting_5 : decode M_X11_countFitting.2.2.1 5 = .ok (.iload 4, 2) := by decide +kernel
theorem dX11_countFitting_7 : decode M_X11_countFitting.2.2.1 7 = .ok (.sipush 1600, 3) := by decide +kernel
theorem dX11_countFitting_10 : decode M_X11_countFitting.2.2.1 10 = .ok (.if_icmp .ge 31, 3) := by decide +kernel
theorem dX11_countFitting_13 : decode M_X11_countFitting.2.2.1 13 = .ok (.aload_n 0, 1) := by decide +kernel
theorem dX11_countFitting_14 : decode M_X11_countFitting.2.2.1 14 = .ok (.aload_n 1, 1) := by decide +kernel
theorem dX11_countFitting_15 : decode M_X11_countFitting.2.2.1 15 = .ok (.iload_n 2, 1) := by decide +kernel
theorem dX11_countFitting_16 : decode M_X11_countFitting.2.2.1 16 = .ok (.iload 4, 2) := by decide +kernel
theorem dX11_countFitting_18 : decode M_X11_countFitting.2.2.1 18 = .ok (.bipush 40, 2) := by decide +kernel
theorem dX11_countFitting_20 : decode M_X11_countFitting.2.2.1 20 = .ok (.irem, 1) := by decide +kernel
theorem dX11_countFitting_21 : decode M_X11_countFitting.2.2.1 21 = .ok (.iload 4, 2) := by decide +kernel
theorem dX11_countFitting_23 : decode M_X11_countFitting.2.2.1 23 = .ok (.bipush 40, 2) := by decide +kernel
theorem dX11_countFitting_25 : decode M_X11_countFitting.2.2.1 25 = .ok (.idiv, 1) := by decide +kernel
theorem dX11_countFitting_26 : decode M_X11_countFitting.2.2.1 26 = .ok (.invokevirtual 267, 3) := by decide +kernel
theorem dX11_countFitting_29 : decode M_X11_countFitting.2.2.1 29 = .ok (.ifCond .eq 6, 3) := by decide +kernel
theorem dX11_countFitting_32 : decode M_X11_countFitting.2.2.1 32 = .ok (.iinc 3 1, 3) := by decide +kernel
theorem dX11_countFitting_35 : decode M_X11_countFitting.2.2.1 35 = .ok (.iinc 4 1, 3) := by decide +kernel
theorem dX11_countFitting_38 : decode M_X11_countFitting.2.2.1 38 = .ok (.goto (-33), 3) := by decide +kernel
theorem dX11_countFitting_41 : decode M_X11_countFitting.2.2.1 41 = .ok (.iload_n 3, 1) := by decide +kernel
theorem dX11_countFitting_42 : decode M_X11_countFitting.2.2.1 42 = .ok (.ireturn, 1) := by decide +kernel
theorem dX11_fittingCell_0 : decode M_X11_fittingCell.2.2.1 0 = .ok (.iload_n 3, 1) := by decide +kernel
theorem dX11_fittingCell_1 : decode M_X11_fittingCell.2.2.1 1 = .ok (.istore 4, 2) := by decide +kernel
theorem dX11_fittingCell_3 : decode M_X11_fittingCell.2.2.1 3 = .ok (.iconst 0, 1) := by decide +kernel
theorem dX11_fittingCell_4 : decode M_X11_fittingCell.2.2.1 4 = .ok (.istore 5, 2) := by decide +kernel
theorem dX11_fittingCell_6 : decode M_X11_fittingCell.2.2.1 6 = .ok (.iload 5, 2) := by decide +kernel
theorem dX11_fittingCell_8 : decode M_X11_fittingCell.2.2.1 8 = .ok (.sipush 1600, 3) := by decide +kernel
theorem dX11_fittingCell_11 : decode M_X11_fittingCell.2.2.1 11 = .ok (.if_icmp .ge 39, 3) := by decide +kernel
theorem dX11_fittingCell_14 : decode M_X11_fittingCell.2.2.1 14 = .ok (.aload_n 0, 1) := by decide +kernel
theorem dX11_fittingCell_15 : decode M_X11_fittingCell.2.2.1 15 = .ok (.aload_n 1, 1) := by decide +kernel
theorem dX11_fittingCell_16 : decode M_X11_fittingCell.2.2.1 16 = .ok (.iload_n 2, 1) := by decide +kernel
theorem dX11_fittingCell_17 : decode M_X11_fittingCell.2.2.1 17 = .ok (.iload 5, 2) := by decide +kernel
theorem dX11_fittingCell_19 : decode M_X11_fittingCell.2.2.1 19 = .ok (.bipush 40, 2) := by decide +kernel
theorem dX11_fittingCell_21 : decode M_X11_fittingCell.2.2.1 21 = .ok (.irem, 1) := by decide +kernel
theorem dX11_fittingCell_22 : decode M_X11_fittingCell.2.2.1 22 = .ok (.iload 5, 2) := by decide +kernel
theorem dX11_fittingCell_24 : decode M_X11_fittingCell.2.2.1 24 = .ok (.bipush 40, 2) := by decide +kernel
theorem dX11_fittingCell_26 : decode M_X11_fittingCell.2.2.1 26 = .ok (.idiv, 1) := by decide +kernel
theorem dX11_fittingCell_27 : decode M_X11_fittingCell.2.2.1 27 = .ok (.invokevirtual 267, 3) := by decide +kernel
theorem dX11_fittingCell_30 : decode M_X11_fittingCell.2.2.1 30 = .ok (.ifCond .eq 14, 3) := by decide +kernel
theorem dX11_fittingCell_33 : decode M_X11_fittingCell.2.2.1 33 = .ok (.iload 4, 2) := by decide +kernel
theorem dX11_fittingCell_35 : decode M_X11_fittingCell.2.2.1 35 = .ok (.ifCond .ne 6, 3) := by decide +kernel
theorem dX11_fittingCell_38 : decode M_X11_fittingCell.2.2.1 38 = .ok (.iload 5, 2) := by decide +kernel
theorem dX11_fittingCell_40 : decode M_X11_fittingCell.2.2.1 40 = .ok (.ireturn, 1) := by decide +kernel
theorem dX11_fittingCell_41 : decode M_X11_fittingCell.2.2.1 41 = .ok (.iinc 4 (-1), 3) := by decide +kernel
theorem dX11_fittingCell_44 : decode M_X11_fittingCell.2.2.1 44 = .ok (.iinc 5 1, 3) := by decide +kernel
theorem dX11_fittingCell_47 : decode M_X11_fittingCell.2.2.1 47 = .ok (.goto (-41), 3) := by decide +kernel
theorem dX11_fittingCell_50 : decode M_X11_fittingCell.2.2.1 50 = .ok (.iconst (-1), 1) := by decide +kernel
theorem dX11_fittingCell_51 : decode M_X11_fittingCell.2.2.1 51 = .ok (.ireturn, 1) := by decide +kernel
theorem dX11_sectorOf_0 : decode M_X11_sectorOf.2.2.1 0 = .ok (.iload_n 0, 1) := by decide +kernel
theorem dX11_sectorOf_1 : decode M_X11_sectorOf.2.2.1 1 = .ok (.ifCond .ne 9, 3) := by decide +kernel
theorem dX11_sectorOf_4 : decode M_X11_sectorOf.2.2.1 4 = .ok (.iload_n 1, 1) := by decide +kernel
theorem dX11_sectorOf_5 : decode M_X11_sectorOf.2.2.1 5 = .ok (.ifCond .ne 5, 3) := by decide +kernel
theorem dX11_sectorOf_8 : decode M_X11_sectorOf.2.2.1 8 = .ok (.iconst (-1), 1) := by decide +kernel
theorem dX11_sectorOf_9 : decode M_X11_sectorOf.2.2.1 9 = .ok (.ireturn, 1) := by decide +kernel
theorem dX11_sectorOf_10 : decode M_X11_sectorOf.2.2.1 10 = .ok (.iload_n 0, 1) := by decide +kernel
theorem dX11_sectorOf_11 : decode M_X11_sectorOf.2.2.1 11 = .ok (.iload_n 1, 1) := by decide +kernel
theorem dX11_sectorOf_12 : decode M_X11_sectorOf.2.2.1 12 = .ok (.invokestatic 373, 3) := by decide +kernel
theorem dX11_sectorOf_15 : decode M_X11_sectorOf.2.2.1 15 = .ok (.istore_n 2, 1) := by decide +kernel
theorem dX11_sectorOf_16 : decode M_X11_sectorOf.2.2.1 16 = .ok (.iload_n 2, 1) := by decide +kernel
theorem dX11_sectorOf_17 : decode M_X11_sectorOf.2.2.1 17 = .ok (.iconst (-1), 1) := by decide +kernel
theorem dX11_sectorOf_18 : decode M_X11_sectorOf.2.2.1 18 = .ok (.if_icmp .eq 7, 3) := by decide +kernel
theorem dX11_sectorOf_21 : decode M_X11_sectorOf.2.2.1 21 = .ok (.iload_n 2, 1) := by decide +kernel
theorem dX11_sectorOf_22 : decode M_X11_sectorOf.2.2.1 22 = .ok (.goto 12, 3) := by decide +kernel
theorem dX11_sectorOf_25 : decode M_X11_sectorOf.2.2.1 25 = .ok (.iconst 4, 1) := by decide +kernel
theorem dX11_sectorOf_26 : decode M_X11_sectorOf.2.2.1 26 = .ok (.iload_n 0, 1) := by decide +kernel
theorem dX11_sectorOf_27 : decode M_X11_sectorOf.2.2.1 27 = .ok (.ineg, 1) := by decide +kernel
theorem dX11_sectorOf_28 : decode M_X11_sectorOf.2.2.1 28 = .ok (.iload_n 1, 1) := by decide +kernel
theorem dX11_sectorOf_29 : decode M_X11_sectorOf.2.2.1 29 = .ok (.ineg, 1) := by decide +kernel
theorem dX11_sectorOf_30 : decode M_X11_sectorOf.2.2.1 30 = .ok (.invokestatic 373, 3) := by decide +kernel
theorem dX11_sectorOf_33 : decode M_X11_sectorOf.2.2.1 33 = .ok (.iadd, 1) := by decide +kernel
theorem dX11_sectorOf_34 : decode M_X11_sectorOf.2.2.1 34 = .ok (.ireturn, 1) := by decide +kernel
theorem dX11_upperSector_0 : decode M_X11_upperSector.2.2.1 0 = .ok (.iload_n 0, 1) := by decide +kernel
theorem dX11_upperSector_1 : decode M_X11_upperSector.2.2.1 1 = .ok (.ifCond .le 18, 3) := by decide +kernel
theorem dX11_upperSector_4 : decode M_X11_upperSector.2.2.1 4 = .ok (.iload_n 1, 1) := by decide +kernel
theorem dX11_upperSector_5 : decode M_X11_upperSector.2.2.1 5 = .ok (.ifCond .lt 14, 3) := by decide +kernel
theorem dX11_upperSector_8 : decode M_X11_upperSector.2.2.1 8 = .ok (.iload_n 1, 1) := by decide +kernel
theorem dX11_upperSector_9 : decode M_X11_upperSector.2.2.1 9 = .ok (.iload_n 0, 1) := by decide +kernel
theorem dX11_upperSector_10 : decode M_X11_upperSector.2.2.1 10 = .ok (.if_icmp .ge 7, 3) := by decide +kernel
theorem dX11_upperSector_13 : decode M_X11_upperSector.2.2.1 13 = .ok (.iconst 0, 1) := by decide +kernel
theorem dX11_upperSector_14 : decode M_X11_upperSector.2.2.1 14 = .ok (.goto 4, 3) := by decide +kernel
theorem dX11_upperSector_17 : decode M_X11_upperSector.2.2.1 17 = .ok (.iconst 1, 1) := by decide +kernel
theorem dX11_upperSector_18 : decode M_X11_upperSector.2.2.1 18 = .ok (.ireturn, 1) := by decide +kernel
theorem dX11_upperSector_19 : decode M_X11_upperSector.2.2.1 19 = .ok (.iload_n 0, 1) := by decide +kernel
theorem dX11_upperSector_20 : decode M_X11_upperSector.2.2.1 20 = .ok (.ifCond .gt 11, 3) := by decide +kernel
theorem dX11_upperSector_23 : decode M_X11_upperSector.2.2.1 23 = .ok (.iload_n 1, 1) := by decide +kernel
theorem dX11_upperSector_24 : decode M_X11_upperSector.2.2.1 24 = .ok (.iload_n 0, 1) := by decide +kernel
theorem dX11_upperSector_25 : decode M_X11_upperSector.2.2.1 25 = .ok (.ineg, 1) := by decide +kernel
theorem dX11_upperSector_26 : decode M_X11_upperSector.2.2.1 26 = .ok (.if_icmp .le 5, 3) := by decide +kernel
theorem dX11_upperSector_29 : decode M_X11_upperSector.2.2.1 29 = .ok (.iconst 2, 1) := by decide +kernel
theorem dX11_upperSector_30 : decode M_X11_upperSector.2.2.1 30 = .ok (.ireturn, 1) := by decide +kernel
theorem dX11_upperSector_31 : decode M_X11_upperSector.2.2.1 31 = .ok (.iload_n 0, 1) := by decide +kernel
theorem dX11_upperSector_32 : decode M_X11_upperSector.2.2.1 32 = .ok (.ifCond .ge 11, 3) := by decide +kernel
theorem dX11_upperSector_35 : decode M_X11_upperSector.2.2.1 35 = .ok (.iload_n 1, 1) := by decide +kernel
theorem dX11_upperSector_36 : decode M_X11_upperSector.2.2.1 36 = .ok (.ifCond .le 7, 3) := by decide +kernel
theorem dX11_upperSector_39 : decode M_X11_upperSector.2.2.1 39 = .ok (.iconst 3, 1) := by decide +kernel
theorem dX11_upperSector_40 : decode M_X11_upperSector.2.2.1 40 = .ok (.goto 4, 3) := by decide +kernel
theorem dX11_upperSector_43 : decode M_X11_upperSector.2.2.1 43 = .ok (.iconst (-1), 1) := by decide +kernel
theorem dX11_upperSector_44 : decode M_X11_upperSector.2.2.1 44 = .ok (.ireturn, 1) := by decide +kernel
theorem dX11_slidesOf_0 : decode M_X11_slidesOf.2.2.1 0 = .ok (.iload_n 0, 1) := by decide +kernel
theorem dX11_slidesOf_1 : decode M_X11_slidesOf.2.2.1 1 = .ok (.iconst (-1), 1) := by decide +kernel
theorem dX11_slidesOf_2 : decode M_X11_slidesOf.2.2.1 2 = .ok (.if_icmp .ne 6, 3) := by decide +kernel
theorem dX11_slidesOf_5 : decode M_X11_slidesOf.2.2.1 5 = .ok (.bipush 15, 2) := by decide +kernel
theorem dX11_slidesOf_7 : decode M_X11_slidesOf.2.2.1 7 = .ok (.ireturn, 1) := by decide +kernel
theorem dX11_slidesOf_8 : decode M_X11_slidesOf.2.2.1 8 = .ok (.iconst 0, 1) := by decide +kernel
theorem dX11_slidesOf_9 : decode M_X11_slidesOf.2.2.1 9 = .ok (.istore_n 2, 1) := by decide +kernel
theorem dX11_slidesOf_10 : decode M_X11_slidesOf.2.2.1 10 = .ok (.iconst 0, 1) := by decide +kernel
theorem dX11_slidesOf_11 : decode M_X11_slidesOf.2.2.1 11 = .ok (.istore_n 3, 1) := by decide +kernel
theorem dX11_slidesOf_12 : decode M_X11_slidesOf.2.2.1 12 = .ok (.iload_n 3, 1) := by decide +kernel
theorem dX11_slidesOf_13 : decode M_X11_slidesOf.2.2.1 13 = .ok (.iconst 4, 1) := by decide +kernel
theorem dX11_slidesOf_14 : decode M_X11_slidesOf.2.2.1 14 = .ok (.if_icmp .ge 47, 3) := by decide +kernel
theorem dX11_slidesOf_17 : decode M_X11_slidesOf.2.2.1 17 = .ok (.iload_n 0, 1) := by decide +kernel
theorem dX11_slidesOf_18 : decode M_X11_slidesOf.2.2.1 18 = .ok (.iload_n 3, 1) := by decide +kernel
theorem dX11_slidesOf_19 : decode M_X11_slidesOf.2.2.1 19 = .ok (.isub, 1) := by decide +kernel
theorem dX11_slidesOf_20 : decode M_X11_slidesOf.2.2.1 20 = .ok (.iconst 4, 1) := by decide +kernel
theorem dX11_slidesOf_21 : decode M_X11_slidesOf.2.2.1 21 = .ok (.invokestatic 376, 3) := by decide +kernel
theorem dX11_slidesOf_24 : decode M_X11_slidesOf.2.2.1 24 = .ok (.iconst 2, 1) := by decide +kernel
theorem dX11_slidesOf_25 : decode M_X11_slidesOf.2.2.1 25 = .ok (.if_icmp .ge 7, 3) := by decide +kernel
theorem dX11_slidesOf_28 : decode M_X11_slidesOf.2.2.1 28 = .ok (.iconst 1, 1) := by decide +kernel
theorem dX11_slidesOf_29 : decode M_X11_slidesOf.2.2.1 29 = .ok (.goto 4, 3) := by decide +kernel
theorem dX11_slidesOf_32 : decode M_X11_slidesOf.2.2.1 32 = .ok (.iconst 0, 1) := by decide +kernel
theorem dX11_slidesOf_33 : decode M_X11_slidesOf.2.2.1 33 = .ok (.istore 4, 2) := by decide +kernel
theorem dX11_slidesOf_35 : decode M_X11_slidesOf.2.2.1 35 = .ok (.iload 4, 2) := by decide +kernel
theorem dX11_slidesOf_37 : decode M_X11_slidesOf.2.2.1 37 = .ok (.iload_n 1, 1) := by decide +kernel
theorem dX11_slidesOf_38 : decode M_X11_slidesOf.2.2.1 38 = .ok (.ifCond .le 7, 3) := by decide +kernel
theorem dX11_slidesOf_41 : decode M_X11_slidesOf.2.2.1 41 = .ok (.iconst 1, 1) := by decide +kernel
theorem dX11_slidesOf_42 : decode M_X11_slidesOf.2.2.1 42 = .ok (.goto 4, 3) := by decide +kernel
theorem dX11_slidesOf_45 : decode M_X11_slidesOf.2.2.1 45 = .ok (.iconst 0, 1) := by decide +kernel
theorem dX11_slidesOf_46 : decode M_X11_slidesOf.2.2.1 46 = .ok (.if_icmp .ne 9, 3) := by decide +kernel
theorem dX11_slidesOf_49 : decode M_X11_slidesOf.2.2.1 49 = .ok (.iload_n 2, 1) := by decide +kernel
theorem dX11_slidesOf_50 : decode M_X11_slidesOf.2.2.1 50 = .ok (.iconst 1, 1) := by decide +kernel
theorem dX11_slidesOf_51 : decode M_X11_slidesOf.2.2.1 51 = .ok (.iload_n 3, 1) := by decide +kernel
theorem dX11_slidesOf_52 : decode M_X11_slidesOf.2.2.1 52 = .ok (.ishl, 1) := by decide +kernel
theorem dX11_slidesOf_53 : decode M_X11_slidesOf.2.2.1 53 = .ok (.ior, 1) := by decide +kernel
theorem dX11_slidesOf_54 : decode M_X11_slidesOf.2.2.1 54 = .ok (.istore_n 2, 1) := by decide +kernel
theorem dX11_slidesOf_55 : decode M_X11_slidesOf.2.2.1 55 = .ok (.iinc 3 1, 3) := by decide +kernel
theorem dX11_slidesOf_58 : decode M_X11_slidesOf.2.2.1 58 = .ok (.goto (-46), 3) := by decide +kernel
theorem dX11_slidesOf_61 : decode M_X11_slidesOf.2.2.1 61 = .ok (.iload_n 2, 1) := by decide +kernel
theorem dX11_slidesOf_62 : decode M_X11_slidesOf.2.2.1 62 = .ok (.ireturn, 1) := by decide +kernel
theorem dX11_levelOf_0 : decode M_X11_levelOf.2.2.1 0 = .ok (.iload_n 0, 1) := by decide +kernel
theorem dX11_levelOf_1 : decode M_X11_levelOf.2.2.1 1 = .ok (.ifCond .gt 5, 3) := by decide +kernel
theorem dX11_levelOf_4 : decode M_X11_levelOf.2.2.1 4 = .ok (.iconst 0, 1) := by decide +kernel
theorem dX11_levelOf_5 : decode M_X11_levelOf.2.2.1 5 = .ok (.ireturn, 1) := by decide +kernel
theorem dX11_levelOf_6 : decode M_X11_levelOf.2.2.1 6 = .ok (.iconst 0, 1) := by decide +kernel
theorem dX11_levelOf_7 : decode M_X11_levelOf.2.2.1 7 = .ok (.istore_n 1, 1) := by decide +kernel
theorem dX11_levelOf_8 : decode M_X11_levelOf.2.2.1 8 = .ok (.iload_n 0, 1) := by decide +kernel
theorem dX11_levelOf_9 : decode M_X11_levelOf.2.2.1 9 = .ok (.iconst 2, 1) := by decide +kernel
theorem dX11_levelOf_10 : decode M_X11_levelOf.2.2.1 10 = .ok (.idiv, 1) := by decide +kernel
theorem dX11_levelOf_11 : decode M_X11_levelOf.2.2.1 11 = .ok (.istore_n 2, 1) := by decide +kernel
theorem dX11_levelOf_12 : decode M_X11_levelOf.2.2.1 12 = .ok (.iload_n 2, 1) := by decide +kernel
theorem dX11_levelOf_13 : decode M_X11_levelOf.2.2.1 13 = .ok (.ifCond .le 19, 3) := by decide +kernel
theorem dX11_levelOf_16 : decode M_X11_levelOf.2.2.1 16 = .ok (.iload_n 1, 1) := by decide +kernel
theorem dX11_levelOf_17 : decode M_X11_levelOf.2.2.1 17 = .ok (.bipush 30, 2) := by decide +kernel
theorem dX11_levelOf_19 : decode M_X11_levelOf.2.2.1 19 = .ok (.if_icmp .ge 13, 3) := by decide +kernel
theorem dX11_levelOf_22 : decode M_X11_levelOf.2.2.1 22 = .ok (.iinc 1 1, 3) := by decide +kernel
theorem dX11_levelOf_25 : decode M_X11_levelOf.2.2.1 25 = .ok (.iload_n 2, 1) := by decide +kernel
theorem dX11_levelOf_26 : decode M_X11_levelOf.2.2.1 26 = .ok (.iconst 2, 1) := by decide +kernel
theorem dX11_levelOf_27 : decode M_X11_levelOf.2.2.1 27 = .ok (.idiv, 1) := by decide +kernel
theorem dX11_levelOf_28 : decode M_X11_levelOf.2.2.1 28 = .ok (.istore_n 2, 1) := by decide +kernel
theorem dX11_levelOf_29 : decode M_X11_levelOf.2.2.1 29 = .ok (.goto (-17), 3) := by decide +kernel
theorem dX11_levelOf_32 : decode M_X11_levelOf.2.2.1 32 = .ok (.ldc2_w 379, 3) := by decide +kernel
theorem dX11_levelOf_35 : decode M_X11_levelOf.2.2.1 35 = .ok (.iload_n 0, 1) := by decide +kernel
theorem dX11_levelOf_36 : decode M_X11_levelOf.2.2.1 36 = .ok (.iconst 1, 1) := by decide +kernel
theorem dX11_levelOf_37 : decode M_X11_levelOf.2.2.1 37 = .ok (.iload_n 1, 1) := by decide +kernel
theorem dX11_levelOf_38 : decode M_X11_levelOf.2.2.1 38 = .ok (.ishl, 1) := by decide +kernel
theorem dX11_levelOf_39 : decode M_X11_levelOf.2.2.1 39 = .ok (.isub, 1) := by decide +kernel
theorem dX11_levelOf_40 : decode M_X11_levelOf.2.2.1 40 = .ok (.i2l, 1) := by decide +kernel
theorem dX11_levelOf_41 : decode M_X11_levelOf.2.2.1 41 = .ok (.lmul, 1) := by decide +kernel
theorem dX11_levelOf_42 : decode M_X11_levelOf.2.2.1 42 = .ok (.lstore_n 2, 1) := by decide +kernel
theorem dX11_levelOf_43 : decode M_X11_levelOf.2.2.1 43 = .ok (.bipush 10, 2) := by decide +kernel
theorem dX11_levelOf_45 : decode M_X11_levelOf.2.2.1 45 = .ok (.iload_n 1, 1) := by decide +kernel
theorem dX11_levelOf_46 : decode M_X11_levelOf.2.2.1 46 = .ok (.imul, 1) := by decide +kernel
theorem dX11_levelOf_47 : decode M_X11_levelOf.2.2.1 47 = .ok (.lload_n 2, 1) := by decide +kernel
theorem dX11_levelOf_48 : decode M_X11_levelOf.2.2.1 48 = .ok (.iload_n 1, 1) := by decide +kernel
theorem dX11_levelOf_49 : decode M_X11_levelOf.2.2.1 49 = .ok (.lshr, 1) := by decide +kernel
theorem dX11_levelOf_50 : decode M_X11_levelOf.2.2.1 50 = .ok (.l2i, 1) := by decide +kernel
theorem dX11_levelOf_51 : decode M_X11_levelOf.2.2.1 51 = .ok (.iadd, 1) := by decide +kernel
theorem dX11_levelOf_52 : decode M_X11_levelOf.2.2.1 52 = .ok (.ireturn, 1) := by decide +kernel
theorem dX11_fading_0 : decode M_X11_fading.2.2.1 0 = .ok (.iconst 3, 1) := by decide +kernel
theorem dX11_fading_1 : decode M_X11_fading.2.2.1 1 = .ok (.iload_n 0, 1) := by decide +kernel
theorem dX11_fading_2 : decode M_X11_fading.2.2.1 2 = .ok (.iconst 1, 1) := by decide +kernel
theorem dX11_fading_3 : decode M_X11_fading.2.2.1 3 = .ok (.iadd, 1) := by decide +kernel
theorem dX11_fading_4 : decode M_X11_fading.2.2.1 4 = .ok (.invokestatic 287, 3) := by decide +kernel
theorem dX11_fading_7 : decode M_X11_fading.2.2.1 7 = .ok (.imul, 1) := by decide +kernel
theorem dX11_fading_8 : decode M_X11_fading.2.2.1 8 = .ok (.iconst 2, 1) := by decide +kernel
theorem dX11_fading_9 : decode M_X11_fading.2.2.1 9 = .ok (.invokestatic 177, 3) := by decide +kernel
theorem dX11_fading_12 : decode M_X11_fading.2.2.1 12 = .ok (.ireturn, 1) := by decide +kernel
theorem dX11_bareSize_0 : decode M_X11_bareSize.2.2.1 0 = .ok (.aload_n 1, 1) := by decide +kernel
theorem dX11_bareSize_1 : decode M_X11_bareSize.2.2.1 1 = .ok (.iload 4, 2) := by decide +kernel
theorem dX11_bareSize_3 : decode M_X11_bareSize.2.2.1 3 = .ok (.invokevirtual 271, 3) := by decide +kernel
theorem dX11_bareSize_6 : decode M_X11_bareSize.2.2.1 6 = .ok (.astore 5, 2) := by decide +kernel
theorem dX11_bareSize_8 : decode M_X11_bareSize.2.2.1 8 = .ok (.aload_n 0, 1) := by decide +kernel
theorem dX11_bareSize_9 : decode M_X11_bareSize.2.2.1 9 = .ok (.iload 4, 2) := by decide +kernel
theorem dX11_bareSize_11 : decode M_X11_bareSize.2.2.1 11 = .ok (.invokevirtual 90, 3) := by decide +kernel
theorem dX11_bareSize_14 : decode M_X11_bareSize.2.2.1 14 = .ok (.astore 6, 2) := by decide +kernel
theorem dX11_bareSize_16 : decode M_X11_bareSize.2.2.1 16 = .ok (.aload 5, 2) := by decide +kernel
theorem dX11_bareSize_18 : decode M_X11_bareSize.2.2.1 18 = .ok (.ifnull 16, 3) := by decide +kernel
theorem dX11_bareSize_21 : decode M_X11_bareSize.2.2.1 21 = .ok (.aload 6, 2) := by decide +kernel
theorem dX11_bareSize_23 : decode M_X11_bareSize.2.2.1 23 = .ok (.ifnull 11, 3) := by decide +kernel
theorem dX11_bareSize_26 : decode M_X11_bareSize.2.2.1 26 = .ok (.aload 5, 2) := by decide +kernel
theorem dX11_bareSize_28 : decode M_X11_bareSize.2.2.1 28 = .ok (.getfield 256, 3) := by decide +kernel
theorem dX11_bareSize_31 : decode M_X11_bareSize.2.2.1 31 = .ok (.ifCond .ne 6, 3) := by decide +kernel
theorem dX11_bareSize_34 : decode M_X11_bareSize.2.2.1 34 = .ok (.ldc 110, 2) := by decide +kernel
theorem dX11_bareSize_36 : decode M_X11_bareSize.2.2.1 36 = .ok (.ireturn, 1) := by decide +kernel
theorem dX11_bareSize_37 : decode M_X11_bareSize.2.2.1 37 = .ok (.aload 5, 2) := by decide +kernel
theorem dX11_bareSize_39 : decode M_X11_bareSize.2.2.1 39 = .ok (.getfield 256, 3) := by decide +kernel
theorem dX11_bareSize_42 : decode M_X11_bareSize.2.2.1 42 = .ok (.invokestatic 287, 3) := by decide +kernel
theorem dX11_bareSize_45 : decode M_X11_bareSize.2.2.1 45 = .ok (.aload_n 0, 1) := by decide +kernel
theorem dX11_bareSize_46 : decode M_X11_bareSize.2.2.1 46 = .ok (.getfield 10, 3) := by decide +kernel
theorem dX11_bareSize_49 : decode M_X11_bareSize.2.2.1 49 = .ok (.iload_n 2, 1) := by decide +kernel
theorem dX11_bareSize_50 : decode M_X11_bareSize.2.2.1 50 = .ok (.iload_n 3, 1) := by decide +kernel
theorem dX11_bareSize_51 : decode M_X11_bareSize.2.2.1 51 = .ok (.aload 6, 2) := by decide +kernel
theorem dX11_bareSize_53 : decode M_X11_bareSize.2.2.1 53 = .ok (.getfield 275, 3) := by decide +kernel
theorem dX11_bareSize_56 : decode M_X11_bareSize.2.2.1 56 = .ok (.aload 6, 2) := by decide +kernel
theorem dX11_bareSize_58 : decode M_X11_bareSize.2.2.1 58 = .ok (.getfield 278, 3) := by decide +kernel
theorem dX11_bareSize_61 : decode M_X11_bareSize.2.2.1 61 = .ok (.invokevirtual 357, 3) := by decide +kernel
theorem dX11_bareSize_64 : decode M_X11_bareSize.2.2.1 64 = .ok (.invokestatic 381, 3) := by decide +kernel
theorem dX11_bareSize_67 : decode M_X11_bareSize.2.2.1 67 = .ok (.iadd, 1) := by decide +kernel
theorem dX11_bareSize_68 : decode M_X11_bareSize.2.2.1 68 = .ok (.ireturn, 1) := by decide +kernel
theorem dX11_meanSize_0 : decode M_X11_meanSize.2.2.1 0 = .ok (.iconst 0, 1) := by decide +kernel
theorem dX11_meanSize_1 : decode M_X11_meanSize.2.2.1 1 = .ok (.istore 5, 2) := by decide +kernel
theorem dX11_meanSize_3 : decode M_X11_meanSize.2.2.1 3 = .ok (.iconst 0, 1) := by decide +kernel
theorem dX11_meanSize_4 : decode M_X11_meanSize.2.2.1 4 = .ok (.istore 6, 2) := by decide +kernel
theorem dX11_meanSize_6 : decode M_X11_meanSize.2.2.1 6 = .ok (.iconst 0, 1) := by decide +kernel
theorem dX11_meanSize_7 : decode M_X11_meanSize.2.2.1 7 = .ok (.istore 7, 2) := by decide +kernel
theorem dX11_meanSize_9 : decode M_X11_meanSize.2.2.1 9 = .ok (.iload 7, 2) := by decide +kernel
theorem dX11_meanSize_11 : decode M_X11_meanSize.2.2.1 11 = .ok (.aload_n 0, 1) := by decide +kernel
theorem dX11_meanSize_12 : decode M_X11_meanSize.2.2.1 12 = .ok (.getfield 84, 3) := by decide +kernel
theorem dX11_meanSize_15 : decode M_X11_meanSize.2.2.1 15 = .ok (.if_icmp .ge 68, 3) := by decide +kernel
theorem dX11_meanSize_18 : decode M_X11_meanSize.2.2.1 18 = .ok (.aload_n 0, 1) := by decide +kernel
theorem dX11_meanSize_19 : decode M_X11_meanSize.2.2.1 19 = .ok (.iload 7, 2) := by decide +kernel
theorem dX11_meanSize_21 : decode M_X11_meanSize.2.2.1 21 = .ok (.invokevirtual 90, 3) := by decide +kernel
theorem dX11_meanSize_24 : decode M_X11_meanSize.2.2.1 24 = .ok (.astore 8, 2) := by decide +kernel
theorem dX11_meanSize_26 : decode M_X11_meanSize.2.2.1 26 = .ok (.iload 7, 2) := by decide +kernel
theorem dX11_meanSize_28 : decode M_X11_meanSize.2.2.1 28 = .ok (.iload 4, 2) := by decide +kernel
theorem dX11_meanSize_30 : decode M_X11_meanSize.2.2.1 30 = .ok (.if_icmp .ne 8, 3) := by decide +kernel
theorem dX11_meanSize_33 : decode M_X11_meanSize.2.2.1 33 = .ok (.ldc 110, 2) := by decide +kernel
theorem dX11_meanSize_35 : decode M_X11_meanSize.2.2.1 35 = .ok (.goto 12, 3) := by decide +kernel
theorem dX11_meanSize_38 : decode M_X11_meanSize.2.2.1 38 = .ok (.aload_n 0, 1) := by decide +kernel
theorem dX11_meanSize_39 : decode M_X11_meanSize.2.2.1 39 = .ok (.aload_n 1, 1) := by decide +kernel
theorem dX11_meanSize_40 : decode M_X11_meanSize.2.2.1 40 = .ok (.iload_n 2, 1) := by decide +kernel
theorem dX11_meanSize_41 : decode M_X11_meanSize.2.2.1 41 = .ok (.iload_n 3, 1) := by decide +kernel
theorem dX11_meanSize_42 : decode M_X11_meanSize.2.2.1 42 = .ok (.iload 7, 2) := by decide +kernel
theorem dX11_meanSize_44 : decode M_X11_meanSize.2.2.1 44 = .ok (.invokevirtual 297, 3) := by decide +kernel
theorem dX11_meanSize_47 : decode M_X11_meanSize.2.2.1 47 = .ok (.istore 9, 2) := by decide +kernel
theorem dX11_meanSize_49 : decode M_X11_meanSize.2.2.1 49 = .ok (.aload 8, 2) := by decide +kernel
theorem dX11_meanSize_51 : decode M_X11_meanSize.2.2.1 51 = .ok (.ifnull 26, 3) := by decide +kernel
theorem dX11_meanSize_54 : decode M_X11_meanSize.2.2.1 54 = .ok (.iload 9, 2) := by decide +kernel
theorem dX11_meanSize_56 : decode M_X11_meanSize.2.2.1 56 = .ok (.ldc 110, 2) := by decide +kernel
theorem dX11_meanSize_58 : decode M_X11_meanSize.2.2.1 58 = .ok (.if_icmp .eq 19, 3) := by decide +kernel
theorem dX11_meanSize_61 : decode M_X11_meanSize.2.2.1 61 = .ok (.iload 5, 2) := by decide +kernel
theorem dX11_meanSize_63 : decode M_X11_meanSize.2.2.1 63 = .ok (.iload 9, 2) := by decide +kernel
theorem dX11_meanSize_65 : decode M_X11_meanSize.2.2.1 65 = .ok (.aload 8, 2) := by decide +kernel
theorem dX11_meanSize_67 : decode M_X11_meanSize.2.2.1 67 = .ok (.getfield 290, 3) := by decide +kernel
theorem dX11_meanSize_70 : decode M_X11_meanSize.2.2.1 70 = .ok (.iadd, 1) := by decide +kernel
theorem dX11_meanSize_71 : decode M_X11_meanSize.2.2.1 71 = .ok (.iadd, 1) := by decide +kernel
theorem dX11_meanSize_72 : decode M_X11_meanSize.2.2.1 72 = .ok (.istore 5, 2) := by decide +kernel
theorem dX11_meanSize_74 : decode M_X11_meanSize.2.2.1 74 = .ok (.iinc 6 1, 3) := by decide +kernel
theorem dX11_meanSize_77 : decode M_X11_meanSize.2.2.1 77 = .ok (.iinc 7 1, 3) := by decide +kernel
theorem dX11_meanSize_80 : decode M_X11_meanSize.2.2.1 80 = .ok (.goto (-71), 3) := by decide +kernel
theorem dX11_meanSize_83 : decode M_X11_meanSize.2.2.1 83 = .ok (.iload 5, 2) := by decide +kernel
theorem dX11_meanSize_85 : decode M_X11_meanSize.2.2.1 85 = .ok (.iload 6, 2) := by decide +kernel
theorem dX11_meanSize_87 : decode M_X11_meanSize.2.2.1 87 = .ok (.invokestatic 309, 3) := by decide +kernel
theorem dX11_meanSize_90 : decode M_X11_meanSize.2.2.1 90 = .ok (.ireturn, 1) := by decide +kernel
theorem dX11_lackOf_0 : decode M_X11_lackOf.2.2.1 0 = .ok (.aload_n 1, 1) := by decide +kernel
theorem dX11_lackOf_1 : decode M_X11_lackOf.2.2.1 1 = .ok (.ifnull 11, 3) := by decide +kernel
theorem dX11_lackOf_4 : decode M_X11_lackOf.2.2.1 4 = .ok (.aload_n 1, 1) := by decide +kernel
theorem dX11_lackOf_5 : decode M_X11_lackOf.2.2.1 5 = .ok (.getfield 300, 3) := by decide +kernel
theorem dX11_lackOf_8 : decode M_X11_lackOf.2.2.1 8 = .ok (.iconst (-1), 1) := by decide +kernel
theorem dX11_lackOf_9 : decode M_X11_lackOf.2.2.1 9 = .ok (.if_icmp .ne 6, 3) := by decide +kernel
theorem dX11_lackOf_12 : decode M_X11_lackOf.2.2.1 12 = .ok (.ldc 110, 2) := by decide +kernel
theorem dX11_lackOf_14 : decode M_X11_lackOf.2.2.1 14 = .ok (.ireturn, 1) := by decide +kernel
theorem dX11_lackOf_15 : decode M_X11_lackOf.2.2.1 15 = .ok (.aload_n 0, 1) := by decide +kernel
theorem dX11_lackOf_16 : decode M_X11_lackOf.2.2.1 16 = .ok (.aload_n 1, 1) := by decide +kernel
theorem dX11_lackOf_17 : decode M_X11_lackOf.2.2.1 17 = .ok (.aload_n 1, 1) := by decide +kernel
theorem dX11_lackOf_18 : decode M_X11_lackOf.2.2.1 18 = .ok (.getfield 300, 3) := by decide +kernel
theorem dX11_lackOf_21 : decode M_X11_lackOf.2.2.1 21 = .ok (.aload_n 1, 1) := by decide +kernel
theorem dX11_lackOf_22 : decode M_X11_lackOf.2.2.1 22 = .ok (.getfield 303, 3) := by decide +kernel
theorem dX11_lackOf_25 : decode M_X11_lackOf.2.2.1 25 = .ok (.iload_n 2, 1) := by decide +kernel
theorem dX11_lackOf_26 : decode M_X11_lackOf.2.2.1 26 = .ok (.invokevirtual 297, 3) := by decide +kernel
theorem dX11_lackOf_29 : decode M_X11_lackOf.2.2.1 29 = .ok (.istore_n 3, 1) := by decide +kernel
theorem dX11_lackOf_30 : decode M_X11_lackOf.2.2.1 30 = .ok (.aload_n 0, 1) := by decide +kernel
theorem dX11_lackOf_31 : decode M_X11_lackOf.2.2.1 31 = .ok (.aload_n 1, 1) := by decide +kernel
theorem dX11_lackOf_32 : decode M_X11_lackOf.2.2.1 32 = .ok (.aload_n 1, 1) := by decide +kernel
theorem dX11_lackOf_33 : decode M_X11_lackOf.2.2.1 33 = .ok (.getfield 300, 3) := by decide +kernel
theorem dX11_lackOf_36 : decode M_X11_lackOf.2.2.1 36 = .ok (.aload_n 1, 1) := by decide +kernel
theorem dX11_lackOf_37 : decode M_X11_lackOf.2.2.1 37 = .ok (.getfield 303, 3) := by decide +kernel
theorem dX11_lackOf_40 : decode M_X11_lackOf.2.2.1 40 = .ok (.iload_n 2, 1) := by decide +kernel
theorem dX11_lackOf_41 : decode M_X11_lackOf.2.2.1 41 = .ok (.invokevirtual 293, 3) := by decide +kernel
theorem dX11_lackOf_44 : decode M_X11_lackOf.2.2.1 44 = .ok (.istore 4, 2) := by decide +kernel
theorem dX11_lackOf_46 : decode M_X11_lackOf.2.2.1 46 = .ok (.iload_n 3, 1) := by decide +kernel
theorem dX11_lackOf_47 : decode M_X11_lackOf.2.2.1 47 = .ok (.ldc 110, 2) := by decide +kernel
theorem dX11_lackOf_49 : decode M_X11_lackOf.2.2.1 49 = .ok (.if_icmp .eq 10, 3) := by decide +kernel
theorem dX11_lackOf_52 : decode M_X11_lackOf.2.2.1 52 = .ok (.iload 4, 2) := by decide +kernel
theorem dX11_lackOf_54 : decode M_X11_lackOf.2.2.1 54 = .ok (.ldc 110, 2) := by decide +kernel
theorem dX11_lackOf_56 : decode M_X11_lackOf.2.2.1 56 = .ok (.if_icmp .ne 8, 3) := by decide +kernel
theorem dX11_lackOf_59 : decode M_X11_lackOf.2.2.1 59 = .ok (.ldc 110, 2) := by decide +kernel
theorem dX11_lackOf_61 : decode M_X11_lackOf.2.2.1 61 = .ok (.goto 7, 3) := by decide +kernel
theorem dX11_lackOf_64 : decode M_X11_lackOf.2.2.1 64 = .ok (.iload 4, 2) := by decide +kernel
theorem dX11_lackOf_66 : decode M_X11_lackOf.2.2.1 66 = .ok (.iload_n 3, 1) := by decide +kernel
theorem dX11_lackOf_67 : decode M_X11_lackOf.2.2.1 67 = .ok (.isub, 1) := by decide +kernel
theorem dX11_lackOf_68 : decode M_X11_lackOf.2.2.1 68 = .ok (.ireturn, 1) := by decide +kernel
theorem dX11_takeSame_0 : decode M_X11_takeSame.2.2.1 0 = .ok (.iconst 0, 1) := by decide +kernel
theorem dX11_takeSame_1 : decode M_X11_takeSame.2.2.1 1 = .ok (.istore 5, 2) := by decide +kernel
theorem dX11_takeSame_3 : decode M_X11_takeSame.2.2.1 3 = .ok (.iload 5, 2) := by decide +kernel
theorem dX11_takeSame_5 : decode M_X11_takeSame.2.2.1 5 = .ok (.aload_n 0, 1) := by decide +kernel
theorem dX11_takeSame_6 : decode M_X11_takeSame.2.2.1 6 = .ok (.getfield 70, 3) := by decide +kernel
theorem dX11_takeSame_9 : decode M_X11_takeSame.2.2.1 9 = .ok (.getfield 330, 3) := by decide +kernel
theorem dX11_takeSame_12 : decode M_X11_takeSame.2.2.1 12 = .ok (.if_icmp .ge 151, 3) := by decide +kernel
theorem dX11_takeSame_15 : decode M_X11_takeSame.2.2.1 15 = .ok (.aload_n 0, 1) := by decide +kernel
theorem dX11_takeSame_16 : decode M_X11_takeSame.2.2.1 16 = .ok (.getfield 70, 3) := by decide +kernel
theorem dX11_takeSame_19 : decode M_X11_takeSame.2.2.1 19 = .ok (.getfield 384, 3) := by decide +kernel
theorem dX11_takeSame_22 : decode M_X11_takeSame.2.2.1 22 = .ok (.iload 5, 2) := by decide +kernel
theorem dX11_takeSame_24 : decode M_X11_takeSame.2.2.1 24 = .ok (.baload, 1) := by decide +kernel
theorem dX11_takeSame_25 : decode M_X11_takeSame.2.2.1 25 = .ok (.ifCond .ne 111, 3) := by decide +kernel
theorem dX11_takeSame_28 : decode M_X11_takeSame.2.2.1 28 = .ok (.aload_n 0, 1) := by decide +kernel
theorem dX11_takeSame_29 : decode M_X11_takeSame.2.2.1 29 = .ok (.getfield 66, 3) := by decide +kernel
theorem dX11_takeSame_32 : decode M_X11_takeSame.2.2.1 32 = .ok (.getfield 388, 3) := by decide +kernel
theorem dX11_takeSame_35 : decode M_X11_takeSame.2.2.1 35 = .ok (.iload_n 1, 1) := by decide +kernel
theorem dX11_takeSame_36 : decode M_X11_takeSame.2.2.1 36 = .ok (.iaload, 1) := by decide +kernel
theorem dX11_takeSame_37 : decode M_X11_takeSame.2.2.1 37 = .ok (.aload_n 0, 1) := by decide +kernel
theorem dX11_takeSame_38 : decode M_X11_takeSame.2.2.1 38 = .ok (.getfield 70, 3) := by decide +kernel
theorem dX11_takeSame_41 : decode M_X11_takeSame.2.2.1 41 = .ok (.getfield 388, 3) := by decide +kernel
theorem dX11_takeSame_44 : decode M_X11_takeSame.2.2.1 44 = .ok (.iload 5, 2) := by decide +kernel
theorem dX11_takeSame_46 : decode M_X11_takeSame.2.2.1 46 = .ok (.iaload, 1) := by decide +kernel
theorem dX11_takeSame_47 : decode M_X11_takeSame.2.2.1 47 = .ok (.isub, 1) := by decide +kernel
theorem dX11_takeSame_48 : decode M_X11_takeSame.2.2.1 48 = .ok (.invokestatic 392, 3) := by decide +kernel
theorem dX11_takeSame_51 : decode M_X11_takeSame.2.2.1 51 = .ok (.iload_n 2, 1) := by decide +kernel
theorem dX11_takeSame_52 : decode M_X11_takeSame.2.2.1 52 = .ok (.if_icmp .gt 84, 3) := by decide +kernel
theorem dX11_takeSame_55 : decode M_X11_takeSame.2.2.1 55 = .ok (.aload_n 0, 1) := by decide +kernel
theorem dX11_takeSame_56 : decode M_X11_takeSame.2.2.1 56 = .ok (.getfield 66, 3) := by decide +kernel
theorem dX11_takeSame_59 : decode M_X11_takeSame.2.2.1 59 = .ok (.getfield 395, 3) := by decide +kernel
theorem dX11_takeSame_62 : decode M_X11_takeSame.2.2.1 62 = .ok (.iload_n 1, 1) := by decide +kernel
theorem dX11_takeSame_63 : decode M_X11_takeSame.2.2.1 63 = .ok (.iaload, 1) := by decide +kernel
theorem dX11_takeSame_64 : decode M_X11_takeSame.2.2.1 64 = .ok (.aload_n 0, 1) := by decide +kernel
theorem dX11_takeSame_65 : decode M_X11_takeSame.2.2.1 65 = .ok (.getfield 70, 3) := by decide +kernel
theorem dX11_takeSame_68 : decode M_X11_takeSame.2.2.1 68 = .ok (.getfield 395, 3) := by decide +kernel
theorem dX11_takeSame_71 : decode M_X11_takeSame.2.2.1 71 = .ok (.iload 5, 2) := by decide +kernel
theorem dX11_takeSame_73 : decode M_X11_takeSame.2.2.1 73 = .ok (.iaload, 1) := by decide +kernel
theorem dX11_takeSame_74 : decode M_X11_takeSame.2.2.1 74 = .ok (.isub, 1) := by decide +kernel
theorem dX11_takeSame_75 : decode M_X11_takeSame.2.2.1 75 = .ok (.invokestatic 392, 3) := by decide +kernel
theorem dX11_takeSame_78 : decode M_X11_takeSame.2.2.1 78 = .ok (.iload 4, 2) := by decide +kernel
theorem dX11_takeSame_80 : decode M_X11_takeSame.2.2.1 80 = .ok (.if_icmp .gt 56, 3) := by decide +kernel
theorem dX11_takeSame_83 : decode M_X11_takeSame.2.2.1 83 = .ok (.aload_n 0, 1) := by decide +kernel
theorem dX11_takeSame_84 : decode M_X11_takeSame.2.2.1 84 = .ok (.getfield 10, 3) := by decide +kernel
theorem dX11_takeSame_87 : decode M_X11_takeSame.2.2.1 87 = .ok (.aload_n 0, 1) := by decide +kernel
theorem dX11_takeSame_88 : decode M_X11_takeSame.2.2.1 88 = .ok (.getfield 66, 3) := by decide +kernel
theorem dX11_takeSame_91 : decode M_X11_takeSame.2.2.1 91 = .ok (.getfield 398, 3) := by decide +kernel
theorem dX11_takeSame_94 : decode M_X11_takeSame.2.2.1 94 = .ok (.iload_n 1, 1) := by decide +kernel
theorem dX11_takeSame_95 : decode M_X11_takeSame.2.2.1 95 = .ok (.iaload, 1) := by decide +kernel
theorem dX11_takeSame_96 : decode M_X11_takeSame.2.2.1 96 = .ok (.aload_n 0, 1) := by decide +kernel
theorem dX11_takeSame_97 : decode M_X11_takeSame.2.2.1 97 = .ok (.getfield 66, 3) := by decide +kernel
theorem dX11_takeSame_100 : decode M_X11_takeSame.2.2.1 100 = .ok (.getfield 401, 3) := by decide +kernel
theorem dX11_takeSame_103 : decode M_X11_takeSame.2.2.1 103 = .ok (.iload_n 1, 1) := by decide +kernel
theorem dX11_takeSame_104 : decode M_X11_takeSame.2.2.1 104 = .ok (.iaload, 1) := by decide +kernel
theorem dX11_takeSame_105 : decode M_X11_takeSame.2.2.1 105 = .ok (.aload_n 0, 1) := by decide +kernel
theorem dX11_takeSame_106 : decode M_X11_takeSame.2.2.1 106 = .ok (.getfield 70, 3) := by decide +kernel
theorem dX11_takeSame_109 : decode M_X11_takeSame.2.2.1 109 = .ok (.getfield 398, 3) := by decide +kernel
theorem dX11_takeSame_112 : decode M_X11_takeSame.2.2.1 112 = .ok (.iload 5, 2) := by decide +kernel
theorem dX11_takeSame_114 : decode M_X11_takeSame.2.2.1 114 = .ok (.iaload, 1) := by decide +kernel
theorem dX11_takeSame_115 : decode M_X11_takeSame.2.2.1 115 = .ok (.aload_n 0, 1) := by decide +kernel
theorem dX11_takeSame_116 : decode M_X11_takeSame.2.2.1 116 = .ok (.getfield 70, 3) := by decide +kernel
theorem dX11_takeSame_119 : decode M_X11_takeSame.2.2.1 119 = .ok (.getfield 401, 3) := by decide +kernel
theorem dX11_takeSame_122 : decode M_X11_takeSame.2.2.1 122 = .ok (.iload 5, 2) := by decide +kernel
theorem dX11_takeSame_124 : decode M_X11_takeSame.2.2.1 124 = .ok (.iaload, 1) := by decide +kernel
theorem dX11_takeSame_125 : decode M_X11_takeSame.2.2.1 125 = .ok (.invokevirtual 357, 3) := by decide +kernel
theorem dX11_takeSame_128 : decode M_X11_takeSame.2.2.1 128 = .ok (.iload_n 3, 1) := by decide +kernel
theorem dX11_takeSame_129 : decode M_X11_takeSame.2.2.1 129 = .ok (.if_icmp .gt 7, 3) := by decide +kernel
theorem dX11_takeSame_132 : decode M_X11_takeSame.2.2.1 132 = .ok (.iconst 1, 1) := by decide +kernel
theorem dX11_takeSame_133 : decode M_X11_takeSame.2.2.1 133 = .ok (.goto 4, 3) := by decide +kernel
theorem dX11_takeSame_136 : decode M_X11_takeSame.2.2.1 136 = .ok (.iconst 0, 1) := by decide +kernel
theorem dX11_takeSame_137 : decode M_X11_takeSame.2.2.1 137 = .ok (.istore 6, 2) := by decide +kernel
theorem dX11_takeSame_139 : decode M_X11_takeSame.2.2.1 139 = .ok (.iload 6, 2) := by decide +kernel
theorem dX11_takeSame_141 : decode M_X11_takeSame.2.2.1 141 = .ok (.ifCond .eq 16, 3) := by decide +kernel
theorem dX11_takeSame_144 : decode M_X11_takeSame.2.2.1 144 = .ok (.aload_n 0, 1) := by decide +kernel
theorem dX11_takeSame_145 : decode M_X11_takeSame.2.2.1 145 = .ok (.getfield 70, 3) := by decide +kernel
theorem dX11_takeSame_148 : decode M_X11_takeSame.2.2.1 148 = .ok (.getfield 384, 3) := by decide +kernel
theorem dX11_takeSame_151 : decode M_X11_takeSame.2.2.1 151 = .ok (.iload 5, 2) := by decide +kernel
theorem dX11_takeSame_153 : decode M_X11_takeSame.2.2.1 153 = .ok (.iconst 1, 1) := by decide +kernel
theorem dX11_takeSame_154 : decode M_X11_takeSame.2.2.1 154 = .ok (.bastore, 1) := by decide +kernel
theorem dX11_takeSame_155 : decode M_X11_takeSame.2.2.1 155 = .ok (.iconst 1, 1) := by decide +kernel
theorem dX11_takeSame_156 : decode M_X11_takeSame.2.2.1 156 = .ok (.ireturn, 1) := by decide +kernel
theorem dX11_takeSame_157 : decode M_X11_takeSame.2.2.1 157 = .ok (.iinc 5 1, 3) := by decide +kernel
theorem dX11_takeSame_160 : decode M_X11_takeSame.2.2.1 160 = .ok (.goto (-157), 3) := by decide +kernel
theorem dX11_takeSame_163 : decode M_X11_takeSame.2.2.1 163 = .ok (.iconst 0, 1) := by decide +kernel
theorem dX11_takeSame_164 : decode M_X11_takeSame.2.2.1 164 = .ok (.ireturn, 1) := by decide +kernel
theorem dX11_isQuarry_0 : decode M_X11_isQuarry.2.2.1 0 = .ok (.iload_n 1, 1) := by decide +kernel
theorem dX11_isQuarry_1 : decode M_X11_isQuarry.2.2.1 1 = .ok (.bipush 40, 2) := by decide +kernel
theorem dX11_isQuarry_3 : decode M_X11_isQuarry.2.2.1 3 = .ok (.irem, 1) := by decide +kernel
theorem dX11_isQuarry_4 : decode M_X11_isQuarry.2.2.1 4 = .ok (.istore 4, 2) := by decide +kernel
theorem dX11_isQuarry_6 : decode M_X11_isQuarry.2.2.1 6 = .ok (.iload_n 1, 1) := by decide +kernel
theorem dX11_isQuarry_7 : decode M_X11_isQuarry.2.2.1 7 = .ok (.bipush 40, 2) := by decide +kernel
theorem dX11_isQuarry_9 : decode M_X11_isQuarry.2.2.1 9 = .ok (.idiv, 1) := by decide +kernel
theorem dX11_isQuarry_10 : decode M_X11_isQuarry.2.2.1 10 = .ok (.istore 5, 2) := by decide +kernel
theorem dX11_isQuarry_12 : decode M_X11_isQuarry.2.2.1 12 = .ok (.iconst 0, 1) := by decide +kernel
theorem dX11_isQuarry_13 : decode M_X11_isQuarry.2.2.1 13 = .ok (.istore 6, 2) := by decide +kernel
theorem dX11_isQuarry_15 : decode M_X11_isQuarry.2.2.1 15 = .ok (.iconst 0, 1) := by decide +kernel
theorem dX11_isQuarry_16 : decode M_X11_isQuarry.2.2.1 16 = .ok (.istore 7, 2) := by decide +kernel
theorem dX11_isQuarry_18 : decode M_X11_isQuarry.2.2.1 18 = .ok (.iload 7, 2) := by decide +kernel
theorem dX11_isQuarry_20 : decode M_X11_isQuarry.2.2.1 20 = .ok (.aload_n 0, 1) := by decide +kernel
theorem dX11_isQuarry_21 : decode M_X11_isQuarry.2.2.1 21 = .ok (.getfield 66, 3) := by decide +kernel
theorem dX11_isQuarry_24 : decode M_X11_isQuarry.2.2.1 24 = .ok (.getfield 330, 3) := by decide +kernel
theorem dX11_isQuarry_27 : decode M_X11_isQuarry.2.2.1 27 = .ok (.if_icmp .ge 61, 3) := by decide +kernel
theorem dX11_isQuarry_30 : decode M_X11_isQuarry.2.2.1 30 = .ok (.aload_n 0, 1) := by decide +kernel
theorem dX11_isQuarry_31 : decode M_X11_isQuarry.2.2.1 31 = .ok (.getfield 10, 3) := by decide +kernel
theorem dX11_isQuarry_34 : decode M_X11_isQuarry.2.2.1 34 = .ok (.iload 4, 2) := by decide +kernel
theorem dX11_isQuarry_36 : decode M_X11_isQuarry.2.2.1 36 = .ok (.iload 5, 2) := by decide +kernel
theorem dX11_isQuarry_38 : decode M_X11_isQuarry.2.2.1 38 = .ok (.aload_n 0, 1) := by decide +kernel
theorem dX11_isQuarry_39 : decode M_X11_isQuarry.2.2.1 39 = .ok (.getfield 66, 3) := by decide +kernel
theorem dX11_isQuarry_42 : decode M_X11_isQuarry.2.2.1 42 = .ok (.getfield 398, 3) := by decide +kernel
theorem dX11_isQuarry_45 : decode M_X11_isQuarry.2.2.1 45 = .ok (.iload 7, 2) := by decide +kernel
theorem dX11_isQuarry_47 : decode M_X11_isQuarry.2.2.1 47 = .ok (.iaload, 1) := by decide +kernel
theorem dX11_isQuarry_48 : decode M_X11_isQuarry.2.2.1 48 = .ok (.aload_n 0, 1) := by decide +kernel
theorem dX11_isQuarry_49 : decode M_X11_isQuarry.2.2.1 49 = .ok (.getfield 66, 3) := by decide +kernel
theorem dX11_isQuarry_52 : decode M_X11_isQuarry.2.2.1 52 = .ok (.getfield 401, 3) := by decide +kernel
theorem dX11_isQuarry_55 : decode M_X11_isQuarry.2.2.1 55 = .ok (.iload 7, 2) := by decide +kernel
theorem dX11_isQuarry_57 : decode M_X11_isQuarry.2.2.1 57 = .ok (.iaload, 1) := by decide +kernel
theorem dX11_isQuarry_58 : decode M_X11_isQuarry.2.2.1 58 = .ok (.invokevirtual 357, 3) := by decide +kernel
theorem dX11_isQuarry_61 : decode M_X11_isQuarry.2.2.1 61 = .ok (.iload_n 2, 1) := by decide +kernel
theorem dX11_isQuarry_62 : decode M_X11_isQuarry.2.2.1 62 = .ok (.if_icmp .gt 20, 3) := by decide +kernel
theorem dX11_isQuarry_65 : decode M_X11_isQuarry.2.2.1 65 = .ok (.aload_n 0, 1) := by decide +kernel
theorem dX11_isQuarry_66 : decode M_X11_isQuarry.2.2.1 66 = .ok (.getfield 66, 3) := by decide +kernel
theorem dX11_isQuarry_69 : decode M_X11_isQuarry.2.2.1 69 = .ok (.iload 7, 2) := by decide +kernel
theorem dX11_isQuarry_71 : decode M_X11_isQuarry.2.2.1 71 = .ok (.invokevirtual 404, 3) := by decide +kernel
theorem dX11_isQuarry_74 : decode M_X11_isQuarry.2.2.1 74 = .ok (.ifCond .ne 5, 3) := by decide +kernel
theorem dX11_isQuarry_77 : decode M_X11_isQuarry.2.2.1 77 = .ok (.iconst 0, 1) := by decide +kernel
theorem dX11_isQuarry_78 : decode M_X11_isQuarry.2.2.1 78 = .ok (.ireturn, 1) := by decide +kernel
theorem dX11_isQuarry_79 : decode M_X11_isQuarry.2.2.1 79 = .ok (.iinc 6 1, 3) := by decide +kernel
theorem dX11_isQuarry_82 : decode M_X11_isQuarry.2.2.1 82 = .ok (.iinc 7 1, 3) := by decide +kernel
theorem dX11_isQuarry_85 : decode M_X11_isQuarry.2.2.1 85 = .ok (.goto (-67), 3) := by decide +kernel
theorem dX11_isQuarry_88 : decode M_X11_isQuarry.2.2.1 88 = .ok (.iload 6, 2) := by decide +kernel
theorem dX11_isQuarry_90 : decode M_X11_isQuarry.2.2.1 90 = .ok (.iload_n 3, 1) := by decide +kernel
theorem dX11_isQuarry_91 : decode M_X11_isQuarry.2.2.1 91 = .ok (.if_icmp .lt 7, 3) := by decide +kernel
theorem dX11_isQuarry_94 : decode M_X11_isQuarry.2.2.1 94 = .ok (.iconst 1, 1) := by decide +kernel
theorem dX11_isQuarry_95 : decode M_X11_isQuarry.2.2.1 95 = .ok (.goto 4, 3) := by decide +kernel
theorem dX11_isQuarry_98 : decode M_X11_isQuarry.2.2.1 98 = .ok (.iconst 0, 1) := by decide +kernel
theorem dX11_isQuarry_99 : decode M_X11_isQuarry.2.2.1 99 = .ok (.ireturn, 1) := by decide +kernel
theorem dX11_foretold_0 : decode M_X11_foretold.2.2.1 0 = .ok (.iload_n 1, 1) := by decide +kernel
theorem dX11_foretold_1 : decode M_X11_foretold.2.2.1 1 = .ok (.iconst 0, 1) := by decide +kernel
theorem dX11_foretold_2 : decode M_X11_foretold.2.2.1 2 = .ok (.aload_n 0, 1) := by decide +kernel
theorem dX11_foretold_3 : decode M_X11_foretold.2.2.1 3 = .ok (.getfield 76, 3) := by decide +kernel
theorem dX11_foretold_6 : decode M_X11_foretold.2.2.1 6 = .ok (.getfield 342, 3) := by decide +kernel
theorem dX11_foretold_9 : decode M_X11_foretold.2.2.1 9 = .ok (.iconst 1, 1) := by decide +kernel
theorem dX11_foretold_10 : decode M_X11_foretold.2.2.1 10 = .ok (.isub, 1) := by decide +kernel
theorem dX11_foretold_11 : decode M_X11_foretold.2.2.1 11 = .ok (.invokestatic 94, 3) := by decide +kernel
theorem dX11_foretold_14 : decode M_X11_foretold.2.2.1 14 = .ok (.ifCond .ne 5, 3) := by decide +kernel
theorem dX11_foretold_17 : decode M_X11_foretold.2.2.1 17 = .ok (.iconst 0, 1) := by decide +kernel
theorem dX11_foretold_18 : decode M_X11_foretold.2.2.1 18 = .ok (.ireturn, 1) := by decide +kernel
theorem dX11_foretold_19 : decode M_X11_foretold.2.2.1 19 = .ok (.aload_n 0, 1) := by decide +kernel
theorem dX11_foretold_20 : decode M_X11_foretold.2.2.1 20 = .ok (.getfield 76, 3) := by decide +kernel
theorem dX11_foretold_23 : decode M_X11_foretold.2.2.1 23 = .ok (.getfield 407, 3) := by decide +kernel
theorem dX11_foretold_26 : decode M_X11_foretold.2.2.1 26 = .ok (.iload_n 1, 1) := by decide +kernel
theorem dX11_foretold_27 : decode M_X11_foretold.2.2.1 27 = .ok (.iaload, 1) := by decide +kernel
theorem dX11_foretold_28 : decode M_X11_foretold.2.2.1 28 = .ok (.istore_n 2, 1) := by decide +kernel
theorem dX11_foretold_29 : decode M_X11_foretold.2.2.1 29 = .ok (.aload_n 0, 1) := by decide +kernel
theorem dX11_foretold_30 : decode M_X11_foretold.2.2.1 30 = .ok (.getfield 76, 3) := by decide +kernel
theorem dX11_foretold_33 : decode M_X11_foretold.2.2.1 33 = .ok (.getfield 410, 3) := by decide +kernel
theorem dX11_foretold_36 : decode M_X11_foretold.2.2.1 36 = .ok (.iload_n 1, 1) := by decide +kernel
theorem dX11_foretold_37 : decode M_X11_foretold.2.2.1 37 = .ok (.iaload, 1) := by decide +kernel
theorem dX11_foretold_38 : decode M_X11_foretold.2.2.1 38 = .ok (.istore_n 3, 1) := by decide +kernel
theorem dX11_foretold_39 : decode M_X11_foretold.2.2.1 39 = .ok (.iload_n 3, 1) := by decide +kernel
theorem dX11_foretold_40 : decode M_X11_foretold.2.2.1 40 = .ok (.iconst 0, 1) := by decide +kernel
theorem dX11_foretold_41 : decode M_X11_foretold.2.2.1 41 = .ok (.aload_n 0, 1) := by decide +kernel
theorem dX11_foretold_42 : decode M_X11_foretold.2.2.1 42 = .ok (.getfield 66, 3) := by decide +kernel
theorem dX11_foretold_45 : decode M_X11_foretold.2.2.1 45 = .ok (.getfield 330, 3) := by decide +kernel
theorem dX11_foretold_48 : decode M_X11_foretold.2.2.1 48 = .ok (.iconst 1, 1) := by decide +kernel
theorem dX11_foretold_49 : decode M_X11_foretold.2.2.1 49 = .ok (.isub, 1) := by decide +kernel
theorem dX11_foretold_50 : decode M_X11_foretold.2.2.1 50 = .ok (.invokestatic 94, 3) := by decide +kernel
theorem dX11_foretold_53 : decode M_X11_foretold.2.2.1 53 = .ok (.ifCond .ne 5, 3) := by decide +kernel
theorem dX11_foretold_56 : decode M_X11_foretold.2.2.1 56 = .ok (.iconst 0, 1) := by decide +kernel
theorem dX11_foretold_57 : decode M_X11_foretold.2.2.1 57 = .ok (.ireturn, 1) := by decide +kernel
theorem dX11_foretold_58 : decode M_X11_foretold.2.2.1 58 = .ok (.aload_n 0, 1) := by decide +kernel
theorem dX11_foretold_59 : decode M_X11_foretold.2.2.1 59 = .ok (.getfield 10, 3) := by decide +kernel
theorem dX11_foretold_62 : decode M_X11_foretold.2.2.1 62 = .ok (.iload_n 2, 1) := by decide +kernel
theorem dX11_foretold_63 : decode M_X11_foretold.2.2.1 63 = .ok (.bipush 40, 2) := by decide +kernel
theorem dX11_foretold_65 : decode M_X11_foretold.2.2.1 65 = .ok (.irem, 1) := by decide +kernel
theorem dX11_foretold_66 : decode M_X11_foretold.2.2.1 66 = .ok (.iload_n 2, 1) := by decide +kernel
theorem dX11_foretold_67 : decode M_X11_foretold.2.2.1 67 = .ok (.bipush 40, 2) := by decide +kernel
theorem dX11_foretold_69 : decode M_X11_foretold.2.2.1 69 = .ok (.idiv, 1) := by decide +kernel
theorem dX11_foretold_70 : decode M_X11_foretold.2.2.1 70 = .ok (.aload_n 0, 1) := by decide +kernel
theorem dX11_foretold_71 : decode M_X11_foretold.2.2.1 71 = .ok (.getfield 66, 3) := by decide +kernel
theorem dX11_foretold_74 : decode M_X11_foretold.2.2.1 74 = .ok (.getfield 398, 3) := by decide +kernel
theorem dX11_foretold_77 : decode M_X11_foretold.2.2.1 77 = .ok (.iload_n 3, 1) := by decide +kernel
theorem dX11_foretold_78 : decode M_X11_foretold.2.2.1 78 = .ok (.iaload, 1) := by decide +kernel
theorem dX11_foretold_79 : decode M_X11_foretold.2.2.1 79 = .ok (.aload_n 0, 1) := by decide +kernel
theorem dX11_foretold_80 : decode M_X11_foretold.2.2.1 80 = .ok (.getfield 66, 3) := by decide +kernel
theorem dX11_foretold_83 : decode M_X11_foretold.2.2.1 83 = .ok (.getfield 401, 3) := by decide +kernel
theorem dX11_foretold_86 : decode M_X11_foretold.2.2.1 86 = .ok (.iload_n 3, 1) := by decide +kernel
theorem dX11_foretold_87 : decode M_X11_foretold.2.2.1 87 = .ok (.iaload, 1) := by decide +kernel
theorem dX11_foretold_88 : decode M_X11_foretold.2.2.1 88 = .ok (.invokevirtual 357, 3) := by decide +kernel
theorem dX11_foretold_91 : decode M_X11_foretold.2.2.1 91 = .ok (.istore 4, 2) := by decide +kernel
theorem dX11_foretold_93 : decode M_X11_foretold.2.2.1 93 = .ok (.iconst 0, 1) := by decide +kernel
theorem dX11_foretold_94 : decode M_X11_foretold.2.2.1 94 = .ok (.aload_n 0, 1) := by decide +kernel
theorem dX11_foretold_95 : decode M_X11_foretold.2.2.1 95 = .ok (.getfield 66, 3) := by decide +kernel
theorem dX11_foretold_98 : decode M_X11_foretold.2.2.1 98 = .ok (.getfield 395, 3) := by decide +kernel
theorem dX11_foretold_101 : decode M_X11_foretold.2.2.1 101 = .ok (.iload_n 3, 1) := by decide +kernel
theorem dX11_foretold_102 : decode M_X11_foretold.2.2.1 102 = .ok (.iaload, 1) := by decide +kernel
theorem dX11_foretold_103 : decode M_X11_foretold.2.2.1 103 = .ok (.iload 4, 2) := by decide +kernel
theorem dX11_foretold_105 : decode M_X11_foretold.2.2.1 105 = .ok (.invokestatic 381, 3) := by decide +kernel
theorem dX11_foretold_108 : decode M_X11_foretold.2.2.1 108 = .ok (.isub, 1) := by decide +kernel
theorem dX11_foretold_109 : decode M_X11_foretold.2.2.1 109 = .ok (.invokestatic 364, 3) := by decide +kernel
theorem dX11_foretold_112 : decode M_X11_foretold.2.2.1 112 = .ok (.ireturn, 1) := by decide +kernel
theorem dX11_strayed_0 : decode M_X11_strayed.2.2.1 0 = .ok (.iconst 0, 1) := by decide +kernel
theorem dX11_strayed_1 : decode M_X11_strayed.2.2.1 1 = .ok (.istore_n 2, 1) := by decide +kernel
theorem dX11_strayed_2 : decode M_X11_strayed.2.2.1 2 = .ok (.iconst 0, 1) := by decide +kernel
theorem dX11_strayed_3 : decode M_X11_strayed.2.2.1 3 = .ok (.istore_n 3, 1) := by decide +kernel
theorem dX11_strayed_4 : decode M_X11_strayed.2.2.1 4 = .ok (.iload_n 3, 1) := by decide +kernel
theorem dX11_strayed_5 : decode M_X11_strayed.2.2.1 5 = .ok (.aload_n 0, 1) := by decide +kernel
theorem dX11_strayed_6 : decode M_X11_strayed.2.2.1 6 = .ok (.getfield 76, 3) := by decide +kernel
theorem dX11_strayed_9 : decode M_X11_strayed.2.2.1 9 = .ok (.getfield 342, 3) := by decide +kernel
theorem dX11_strayed_12 : decode M_X11_strayed.2.2.1 12 = .ok (.if_icmp .ge 43, 3) := by decide +kernel
theorem dX11_strayed_15 : decode M_X11_strayed.2.2.1 15 = .ok (.aload_n 0, 1) := by decide +kernel
theorem dX11_strayed_16 : decode M_X11_strayed.2.2.1 16 = .ok (.iload_n 3, 1) := by decide +kernel
theorem dX11_strayed_17 : decode M_X11_strayed.2.2.1 17 = .ok (.invokevirtual 349, 3) := by decide +kernel
theorem dX11_strayed_20 : decode M_X11_strayed.2.2.1 20 = .ok (.aload_n 0, 1) := by decide +kernel
theorem dX11_strayed_21 : decode M_X11_strayed.2.2.1 21 = .ok (.getfield 76, 3) := by decide +kernel
theorem dX11_strayed_24 : decode M_X11_strayed.2.2.1 24 = .ok (.getfield 413, 3) := by decide +kernel
theorem dX11_strayed_27 : decode M_X11_strayed.2.2.1 27 = .ok (.iload_n 3, 1) := by decide +kernel
theorem dX11_strayed_28 : decode M_X11_strayed.2.2.1 28 = .ok (.iaload, 1) := by decide +kernel
theorem dX11_strayed_29 : decode M_X11_strayed.2.2.1 29 = .ok (.isub, 1) := by decide +kernel
theorem dX11_strayed_30 : decode M_X11_strayed.2.2.1 30 = .ok (.istore 4, 2) := by decide +kernel
theorem dX11_strayed_32 : decode M_X11_strayed.2.2.1 32 = .ok (.iload_n 2, 1) := by decide +kernel
theorem dX11_strayed_33 : decode M_X11_strayed.2.2.1 33 = .ok (.iload_n 1, 1) := by decide +kernel
theorem dX11_strayed_34 : decode M_X11_strayed.2.2.1 34 = .ok (.ifCond .eq 11, 3) := by decide +kernel
theorem dX11_strayed_37 : decode M_X11_strayed.2.2.1 37 = .ok (.iload 4, 2) := by decide +kernel
theorem dX11_strayed_39 : decode M_X11_strayed.2.2.1 39 = .ok (.invokestatic 392, 3) := by decide +kernel
theorem dX11_strayed_42 : decode M_X11_strayed.2.2.1 42 = .ok (.goto 5, 3) := by decide +kernel
theorem dX11_strayed_45 : decode M_X11_strayed.2.2.1 45 = .ok (.iload 4, 2) := by decide +kernel
theorem dX11_strayed_47 : decode M_X11_strayed.2.2.1 47 = .ok (.iadd, 1) := by decide +kernel
theorem dX11_strayed_48 : decode M_X11_strayed.2.2.1 48 = .ok (.istore_n 2, 1) := by decide +kernel
theorem dX11_strayed_49 : decode M_X11_strayed.2.2.1 49 = .ok (.iinc 3 1, 3) := by decide +kernel
theorem dX11_strayed_52 : decode M_X11_strayed.2.2.1 52 = .ok (.goto (-48), 3) := by decide +kernel
theorem dX11_strayed_55 : decode M_X11_strayed.2.2.1 55 = .ok (.iload_n 2, 1) := by decide +kernel
theorem dX11_strayed_56 : decode M_X11_strayed.2.2.1 56 = .ok (.ireturn, 1) := by decide +kernel
